section
-- ===== PART A: goes FIRST, ahead of the names: the tables' words, and 'selects' of the private methods out of them =====
/-- a private method of a class that the tables say can be made, by its rows of tables_1 -/
def lw_okq (q : MethodName × Nat) : Prop := (q.1.cls ≠ "java/lang/invoke/MethodHandle" ∧ q.1.cls ≠ "java/lang/invoke/VarHandle") ∧ Cond.instantiable q.1.cls q.2 ∈ tables_1 ∧ Cond.privateMethod q.1 ∈ tables_1 ∧ Cond.instanceMethod q.1 ∈ tables_1
theorem lw_p0 : lw_okq (⟨"CellNeighbours$Text", "advance", "()V"⟩, 11) := ⟨⟨by decide +kernel, by decide +kernel⟩, List.mem_of_getElem? (i := 26) (by decide +kernel), List.mem_of_getElem? (i := 299) (by decide +kernel), List.mem_of_getElem? (i := 300) (by decide +kernel)⟩
theorem lw_p1 : lw_okq (⟨"CellNeighbours$Text", "isPlainNumber", "()Z"⟩, 11) := ⟨⟨by decide +kernel, by decide +kernel⟩, List.mem_of_getElem? (i := 26) (by decide +kernel), List.mem_of_getElem? (i := 306) (by decide +kernel), List.mem_of_getElem? (i := 307) (by decide +kernel)⟩
theorem lw_p2 : lw_okq (⟨"CellNeighbours$Text", "readItem", "()V"⟩, 11) := ⟨⟨by decide +kernel, by decide +kernel⟩, List.mem_of_getElem? (i := 26) (by decide +kernel), List.mem_of_getElem? (i := 313) (by decide +kernel), List.mem_of_getElem? (i := 314) (by decide +kernel)⟩
theorem lw_p3 : lw_okq (⟨"CellNeighbours$Text", "takeNumber", "(II)I"⟩, 11) := ⟨⟨by decide +kernel, by decide +kernel⟩, List.mem_of_getElem? (i := 26) (by decide +kernel), List.mem_of_getElem? (i := 317) (by decide +kernel), List.mem_of_getElem? (i := 318) (by decide +kernel)⟩
theorem lw_p4 : lw_okq (⟨"CellNeighbours$Text", "refuse", "()V"⟩, 11) := ⟨⟨by decide +kernel, by decide +kernel⟩, List.mem_of_getElem? (i := 26) (by decide +kernel), List.mem_of_getElem? (i := 321) (by decide +kernel), List.mem_of_getElem? (i := 322) (by decide +kernel)⟩
theorem lw_p5 : lw_okq (⟨"CellNeighbours$Text", "readMan", "()V"⟩, 11) := ⟨⟨by decide +kernel, by decide +kernel⟩, List.mem_of_getElem? (i := 26) (by decide +kernel), List.mem_of_getElem? (i := 325) (by decide +kernel), List.mem_of_getElem? (i := 326) (by decide +kernel)⟩
theorem lw_p6 : lw_okq (⟨"CellNeighbours$Text", "takeEnd", "()V"⟩, 11) := ⟨⟨by decide +kernel, by decide +kernel⟩, List.mem_of_getElem? (i := 26) (by decide +kernel), List.mem_of_getElem? (i := 341) (by decide +kernel), List.mem_of_getElem? (i := 342) (by decide +kernel)⟩
theorem lw_p7 : lw_okq (⟨"CellNeighbours$Lie", "gather", "()V"⟩, 9) := ⟨⟨by decide +kernel, by decide +kernel⟩, List.mem_of_getElem? (i := 145) (by decide +kernel), List.mem_of_getElem? (i := 431) (by decide +kernel), List.mem_of_getElem? (i := 432) (by decide +kernel)⟩
theorem lw_p8 : lw_okq (⟨"CellNeighbours$Lie", "yearsBehind", "()I"⟩, 9) := ⟨⟨by decide +kernel, by decide +kernel⟩, List.mem_of_getElem? (i := 145) (by decide +kernel), List.mem_of_getElem? (i := 438) (by decide +kernel), List.mem_of_getElem? (i := 439) (by decide +kernel)⟩
theorem lw_p9 : lw_okq (⟨"CellNeighbours$Lie", "putFrom", "(II)I"⟩, 9) := ⟨⟨by decide +kernel, by decide +kernel⟩, List.mem_of_getElem? (i := 145) (by decide +kernel), List.mem_of_getElem? (i := 442) (by decide +kernel), List.mem_of_getElem? (i := 443) (by decide +kernel)⟩
theorem lw_p10 : lw_okq (⟨"CellNeighbours$Lie", "turnsToNextWay", "()Z"⟩, 9) := ⟨⟨by decide +kernel, by decide +kernel⟩, List.mem_of_getElem? (i := 145) (by decide +kernel), List.mem_of_getElem? (i := 448) (by decide +kernel), List.mem_of_getElem? (i := 449) (by decide +kernel)⟩
theorem lw_p11 : lw_okq (⟨"CellNeighbours$Lie", "swap", "(II)V"⟩, 9) := ⟨⟨by decide +kernel, by decide +kernel⟩, List.mem_of_getElem? (i := 145) (by decide +kernel), List.mem_of_getElem? (i := 452) (by decide +kernel), List.mem_of_getElem? (i := 453) (by decide +kernel)⟩
theorem lw_p12 : lw_okq (⟨"CellNeighbours", "remember", "()V"⟩, 12) := ⟨⟨by decide +kernel, by decide +kernel⟩, List.mem_of_getElem? (i := 18) (by decide +kernel), List.mem_of_getElem? (i := 460) (by decide +kernel), List.mem_of_getElem? (i := 461) (by decide +kernel)⟩
theorem lw_p13 : lw_okq (⟨"CellNeighbours", "monthsIfFeigned", "(II)I"⟩, 12) := ⟨⟨by decide +kernel, by decide +kernel⟩, List.mem_of_getElem? (i := 18) (by decide +kernel), List.mem_of_getElem? (i := 498) (by decide +kernel), List.mem_of_getElem? (i := 499) (by decide +kernel)⟩
theorem lw_p14 : lw_okq (⟨"CellNeighbours", "monthsIfMoved", "(II)I"⟩, 12) := ⟨⟨by decide +kernel, by decide +kernel⟩, List.mem_of_getElem? (i := 18) (by decide +kernel), List.mem_of_getElem? (i := 509) (by decide +kernel), List.mem_of_getElem? (i := 510) (by decide +kernel)⟩
theorem lw_p15 : lw_okq (⟨"CellNeighbours", "isFreeBehind", "(III)Z"⟩, 12) := ⟨⟨by decide +kernel, by decide +kernel⟩, List.mem_of_getElem? (i := 18) (by decide +kernel), List.mem_of_getElem? (i := 537) (by decide +kernel), List.mem_of_getElem? (i := 538) (by decide +kernel)⟩
def lw_privs_1 : List (MethodName × Nat) := [(⟨"CellNeighbours$Text", "advance", "()V"⟩, 11), (⟨"CellNeighbours$Text", "isPlainNumber", "()Z"⟩, 11), (⟨"CellNeighbours$Text", "readItem", "()V"⟩, 11), (⟨"CellNeighbours$Text", "takeNumber", "(II)I"⟩, 11), (⟨"CellNeighbours$Text", "refuse", "()V"⟩, 11), (⟨"CellNeighbours$Text", "readMan", "()V"⟩, 11), (⟨"CellNeighbours$Text", "takeEnd", "()V"⟩, 11), (⟨"CellNeighbours$Lie", "gather", "()V"⟩, 9), (⟨"CellNeighbours$Lie", "yearsBehind", "()I"⟩, 9), (⟨"CellNeighbours$Lie", "putFrom", "(II)I"⟩, 9), (⟨"CellNeighbours$Lie", "turnsToNextWay", "()Z"⟩, 9), (⟨"CellNeighbours$Lie", "swap", "(II)V"⟩, 9), (⟨"CellNeighbours", "remember", "()V"⟩, 12), (⟨"CellNeighbours", "monthsIfFeigned", "(II)I"⟩, 12), (⟨"CellNeighbours", "monthsIfMoved", "(II)I"⟩, 12), (⟨"CellNeighbours", "isFreeBehind", "(III)Z"⟩, 12)]
theorem lw_r1 : ∀ q ∈ lw_privs_1, lw_okq q := List.forall_mem_cons.mpr ⟨lw_p0, List.forall_mem_cons.mpr ⟨lw_p1, List.forall_mem_cons.mpr ⟨lw_p2, List.forall_mem_cons.mpr ⟨lw_p3, List.forall_mem_cons.mpr ⟨lw_p4, List.forall_mem_cons.mpr ⟨lw_p5, List.forall_mem_cons.mpr ⟨lw_p6, List.forall_mem_cons.mpr ⟨lw_p7, List.forall_mem_cons.mpr ⟨lw_p8, List.forall_mem_cons.mpr ⟨lw_p9, List.forall_mem_cons.mpr ⟨lw_p10, List.forall_mem_cons.mpr ⟨lw_p11, List.forall_mem_cons.mpr ⟨lw_p12, List.forall_mem_cons.mpr ⟨lw_p13, List.forall_mem_cons.mpr ⟨lw_p14, List.forall_mem_cons.mpr ⟨lw_p15, fun _ h => absurd h List.not_mem_nil⟩⟩⟩⟩⟩⟩⟩⟩⟩⟩⟩⟩⟩⟩⟩⟩
theorem lw_p16 : lw_okq (⟨"CellNeighbours$Seen", "isSo", "(I)Z"⟩, 3) := ⟨⟨by decide +kernel, by decide +kernel⟩, List.mem_of_getElem? (i := 127) (by decide +kernel), List.mem_of_getElem? (i := 576) (by decide +kernel), List.mem_of_getElem? (i := 577) (by decide +kernel)⟩
theorem lw_p17 : lw_okq (⟨"CellNeighboursModel", "reads", "()Z"⟩, 21) := ⟨⟨by decide +kernel, by decide +kernel⟩, List.mem_of_getElem? (i := 652) (by decide +kernel), List.mem_of_getElem? (i := 658) (by decide +kernel), List.mem_of_getElem? (i := 659) (by decide +kernel)⟩
theorem lw_p18 : lw_okq (⟨"CellNeighboursModel", "token", "()V"⟩, 21) := ⟨⟨by decide +kernel, by decide +kernel⟩, List.mem_of_getElem? (i := 652) (by decide +kernel), List.mem_of_getElem? (i := 662) (by decide +kernel), List.mem_of_getElem? (i := 663) (by decide +kernel)⟩
theorem lw_p19 : lw_okq (⟨"CellNeighboursModel", "letterAt", "(I)I"⟩, 21) := ⟨⟨by decide +kernel, by decide +kernel⟩, List.mem_of_getElem? (i := 652) (by decide +kernel), List.mem_of_getElem? (i := 666) (by decide +kernel), List.mem_of_getElem? (i := 667) (by decide +kernel)⟩
theorem lw_p20 : lw_okq (⟨"CellNeighboursModel", "readsItem", "()Z"⟩, 21) := ⟨⟨by decide +kernel, by decide +kernel⟩, List.mem_of_getElem? (i := 652) (by decide +kernel), List.mem_of_getElem? (i := 676) (by decide +kernel), List.mem_of_getElem? (i := 677) (by decide +kernel)⟩
theorem lw_p21 : lw_okq (⟨"CellNeighboursModel", "number", "(III)Z"⟩, 21) := ⟨⟨by decide +kernel, by decide +kernel⟩, List.mem_of_getElem? (i := 652) (by decide +kernel), List.mem_of_getElem? (i := 680) (by decide +kernel), List.mem_of_getElem? (i := 681) (by decide +kernel)⟩
theorem lw_p22 : lw_okq (⟨"CellNeighboursModel", "readsMan", "()Z"⟩, 21) := ⟨⟨by decide +kernel, by decide +kernel⟩, List.mem_of_getElem? (i := 652) (by decide +kernel), List.mem_of_getElem? (i := 684) (by decide +kernel), List.mem_of_getElem? (i := 685) (by decide +kernel)⟩
theorem lw_p23 : lw_okq (⟨"CellNeighboursModel", "begins", "()V"⟩, 21) := ⟨⟨by decide +kernel, by decide +kernel⟩, List.mem_of_getElem? (i := 652) (by decide +kernel), List.mem_of_getElem? (i := 688) (by decide +kernel), List.mem_of_getElem? (i := 689) (by decide +kernel)⟩
theorem lw_p24 : lw_okq (⟨"CellNeighboursModel", "isMan", "(I)Z"⟩, 21) := ⟨⟨by decide +kernel, by decide +kernel⟩, List.mem_of_getElem? (i := 652) (by decide +kernel), List.mem_of_getElem? (i := 772) (by decide +kernel), List.mem_of_getElem? (i := 773) (by decide +kernel)⟩
theorem lw_p25 : lw_okq (⟨"CellNeighboursModel", "beside", "(I)I"⟩, 21) := ⟨⟨by decide +kernel, by decide +kernel⟩, List.mem_of_getElem? (i := 652) (by decide +kernel), List.mem_of_getElem? (i := 776) (by decide +kernel), List.mem_of_getElem? (i := 777) (by decide +kernel)⟩
theorem lw_p26 : lw_okq (⟨"CellNeighboursModel", "isIn", "(I)Z"⟩, 21) := ⟨⟨by decide +kernel, by decide +kernel⟩, List.mem_of_getElem? (i := 652) (by decide +kernel), List.mem_of_getElem? (i := 780) (by decide +kernel), List.mem_of_getElem? (i := 781) (by decide +kernel)⟩
theorem lw_p27 : lw_okq (⟨"CellNeighboursModel", "holds", "()V"⟩, 21) := ⟨⟨by decide +kernel, by decide +kernel⟩, List.mem_of_getElem? (i := 652) (by decide +kernel), List.mem_of_getElem? (i := 784) (by decide +kernel), List.mem_of_getElem? (i := 785) (by decide +kernel)⟩
theorem lw_p28 : lw_okq (⟨"CellNeighboursModel", "outIn", "(I)I"⟩, 21) := ⟨⟨by decide +kernel, by decide +kernel⟩, List.mem_of_getElem? (i := 652) (by decide +kernel), List.mem_of_getElem? (i := 788) (by decide +kernel), List.mem_of_getElem? (i := 789) (by decide +kernel)⟩
theorem lw_p29 : lw_okq (⟨"CellNeighboursModel", "passes", "()I"⟩, 21) := ⟨⟨by decide +kernel, by decide +kernel⟩, List.mem_of_getElem? (i := 652) (by decide +kernel), List.mem_of_getElem? (i := 792) (by decide +kernel), List.mem_of_getElem? (i := 793) (by decide +kernel)⟩
theorem lw_p30 : lw_okq (⟨"CellNeighboursModel", "then", "(I)I"⟩, 21) := ⟨⟨by decide +kernel, by decide +kernel⟩, List.mem_of_getElem? (i := 652) (by decide +kernel), List.mem_of_getElem? (i := 796) (by decide +kernel), List.mem_of_getElem? (i := 797) (by decide +kernel)⟩
theorem lw_p31 : lw_okq (⟨"CellNeighboursModel", "lets", "()V"⟩, 21) := ⟨⟨by decide +kernel, by decide +kernel⟩, List.mem_of_getElem? (i := 652) (by decide +kernel), List.mem_of_getElem? (i := 803) (by decide +kernel), List.mem_of_getElem? (i := 804) (by decide +kernel)⟩
def lw_privs_2 : List (MethodName × Nat) := [(⟨"CellNeighbours$Seen", "isSo", "(I)Z"⟩, 3), (⟨"CellNeighboursModel", "reads", "()Z"⟩, 21), (⟨"CellNeighboursModel", "token", "()V"⟩, 21), (⟨"CellNeighboursModel", "letterAt", "(I)I"⟩, 21), (⟨"CellNeighboursModel", "readsItem", "()Z"⟩, 21), (⟨"CellNeighboursModel", "number", "(III)Z"⟩, 21), (⟨"CellNeighboursModel", "readsMan", "()Z"⟩, 21), (⟨"CellNeighboursModel", "begins", "()V"⟩, 21), (⟨"CellNeighboursModel", "isMan", "(I)Z"⟩, 21), (⟨"CellNeighboursModel", "beside", "(I)I"⟩, 21), (⟨"CellNeighboursModel", "isIn", "(I)Z"⟩, 21), (⟨"CellNeighboursModel", "holds", "()V"⟩, 21), (⟨"CellNeighboursModel", "outIn", "(I)I"⟩, 21), (⟨"CellNeighboursModel", "passes", "()I"⟩, 21), (⟨"CellNeighboursModel", "then", "(I)I"⟩, 21), (⟨"CellNeighboursModel", "lets", "()V"⟩, 21)]
theorem lw_r2 : ∀ q ∈ lw_privs_2, lw_okq q := List.forall_mem_cons.mpr ⟨lw_p16, List.forall_mem_cons.mpr ⟨lw_p17, List.forall_mem_cons.mpr ⟨lw_p18, List.forall_mem_cons.mpr ⟨lw_p19, List.forall_mem_cons.mpr ⟨lw_p20, List.forall_mem_cons.mpr ⟨lw_p21, List.forall_mem_cons.mpr ⟨lw_p22, List.forall_mem_cons.mpr ⟨lw_p23, List.forall_mem_cons.mpr ⟨lw_p24, List.forall_mem_cons.mpr ⟨lw_p25, List.forall_mem_cons.mpr ⟨lw_p26, List.forall_mem_cons.mpr ⟨lw_p27, List.forall_mem_cons.mpr ⟨lw_p28, List.forall_mem_cons.mpr ⟨lw_p29, List.forall_mem_cons.mpr ⟨lw_p30, List.forall_mem_cons.mpr ⟨lw_p31, fun _ h => absurd h List.not_mem_nil⟩⟩⟩⟩⟩⟩⟩⟩⟩⟩⟩⟩⟩⟩⟩⟩
theorem lw_p32 : lw_okq (⟨"CellNeighboursModel", "isCell", "(I)Z"⟩, 21) := ⟨⟨by decide +kernel, by decide +kernel⟩, List.mem_of_getElem? (i := 652) (by decide +kernel), List.mem_of_getElem? (i := 811) (by decide +kernel), List.mem_of_getElem? (i := 812) (by decide +kernel)⟩
theorem lw_p33 : lw_okq (⟨"CellNeighboursModel", "whoIn", "(I)I"⟩, 21) := ⟨⟨by decide +kernel, by decide +kernel⟩, List.mem_of_getElem? (i := 652) (by decide +kernel), List.mem_of_getElem? (i := 815) (by decide +kernel), List.mem_of_getElem? (i := 816) (by decide +kernel)⟩
theorem lw_p34 : lw_okq (⟨"CellNeighboursModel", "allIn", "()I"⟩, 21) := ⟨⟨by decide +kernel, by decide +kernel⟩, List.mem_of_getElem? (i := 652) (by decide +kernel), List.mem_of_getElem? (i := 823) (by decide +kernel), List.mem_of_getElem? (i := 824) (by decide +kernel)⟩
theorem lw_p35 : lw_okq (⟨"CellNeighboursModel", "allYears", "()I"⟩, 21) := ⟨⟨by decide +kernel, by decide +kernel⟩, List.mem_of_getElem? (i := 652) (by decide +kernel), List.mem_of_getElem? (i := 827) (by decide +kernel), List.mem_of_getElem? (i := 828) (by decide +kernel)⟩
theorem lw_p36 : lw_okq (⟨"CellNeighboursModel", "least", "()I"⟩, 21) := ⟨⟨by decide +kernel, by decide +kernel⟩, List.mem_of_getElem? (i := 652) (by decide +kernel), List.mem_of_getElem? (i := 831) (by decide +kernel), List.mem_of_getElem? (i := 832) (by decide +kernel)⟩
theorem lw_p37 : lw_okq (⟨"CellNeighboursModel", "nextRow", "(I)Z"⟩, 21) := ⟨⟨by decide +kernel, by decide +kernel⟩, List.mem_of_getElem? (i := 652) (by decide +kernel), List.mem_of_getElem? (i := 835) (by decide +kernel), List.mem_of_getElem? (i := 836) (by decide +kernel)⟩
theorem lw_p38 : lw_okq (⟨"CellNeighboursModel", "keeps", "()V"⟩, 21) := ⟨⟨by decide +kernel, by decide +kernel⟩, List.mem_of_getElem? (i := 652) (by decide +kernel), List.mem_of_getElem? (i := 843) (by decide +kernel), List.mem_of_getElem? (i := 844) (by decide +kernel)⟩
theorem lw_p39 : lw_okq (⟨"CellNeighboursModel", "soonest", "(IZI)I"⟩, 21) := ⟨⟨by decide +kernel, by decide +kernel⟩, List.mem_of_getElem? (i := 652) (by decide +kernel), List.mem_of_getElem? (i := 868) (by decide +kernel), List.mem_of_getElem? (i := 869) (by decide +kernel)⟩
theorem lw_p40 : lw_okq (⟨"CellNeighboursModel", "hardsNow", "()I"⟩, 21) := ⟨⟨by decide +kernel, by decide +kernel⟩, List.mem_of_getElem? (i := 652) (by decide +kernel), List.mem_of_getElem? (i := 900) (by decide +kernel), List.mem_of_getElem? (i := 901) (by decide +kernel)⟩
def lw_privs_3 : List (MethodName × Nat) := [(⟨"CellNeighboursModel", "isCell", "(I)Z"⟩, 21), (⟨"CellNeighboursModel", "whoIn", "(I)I"⟩, 21), (⟨"CellNeighboursModel", "allIn", "()I"⟩, 21), (⟨"CellNeighboursModel", "allYears", "()I"⟩, 21), (⟨"CellNeighboursModel", "least", "()I"⟩, 21), (⟨"CellNeighboursModel", "nextRow", "(I)Z"⟩, 21), (⟨"CellNeighboursModel", "keeps", "()V"⟩, 21), (⟨"CellNeighboursModel", "soonest", "(IZI)I"⟩, 21), (⟨"CellNeighboursModel", "hardsNow", "()I"⟩, 21)]
theorem lw_r3 : ∀ q ∈ lw_privs_3, lw_okq q := List.forall_mem_cons.mpr ⟨lw_p32, List.forall_mem_cons.mpr ⟨lw_p33, List.forall_mem_cons.mpr ⟨lw_p34, List.forall_mem_cons.mpr ⟨lw_p35, List.forall_mem_cons.mpr ⟨lw_p36, List.forall_mem_cons.mpr ⟨lw_p37, List.forall_mem_cons.mpr ⟨lw_p38, List.forall_mem_cons.mpr ⟨lw_p39, List.forall_mem_cons.mpr ⟨lw_p40, fun _ h => absurd h List.not_mem_nil⟩⟩⟩⟩⟩⟩⟩⟩⟩
def lw_privs : List (MethodName × Nat) := lw_privs_1 ++ (lw_privs_2 ++ (lw_privs_3))
def lw_tbl : List Cond := k2_sels lw_privs ++ tables_1
theorem lw_privs_ok : ∀ q ∈ lw_privs, lw_okq q := by
  show ∀ q ∈ lw_privs_1 ++ (lw_privs_2 ++ (lw_privs_3)), lw_okq q
  exact List.forall_mem_append.mpr ⟨lw_r1, List.forall_mem_append.mpr ⟨lw_r2, lw_r3⟩⟩
end
section
def RX0 : String := "CellNeighbours$Boy"
def TX0 : u_T := fun k => match k with
  | _ => ("", "", "", false)
def tyX0 : Nat → FieldType := fun k => match k with
  | _ => .int
theorem nmX0 : ∀ a, a < 0 → ∀ b, b < 0 → a ≠ b → (TX0 a).2.1 ≠ (TX0 b).2.1 := by decide +kernel
theorem tyX0_ok : ∀ k, k < 0 → parseFieldDescriptor (TX0 k).2.2.1 = some (tyX0 k) := by decide +kernel
abbrev cX0_init : ByteArray := prog_2_method_1_code
def yX0_init : MethodName := ⟨RX0, "<init>", "()V"⟩
abbrev cX0_worth : ByteArray := prog_2_method_2_code
def yX0_worth : MethodName := ⟨RX0, "worth", "(LCellNeighbours$Scene;ILCellNeighbours$Tally;)I"⟩
def RX1 : String := "CellNeighbours$Lawyer"
def TX1 : u_T := fun k => match k with
  | _ => ("", "", "", false)
def tyX1 : Nat → FieldType := fun k => match k with
  | _ => .int
theorem nmX1 : ∀ a, a < 0 → ∀ b, b < 0 → a ≠ b → (TX1 a).2.1 ≠ (TX1 b).2.1 := by decide +kernel
theorem tyX1_ok : ∀ k, k < 0 → parseFieldDescriptor (TX1 k).2.2.1 = some (tyX1 k) := by decide +kernel
abbrev cX1_init : ByteArray := prog_3_method_1_code
def yX1_init : MethodName := ⟨RX1, "<init>", "()V"⟩
abbrev cX1_worth : ByteArray := prog_3_method_2_code
def yX1_worth : MethodName := ⟨RX1, "worth", "(LCellNeighbours$Scene;ILCellNeighbours$Tally;)I"⟩
def RX2 : String := "CellNeighbours$Lie"
def TX2 : u_T := fun k => match k with
  | 0 => ("CellNeighbours$Lie", "leastYears", "I", false)
  | 1 => ("CellNeighbours$Lie", "sought", "LCellNeighbours$Scene;", true)
  | 2 => ("CellNeighbours$Lie", "isSought", "Z", false)
  | 3 => ("CellNeighbours$Lie", "size", "I", false)
  | 4 => ("CellNeighbours$Lie", "men", "[I", true)
  | 5 => ("CellNeighbours$Lie", "way", "[I", true)
  | 6 => ("CellNeighbours$Lie", "bestWay", "[I", true)
  | 7 => ("CellNeighbours$Lie", "puts", "[I", true)
  | _ => ("CellNeighbours$Lie", "inCell", "[I", true)
def tyX2 : Nat → FieldType := fun k => match k with
  | 0 => .int
  | 1 => .object "CellNeighbours$Scene"
  | 2 => .boolean
  | 3 => .int
  | 4 => .array .int
  | 5 => .array .int
  | 6 => .array .int
  | 7 => .array .int
  | _ => .array .int
theorem nmX2 : ∀ a, a < 9 → ∀ b, b < 9 → a ≠ b → (TX2 a).2.1 ≠ (TX2 b).2.1 := by decide +kernel
theorem tyX2_ok : ∀ k, k < 9 → parseFieldDescriptor (TX2 k).2.2.1 = some (tyX2 k) := by decide +kernel
abbrev cX2_init : ByteArray := prog_4_method_1_code
def yX2_init : MethodName := ⟨RX2, "<init>", "()V"⟩
abbrev cX2_seek : ByteArray := prog_4_method_2_code
def yX2_seek : MethodName := ⟨RX2, "seek", "(LCellNeighbours$Scene;)V"⟩
abbrev cX2_bestCellOf : ByteArray := prog_4_method_3_code
def yX2_bestCellOf : MethodName := ⟨RX2, "bestCellOf", "(I)I"⟩
abbrev cX2_gather : ByteArray := prog_4_method_4_code
def yX2_gather : MethodName := ⟨RX2, "gather", "()V"⟩
abbrev cX2_yearsBehind : ByteArray := prog_4_method_5_code
def yX2_yearsBehind : MethodName := ⟨RX2, "yearsBehind", "()I"⟩
abbrev cX2_putFrom : ByteArray := prog_4_method_6_code
def yX2_putFrom : MethodName := ⟨RX2, "putFrom", "(II)I"⟩
abbrev cX2_turnsToNextWay : ByteArray := prog_4_method_7_code
def yX2_turnsToNextWay : MethodName := ⟨RX2, "turnsToNextWay", "()Z"⟩
abbrev cX2_swap : ByteArray := prog_4_method_8_code
def yX2_swap : MethodName := ⟨RX2, "swap", "(II)V"⟩
def RX3 : String := "CellNeighbours$Man"
def TX3 : u_T := fun k => match k with
  | _ => ("", "", "", false)
def tyX3 : Nat → FieldType := fun k => match k with
  | _ => .int
theorem nmX3 : ∀ a, a < 0 → ∀ b, b < 0 → a ≠ b → (TX3 a).2.1 ≠ (TX3 b).2.1 := by decide +kernel
theorem tyX3_ok : ∀ k, k < 0 → parseFieldDescriptor (TX3 k).2.2.1 = some (tyX3 k) := by decide +kernel
abbrev cX3_init : ByteArray := prog_5_method_1_code
def yX3_init : MethodName := ⟨RX3, "<init>", "()V"⟩
abbrev cX3_worth : ByteArray := prog_5_method_2_code
def yX3_worth : MethodName := ⟨RX3, "worth", "(LCellNeighbours$Scene;ILCellNeighbours$Tally;)I"⟩
def RX4 : String := "CellNeighbours$Pear"
def TX4 : u_T := fun k => match k with
  | _ => ("", "", "", false)
def tyX4 : Nat → FieldType := fun k => match k with
  | _ => .int
theorem nmX4 : ∀ a, a < 0 → ∀ b, b < 0 → a ≠ b → (TX4 a).2.1 ≠ (TX4 b).2.1 := by decide +kernel
theorem tyX4_ok : ∀ k, k < 0 → parseFieldDescriptor (TX4 k).2.2.1 = some (tyX4 k) := by decide +kernel
abbrev cX4_init : ByteArray := prog_6_method_1_code
def yX4_init : MethodName := ⟨RX4, "<init>", "()V"⟩
abbrev cX4_worth : ByteArray := prog_6_method_2_code
def yX4_worth : MethodName := ⟨RX4, "worth", "(LCellNeighbours$Scene;ILCellNeighbours$Tally;)I"⟩
def RX5 : String := "CellNeighbours$Scene"
def TX5 : u_T := fun k => match k with
  | 0 => ("CellNeighbours$Scene", "cells", "I", false)
  | 1 => ("CellNeighbours$Scene", "men", "I", false)
  | 2 => ("CellNeighbours$Scene", "monthsGone", "I", false)
  | 3 => ("CellNeighbours$Scene", "cellOf", "[I", true)
  | 4 => ("CellNeighbours$Scene", "soundOf", "[I", true)
  | 5 => ("CellNeighbours$Scene", "hardOf", "[I", true)
  | 6 => ("CellNeighbours$Scene", "yearsOf", "[I", true)
  | _ => ("CellNeighbours$Scene", "inCell", "[I", true)
def tyX5 : Nat → FieldType := fun k => match k with
  | 0 => .int
  | 1 => .int
  | 2 => .int
  | 3 => .array .int
  | 4 => .array .int
  | 5 => .array .int
  | 6 => .array .int
  | _ => .array .int
theorem nmX5 : ∀ a, a < 8 → ∀ b, b < 8 → a ≠ b → (TX5 a).2.1 ≠ (TX5 b).2.1 := by decide +kernel
theorem tyX5_ok : ∀ k, k < 8 → parseFieldDescriptor (TX5 k).2.2.1 = some (tyX5 k) := by decide +kernel
abbrev cX5_init : ByteArray := prog_7_method_1_code
def yX5_init : MethodName := ⟨RX5, "<init>", "()V"⟩
abbrev cX5_makeEmpty : ByteArray := prog_7_method_2_code
def yX5_makeEmpty : MethodName := ⟨RX5, "makeEmpty", "()V"⟩
abbrev cX5_copyFrom : ByteArray := prog_7_method_3_code
def yX5_copyFrom : MethodName := ⟨RX5, "copyFrom", "(LCellNeighbours$Scene;)V"⟩
abbrev cX5_liesLike : ByteArray := prog_7_method_4_code
def yX5_liesLike : MethodName := ⟨RX5, "liesLike", "(LCellNeighbours$Scene;)Z"⟩
abbrev cX5_hasMan : ByteArray := prog_7_method_5_code
def yX5_hasMan : MethodName := ⟨RX5, "hasMan", "(I)Z"⟩
abbrev cX5_hasCell : ByteArray := prog_7_method_6_code
def yX5_hasCell : MethodName := ⟨RX5, "hasCell", "(I)Z"⟩
abbrev cX5_isIn : ByteArray := prog_7_method_7_code
def yX5_isIn : MethodName := ⟨RX5, "isIn", "(I)Z"⟩
abbrev cX5_whoIn : ByteArray := prog_7_method_8_code
def yX5_whoIn : MethodName := ⟨RX5, "whoIn", "(I)I"⟩
abbrev cX5_addMan : ByteArray := prog_7_method_9_code
def yX5_addMan : MethodName := ⟨RX5, "addMan", "(IIII)V"⟩
abbrev cX5_leaveCell : ByteArray := prog_7_method_10_code
def yX5_leaveCell : MethodName := ⟨RX5, "leaveCell", "(I)V"⟩
abbrev cX5_moveTo : ByteArray := prog_7_method_11_code
def yX5_moveTo : MethodName := ⟨RX5, "moveTo", "(II)V"⟩
abbrev cX5_figureFrom : ByteArray := prog_7_method_12_code
def yX5_figureFrom : MethodName := ⟨RX5, "figureFrom", "(II)I"⟩
abbrev cX5_yearsAfter : ByteArray := prog_7_method_13_code
def yX5_yearsAfter : MethodName := ⟨RX5, "yearsAfter", "(I)I"⟩
abbrev cX5_passMonth : ByteArray := prog_7_method_14_code
def yX5_passMonth : MethodName := ⟨RX5, "passMonth", "()I"⟩
abbrev cX5_monthsTillFree : ByteArray := prog_7_method_15_code
def yX5_monthsTillFree : MethodName := ⟨RX5, "monthsTillFree", "(I)I"⟩
abbrev cX5_bitsIn : ByteArray := prog_7_method_16_code
def yX5_bitsIn : MethodName := ⟨RX5, "bitsIn", "()I"⟩
abbrev cX5_yearsOfAll : ByteArray := prog_7_method_17_code
def yX5_yearsOfAll : MethodName := ⟨RX5, "yearsOfAll", "()I"⟩
abbrev cX5_neighbourBits : ByteArray := prog_7_method_18_code
def yX5_neighbourBits : MethodName := ⟨RX5, "neighbourBits", "(I)I"⟩
abbrev cX5_bitOf : ByteArray := prog_7_method_19_code
def yX5_bitOf : MethodName := ⟨RX5, "bitOf", "(I)I"⟩
abbrev cX5_toldOn : ByteArray := prog_7_method_20_code
def yX5_toldOn : MethodName := ⟨RX5, "toldOn", "(II)I"⟩
abbrev cX5_bitsWithin : ByteArray := prog_7_method_21_code
def yX5_bitsWithin : MethodName := ⟨RX5, "bitsWithin", "(II)I"⟩
def RX6 : String := "CellNeighbours$Seen"
def TX6 : u_T := fun k => match k with
  | 0 => ("CellNeighbours$Seen", "size", "I", false)
  | 1 => ("CellNeighbours$Seen", "sounds", "[I", true)
  | _ => ("CellNeighbours$Seen", "figures", "[I", true)
def tyX6 : Nat → FieldType := fun k => match k with
  | 0 => .int
  | 1 => .array .int
  | _ => .array .int
theorem nmX6 : ∀ a, a < 3 → ∀ b, b < 3 → a ≠ b → (TX6 a).2.1 ≠ (TX6 b).2.1 := by decide +kernel
theorem tyX6_ok : ∀ k, k < 3 → parseFieldDescriptor (TX6 k).2.2.1 = some (tyX6 k) := by decide +kernel
abbrev cX6_init : ByteArray := prog_8_method_1_code
def yX6_init : MethodName := ⟨RX6, "<init>", "()V"⟩
abbrev cX6_add : ByteArray := prog_8_method_2_code
def yX6_add : MethodName := ⟨RX6, "add", "(II)V"⟩
abbrev cX6_hardBits : ByteArray := prog_8_method_3_code
def yX6_hardBits : MethodName := ⟨RX6, "hardBits", "()I"⟩
abbrev cX6_isSo : ByteArray := prog_8_method_4_code
def yX6_isSo : MethodName := ⟨RX6, "isSo", "(I)Z"⟩
abbrev cX6_soundToTry : ByteArray := prog_8_method_5_code
def yX6_soundToTry : MethodName := ⟨RX6, "soundToTry", "()I"⟩
abbrev cX6_mostAlike : ByteArray := prog_8_method_6_code
def yX6_mostAlike : MethodName := ⟨RX6, "mostAlike", "(II)I"⟩
abbrev cX6_countAlike : ByteArray := prog_8_method_7_code
def yX6_countAlike : MethodName := ⟨RX6, "countAlike", "(III)I"⟩
def RX7 : String := "CellNeighbours$Tally"
def TX7 : u_T := fun k => match k with
  | _ => ("CellNeighbours$Tally", "sum", "J", false)
def tyX7 : Nat → FieldType := fun k => match k with
  | _ => .long
theorem nmX7 : ∀ a, a < 1 → ∀ b, b < 1 → a ≠ b → (TX7 a).2.1 ≠ (TX7 b).2.1 := by decide +kernel
theorem tyX7_ok : ∀ k, k < 1 → parseFieldDescriptor (TX7 k).2.2.1 = some (tyX7 k) := by decide +kernel
abbrev cX7_init : ByteArray := prog_9_method_1_code
def yX7_init : MethodName := ⟨RX7, "<init>", "()V"⟩
def RX8 : String := "CellNeighbours$Text"
def TX8 : u_T := fun k => match k with
  | 0 => ("CellNeighbours$Text", "length", "I", false)
  | 1 => ("CellNeighbours$Text", "letters", "[I", true)
  | 2 => ("CellNeighbours$Text", "draft", "LCellNeighbours$Scene;", true)
  | 3 => ("CellNeighbours$Text", "loudness", "I", false)
  | 4 => ("CellNeighbours$Text", "items", "I", false)
  | 5 => ("CellNeighbours$Text", "fault", "I", false)
  | 6 => ("CellNeighbours$Text", "place", "I", false)
  | 7 => ("CellNeighbours$Text", "loudTold", "Z", false)
  | 8 => ("CellNeighbours$Text", "token", "I", false)
  | 9 => ("CellNeighbours$Text", "tokenPlace", "I", false)
  | _ => ("CellNeighbours$Text", "number", "I", false)
def tyX8 : Nat → FieldType := fun k => match k with
  | 0 => .int
  | 1 => .array .int
  | 2 => .object "CellNeighbours$Scene"
  | 3 => .int
  | 4 => .int
  | 5 => .int
  | 6 => .int
  | 7 => .boolean
  | 8 => .int
  | 9 => .int
  | _ => .int
theorem nmX8 : ∀ a, a < 11 → ∀ b, b < 11 → a ≠ b → (TX8 a).2.1 ≠ (TX8 b).2.1 := by decide +kernel
theorem tyX8_ok : ∀ k, k < 11 → parseFieldDescriptor (TX8 k).2.2.1 = some (tyX8 k) := by decide +kernel
abbrev cX8_init : ByteArray := prog_10_method_1_code
def yX8_init : MethodName := ⟨RX8, "<init>", "()V"⟩
abbrev cX8_add : ByteArray := prog_10_method_2_code
def yX8_add : MethodName := ⟨RX8, "add", "(I)V"⟩
abbrev cX8_isRead : ByteArray := prog_10_method_3_code
def yX8_isRead : MethodName := ⟨RX8, "isRead", "()Z"⟩
abbrev cX8_readItem : ByteArray := prog_10_method_4_code
def yX8_readItem : MethodName := ⟨RX8, "readItem", "()V"⟩
abbrev cX8_readMan : ByteArray := prog_10_method_5_code
def yX8_readMan : MethodName := ⟨RX8, "readMan", "()V"⟩
abbrev cX8_takeNumber : ByteArray := prog_10_method_6_code
def yX8_takeNumber : MethodName := ⟨RX8, "takeNumber", "(II)I"⟩
abbrev cX8_takeEnd : ByteArray := prog_10_method_7_code
def yX8_takeEnd : MethodName := ⟨RX8, "takeEnd", "()V"⟩
abbrev cX8_refuse : ByteArray := prog_10_method_8_code
def yX8_refuse : MethodName := ⟨RX8, "refuse", "()V"⟩
abbrev cX8_advance : ByteArray := prog_10_method_9_code
def yX8_advance : MethodName := ⟨RX8, "advance", "()V"⟩
abbrev cX8_isPlainNumber : ByteArray := prog_10_method_10_code
def yX8_isPlainNumber : MethodName := ⟨RX8, "isPlainNumber", "()Z"⟩
abbrev cX8_isKnownLetter : ByteArray := prog_10_method_11_code
def yX8_isKnownLetter : MethodName := ⟨RX8, "isKnownLetter", "(I)Z"⟩
abbrev cX8_isDigit : ByteArray := prog_10_method_12_code
def yX8_isDigit : MethodName := ⟨RX8, "isDigit", "(I)Z"⟩
def RX9 : String := "CellNeighbours$Thief"
def TX9 : u_T := fun k => match k with
  | _ => ("", "", "", false)
def tyX9 : Nat → FieldType := fun k => match k with
  | _ => .int
theorem nmX9 : ∀ a, a < 0 → ∀ b, b < 0 → a ≠ b → (TX9 a).2.1 ≠ (TX9 b).2.1 := by decide +kernel
theorem tyX9_ok : ∀ k, k < 0 → parseFieldDescriptor (TX9 k).2.2.1 = some (tyX9 k) := by decide +kernel
abbrev cX9_init : ByteArray := prog_11_method_1_code
def yX9_init : MethodName := ⟨RX9, "<init>", "()V"⟩
abbrev cX9_worth : ByteArray := prog_11_method_2_code
def yX9_worth : MethodName := ⟨RX9, "worth", "(LCellNeighbours$Scene;ILCellNeighbours$Tally;)I"⟩
def RX10 : String := "CellNeighbours$Warder"
def TX10 : u_T := fun k => match k with
  | _ => ("", "", "", false)
def tyX10 : Nat → FieldType := fun k => match k with
  | _ => .int
theorem nmX10 : ∀ a, a < 0 → ∀ b, b < 0 → a ≠ b → (TX10 a).2.1 ≠ (TX10 b).2.1 := by decide +kernel
theorem tyX10_ok : ∀ k, k < 0 → parseFieldDescriptor (TX10 k).2.2.1 = some (tyX10 k) := by decide +kernel
abbrev cX10_init : ByteArray := prog_12_method_1_code
def yX10_init : MethodName := ⟨RX10, "<init>", "()V"⟩
abbrev cX10_worth : ByteArray := prog_12_method_2_code
def yX10_worth : MethodName := ⟨RX10, "worth", "(LCellNeighbours$Scene;ILCellNeighbours$Tally;)I"⟩
def RX11 : String := "CellNeighbours"
def TX11 : u_T := fun k => match k with
  | 0 => ("CellNeighbours", "text", "LCellNeighbours$Text;", true)
  | 1 => ("CellNeighbours", "loudness", "I", false)
  | 2 => ("CellNeighbours", "scene", "LCellNeighbours$Scene;", true)
  | 3 => ("CellNeighbours", "trial", "LCellNeighbours$Scene;", true)
  | 4 => ("CellNeighbours", "past", "[LCellNeighbours$Scene;", true)
  | 5 => ("CellNeighbours", "pastCount", "I", false)
  | 6 => ("CellNeighbours", "images", "[LCellNeighbours$Scene;", true)
  | 7 => ("CellNeighbours", "kept", "[Z", true)
  | 8 => ("CellNeighbours", "seen", "LCellNeighbours$Seen;", true)
  | 9 => ("CellNeighbours", "lie", "LCellNeighbours$Lie;", true)
  | 10 => ("CellNeighbours", "kinds", "[LCellNeighbours$Man;", true)
  | _ => ("CellNeighbours", "tally", "LCellNeighbours$Tally;", true)
def tyX11 : Nat → FieldType := fun k => match k with
  | 0 => .object "CellNeighbours$Text"
  | 1 => .int
  | 2 => .object "CellNeighbours$Scene"
  | 3 => .object "CellNeighbours$Scene"
  | 4 => .array (.object "CellNeighbours$Scene")
  | 5 => .int
  | 6 => .array (.object "CellNeighbours$Scene")
  | 7 => .array .boolean
  | 8 => .object "CellNeighbours$Seen"
  | 9 => .object "CellNeighbours$Lie"
  | 10 => .array (.object "CellNeighbours$Man")
  | _ => .object "CellNeighbours$Tally"
theorem nmX11 : ∀ a, a < 12 → ∀ b, b < 12 → a ≠ b → (TX11 a).2.1 ≠ (TX11 b).2.1 := by decide +kernel
theorem tyX11_ok : ∀ k, k < 12 → parseFieldDescriptor (TX11 k).2.2.1 = some (tyX11 k) := by decide +kernel
abbrev cX11_init : ByteArray := prog_1_method_1_code
def yX11_init : MethodName := ⟨RX11, "<init>", "()V"⟩
abbrev cX11_type : ByteArray := prog_1_method_2_code
def yX11_type : MethodName := ⟨RX11, "type", "(I)I"⟩
abbrev cX11_clear : ByteArray := prog_1_method_3_code
def yX11_clear : MethodName := ⟨RX11, "clear", "()I"⟩
abbrev cX11_gaol : ByteArray := prog_1_method_4_code
def yX11_gaol : MethodName := ⟨RX11, "gaol", "()I"⟩
abbrev cX11_man : ByteArray := prog_1_method_5_code
def yX11_man : MethodName := ⟨RX11, "man", "(II)I"⟩
abbrev cX11_cell : ByteArray := prog_1_method_6_code
def yX11_cell : MethodName := ⟨RX11, "cell", "(I)I"⟩
abbrev cX11_now : ByteArray := prog_1_method_7_code
def yX11_now : MethodName := ⟨RX11, "now", "(I)I"⟩
abbrev cX11_month : ByteArray := prog_1_method_8_code
def yX11_month : MethodName := ⟨RX11, "month", "()I"⟩
abbrev cX11_moves : ByteArray := prog_1_method_9_code
def yX11_moves : MethodName := ⟨RX11, "moves", "(II)I"⟩
abbrev cX11_feigns : ByteArray := prog_1_method_10_code
def yX11_feigns : MethodName := ⟨RX11, "feigns", "(II)I"⟩
abbrev cX11_undo : ByteArray := prog_1_method_11_code
def yX11_undo : MethodName := ⟨RX11, "undo", "()I"⟩
abbrev cX11_brings : ByteArray := prog_1_method_12_code
def yX11_brings : MethodName := ⟨RX11, "brings", "(I)I"⟩
abbrev cX11_putsOn : ByteArray := prog_1_method_13_code
def yX11_putsOn : MethodName := ⟨RX11, "putsOn", "(II)I"⟩
abbrev cX11_carry : ByteArray := prog_1_method_14_code
def yX11_carry : MethodName := ⟨RX11, "carry", "(II)I"⟩
abbrev cX11_lies : ByteArray := prog_1_method_15_code
def yX11_lies : MethodName := ⟨RX11, "lies", "(I)I"⟩
abbrev cX11_word : ByteArray := prog_1_method_16_code
def yX11_word : MethodName := ⟨RX11, "word", "(II)I"⟩
abbrev cX11_odds : ByteArray := prog_1_method_17_code
def yX11_odds : MethodName := ⟨RX11, "odds", "(IIII)I"⟩
abbrev cX11_sees : ByteArray := prog_1_method_18_code
def yX11_sees : MethodName := ⟨RX11, "sees", "(II)I"⟩
abbrev cX11_forget : ByteArray := prog_1_method_19_code
def yX11_forget : MethodName := ⟨RX11, "forget", "()I"⟩
abbrev cX11_hards : ByteArray := prog_1_method_20_code
def yX11_hards : MethodName := ⟨RX11, "hards", "()I"⟩
abbrev cX11_next : ByteArray := prog_1_method_21_code
def yX11_next : MethodName := ⟨RX11, "next", "()I"⟩
abbrev cX11_rate : ByteArray := prog_1_method_22_code
def yX11_rate : MethodName := ⟨RX11, "rate", "(II)I"⟩
abbrev cX11_keep : ByteArray := prog_1_method_23_code
def yX11_keep : MethodName := ⟨RX11, "keep", "(I)I"⟩
abbrev cX11_back : ByteArray := prog_1_method_24_code
def yX11_back : MethodName := ⟨RX11, "back", "(I)I"⟩
abbrev cX11_count : ByteArray := prog_1_method_25_code
def yX11_count : MethodName := ⟨RX11, "count", "(I)I"⟩
abbrev cX11_trace : ByteArray := prog_1_method_26_code
def yX11_trace : MethodName := ⟨RX11, "trace", "()J"⟩
abbrev cX11_isSound : ByteArray := prog_1_method_27_code
def yX11_isSound : MethodName := ⟨RX11, "isSound", "(I)Z"⟩
abbrev cX11_isImage : ByteArray := prog_1_method_28_code
def yX11_isImage : MethodName := ⟨RX11, "isImage", "(I)Z"⟩
abbrev cX11_isWhichOrMonths : ByteArray := prog_1_method_29_code
def yX11_isWhichOrMonths : MethodName := ⟨RX11, "isWhichOrMonths", "(I)Z"⟩
abbrev cX11_isSooner : ByteArray := prog_1_method_30_code
def yX11_isSooner : MethodName := ⟨RX11, "isSooner", "(II)Z"⟩
abbrev cX11_figure : ByteArray := prog_1_method_31_code
def yX11_figure : MethodName := ⟨RX11, "figure", "(II)I"⟩
abbrev cX11_withinYears : ByteArray := prog_1_method_32_code
def yX11_withinYears : MethodName := ⟨RX11, "withinYears", "(I)I"⟩
abbrev cX11_remember : ByteArray := prog_1_method_33_code
def yX11_remember : MethodName := ⟨RX11, "remember", "()V"⟩
abbrev cX11_monthsIfFeigned : ByteArray := prog_1_method_34_code
def yX11_monthsIfFeigned : MethodName := ⟨RX11, "monthsIfFeigned", "(II)I"⟩
abbrev cX11_monthsIfMoved : ByteArray := prog_1_method_35_code
def yX11_monthsIfMoved : MethodName := ⟨RX11, "monthsIfMoved", "(II)I"⟩
abbrev cX11_isFreeBehind : ByteArray := prog_1_method_36_code
def yX11_isFreeBehind : MethodName := ⟨RX11, "isFreeBehind", "(III)Z"⟩
abbrev cX11_weight : ByteArray := prog_1_method_37_code
def yX11_weight : MethodName := ⟨RX11, "weight", "(III)I"⟩
abbrev cX11_power : ByteArray := prog_1_method_38_code
def yX11_power : MethodName := ⟨RX11, "power", "(II)I"⟩
abbrev cX11_commonDivisor : ByteArray := prog_1_method_39_code
def yX11_commonDivisor : MethodName := ⟨RX11, "commonDivisor", "(II)I"⟩
def RX12 : String := "CellNeighboursModel"
def TX12 : u_T := fun k => match k with
  | 0 => ("CellNeighboursModel", "trace", "J", false)
  | 1 => ("CellNeighboursModel", "text", "[I", true)
  | 2 => ("CellNeighboursModel", "typed", "I", false)
  | 3 => ("CellNeighboursModel", "told", "[I", true)
  | 4 => ("CellNeighboursModel", "draft", "[I", true)
  | 5 => ("CellNeighboursModel", "s", "[I", true)
  | 6 => ("CellNeighboursModel", "past", "[I", true)
  | 7 => ("CellNeighboursModel", "known", "I", false)
  | 8 => ("CellNeighboursModel", "images", "[I", true)
  | 9 => ("CellNeighboursModel", "kept", "[Z", true)
  | 10 => ("CellNeighboursModel", "notes", "[I", true)
  | 11 => ("CellNeighboursModel", "noted", "I", false)
  | 12 => ("CellNeighboursModel", "at", "I", false)
  | 13 => ("CellNeighboursModel", "sort", "I", false)
  | 14 => ("CellNeighboursModel", "start", "I", false)
  | 15 => ("CellNeighboursModel", "value", "I", false)
  | 16 => ("CellNeighboursModel", "thens", "[I", true)
  | 17 => ("CellNeighboursModel", "aside", "[I", true)
  | 18 => ("CellNeighboursModel", "lying", "[I", true)
  | 19 => ("CellNeighboursModel", "men", "[I", true)
  | _ => ("CellNeighboursModel", "row", "[I", true)
def tyX12 : Nat → FieldType := fun k => match k with
  | 0 => .long
  | 1 => .array .int
  | 2 => .int
  | 3 => .array .int
  | 4 => .array .int
  | 5 => .array .int
  | 6 => .array .int
  | 7 => .int
  | 8 => .array .int
  | 9 => .array .boolean
  | 10 => .array .int
  | 11 => .int
  | 12 => .int
  | 13 => .int
  | 14 => .int
  | 15 => .int
  | 16 => .array .int
  | 17 => .array .int
  | 18 => .array .int
  | 19 => .array .int
  | _ => .array .int
theorem nmX12 : ∀ a, a < 21 → ∀ b, b < 21 → a ≠ b → (TX12 a).2.1 ≠ (TX12 b).2.1 := by decide +kernel
theorem tyX12_ok : ∀ k, k < 21 → parseFieldDescriptor (TX12 k).2.2.1 = some (tyX12 k) := by decide +kernel
abbrev cX12_init : ByteArray := prog_14_method_1_code
def yX12_init : MethodName := ⟨RX12, "<init>", "()V"⟩
abbrev cX12_in : ByteArray := prog_14_method_3_code
def yX12_in : MethodName := ⟨RX12, "in", "(III)Z"⟩
abbrev cX12_isMan : ByteArray := prog_14_method_4_code
def yX12_isMan : MethodName := ⟨RX12, "isMan", "(I)Z"⟩
abbrev cX12_isCell : ByteArray := prog_14_method_5_code
def yX12_isCell : MethodName := ⟨RX12, "isCell", "(I)Z"⟩
abbrev cX12_type : ByteArray := prog_14_method_6_code
def yX12_type : MethodName := ⟨RX12, "type", "(I)I"⟩
abbrev cX12_clear : ByteArray := prog_14_method_7_code
def yX12_clear : MethodName := ⟨RX12, "clear", "()I"⟩
abbrev cX12_letterAt : ByteArray := prog_14_method_8_code
def yX12_letterAt : MethodName := ⟨RX12, "letterAt", "(I)I"⟩
abbrev cX12_isDigit : ByteArray := prog_14_method_9_code
def yX12_isDigit : MethodName := ⟨RX12, "isDigit", "(I)Z"⟩
abbrev cX12_token : ByteArray := prog_14_method_10_code
def yX12_token : MethodName := ⟨RX12, "token", "()V"⟩
abbrev cX12_number : ByteArray := prog_14_method_11_code
def yX12_number : MethodName := ⟨RX12, "number", "(III)Z"⟩
abbrev cX12_readsMan : ByteArray := prog_14_method_12_code
def yX12_readsMan : MethodName := ⟨RX12, "readsMan", "()Z"⟩
abbrev cX12_readsItem : ByteArray := prog_14_method_13_code
def yX12_readsItem : MethodName := ⟨RX12, "readsItem", "()Z"⟩
abbrev cX12_reads : ByteArray := prog_14_method_14_code
def yX12_reads : MethodName := ⟨RX12, "reads", "()Z"⟩
abbrev cX12_begins : ByteArray := prog_14_method_15_code
def yX12_begins : MethodName := ⟨RX12, "begins", "()V"⟩
abbrev cX12_gaol : ByteArray := prog_14_method_16_code
def yX12_gaol : MethodName := ⟨RX12, "gaol", "()I"⟩
abbrev cX12_isIn : ByteArray := prog_14_method_17_code
def yX12_isIn : MethodName := ⟨RX12, "isIn", "(I)Z"⟩
abbrev cX12_whoIn : ByteArray := prog_14_method_18_code
def yX12_whoIn : MethodName := ⟨RX12, "whoIn", "(I)I"⟩
abbrev cX12_beside : ByteArray := prog_14_method_19_code
def yX12_beside : MethodName := ⟨RX12, "beside", "(I)I"⟩
abbrev cX12_puts : ByteArray := prog_14_method_20_code
def yX12_puts : MethodName := ⟨RX12, "puts", "(II)I"⟩
abbrev cX12_then : ByteArray := prog_14_method_21_code
def yX12_then : MethodName := ⟨RX12, "then", "(I)I"⟩
abbrev cX12_passes : ByteArray := prog_14_method_22_code
def yX12_passes : MethodName := ⟨RX12, "passes", "()I"⟩
abbrev cX12_holds : ByteArray := prog_14_method_23_code
def yX12_holds : MethodName := ⟨RX12, "holds", "()V"⟩
abbrev cX12_lets : ByteArray := prog_14_method_24_code
def yX12_lets : MethodName := ⟨RX12, "lets", "()V"⟩
abbrev cX12_outIn : ByteArray := prog_14_method_25_code
def yX12_outIn : MethodName := ⟨RX12, "outIn", "(I)I"⟩
abbrev cX12_man : ByteArray := prog_14_method_26_code
def yX12_man : MethodName := ⟨RX12, "man", "(II)I"⟩
abbrev cX12_cell : ByteArray := prog_14_method_27_code
def yX12_cell : MethodName := ⟨RX12, "cell", "(I)I"⟩
abbrev cX12_allIn : ByteArray := prog_14_method_28_code
def yX12_allIn : MethodName := ⟨RX12, "allIn", "()I"⟩
abbrev cX12_allYears : ByteArray := prog_14_method_29_code
def yX12_allYears : MethodName := ⟨RX12, "allYears", "()I"⟩
abbrev cX12_now : ByteArray := prog_14_method_30_code
def yX12_now : MethodName := ⟨RX12, "now", "(I)I"⟩
abbrev cX12_keeps : ByteArray := prog_14_method_31_code
def yX12_keeps : MethodName := ⟨RX12, "keeps", "()V"⟩
abbrev cX12_month : ByteArray := prog_14_method_32_code
def yX12_month : MethodName := ⟨RX12, "month", "()I"⟩
abbrev cX12_moves : ByteArray := prog_14_method_33_code
def yX12_moves : MethodName := ⟨RX12, "moves", "(II)I"⟩
abbrev cX12_feigns : ByteArray := prog_14_method_34_code
def yX12_feigns : MethodName := ⟨RX12, "feigns", "(II)I"⟩
abbrev cX12_undo : ByteArray := prog_14_method_35_code
def yX12_undo : MethodName := ⟨RX12, "undo", "()I"⟩
abbrev cX12_brings : ByteArray := prog_14_method_36_code
def yX12_brings : MethodName := ⟨RX12, "brings", "(I)I"⟩
abbrev cX12_soonest : ByteArray := prog_14_method_37_code
def yX12_soonest : MethodName := ⟨RX12, "soonest", "(IZI)I"⟩
abbrev cX12_putsOn : ByteArray := prog_14_method_38_code
def yX12_putsOn : MethodName := ⟨RX12, "putsOn", "(II)I"⟩
abbrev cX12_carry : ByteArray := prog_14_method_39_code
def yX12_carry : MethodName := ⟨RX12, "carry", "(II)I"⟩
abbrev cX12_nextRow : ByteArray := prog_14_method_40_code
def yX12_nextRow : MethodName := ⟨RX12, "nextRow", "(I)Z"⟩
abbrev cX12_least : ByteArray := prog_14_method_41_code
def yX12_least : MethodName := ⟨RX12, "least", "()I"⟩
abbrev cX12_lies : ByteArray := prog_14_method_42_code
def yX12_lies : MethodName := ⟨RX12, "lies", "(I)I"⟩
abbrev cX12_word : ByteArray := prog_14_method_43_code
def yX12_word : MethodName := ⟨RX12, "word", "(II)I"⟩
abbrev cX12_odds : ByteArray := prog_14_method_44_code
def yX12_odds : MethodName := ⟨RX12, "odds", "(IIII)I"⟩
abbrev cX12_sees : ByteArray := prog_14_method_45_code
def yX12_sees : MethodName := ⟨RX12, "sees", "(II)I"⟩
abbrev cX12_forget : ByteArray := prog_14_method_46_code
def yX12_forget : MethodName := ⟨RX12, "forget", "()I"⟩
abbrev cX12_hardsNow : ByteArray := prog_14_method_47_code
def yX12_hardsNow : MethodName := ⟨RX12, "hardsNow", "()I"⟩
abbrev cX12_hards : ByteArray := prog_14_method_48_code
def yX12_hards : MethodName := ⟨RX12, "hards", "()I"⟩
abbrev cX12_next : ByteArray := prog_14_method_49_code
def yX12_next : MethodName := ⟨RX12, "next", "()I"⟩
abbrev cX12_rate : ByteArray := prog_14_method_50_code
def yX12_rate : MethodName := ⟨RX12, "rate", "(II)I"⟩
abbrev cX12_keep : ByteArray := prog_14_method_51_code
def yX12_keep : MethodName := ⟨RX12, "keep", "(I)I"⟩
abbrev cX12_back : ByteArray := prog_14_method_52_code
def yX12_back : MethodName := ⟨RX12, "back", "(I)I"⟩
abbrev cX12_count : ByteArray := prog_14_method_53_code
def yX12_count : MethodName := ⟨RX12, "count", "(I)I"⟩
abbrev cX12_trace : ByteArray := prog_14_method_54_code
def yX12_trace : MethodName := ⟨RX12, "trace", "()J"⟩
def RJ6 : String := "java/lang/Integer"
abbrev cJ6_bitCount_0f7a4 : ByteArray := prog_15_method_49_code
def yJ6_bitCount_0f7a4 : MethodName := ⟨RJ6, "bitCount", "(I)I"⟩
def RJ9 : String := "java/lang/Math"
abbrev cJ9_max_7cf53 : ByteArray := prog_16_method_65_code
def yJ9_max_7cf53 : MethodName := ⟨RJ9, "max", "(II)I"⟩
abbrev cJ9_min_7cf53 : ByteArray := prog_16_method_69_code
def yJ9_min_7cf53 : MethodName := ⟨RJ9, "min", "(II)I"⟩
def RJ10 : String := "java/lang/System"
abbrev vwCl : List vw_C := [(RX0, TX0, 0), (RX1, TX1, 0), (RX2, TX2, 9), (RX3, TX3, 0), (RX4, TX4, 0), (RX5, TX5, 8), (RX6, TX6, 3), (RX7, TX7, 1), (RX8, TX8, 11), (RX9, TX9, 0), (RX10, TX10, 0), (RX11, TX11, 12), (RX12, TX12, 21)]
def am_cn : Nat → String := fun k => match k with
  | 0 => RX0
  | 1 => RX1
  | 2 => RX2
  | 3 => RX3
  | 4 => RX4
  | 5 => RX5
  | 6 => RX6
  | 7 => RX7
  | 8 => RX8
  | 9 => RX9
  | 10 => RX10
  | 11 => RX11
  | 12 => RX12
  | 20 => "CellNeighboursLaw"
  | 21 => RJ6
  | _ => RJ9
def mMan_init : Nat := 0
def mBoy_init : Nat := 1
def mScene_isIn : Nat := 2
def mMan_worth : Nat := 3
def mBoy_worth : Nat := 4
def mThief_init : Nat := 5
def mLawyer_init : Nat := 6
def mThief_worth : Nat := 7
def mLawyer_worth : Nat := 8
def mScene_makeEmpty : Nat := 9
def mScene_init : Nat := 10
def mLie_init : Nat := 11
def mScene_liesLike : Nat := 12
def mScene_copyFrom : Nat := 13
def mScene_hasCell : Nat := 14
def mScene_whoIn : Nat := 15
def mCell_figure : Nat := 16
def mLie_gather : Nat := 17
def mLie_putFrom : Nat := 18
def mCell_withinYears : Nat := 19
def mLie_yearsBehind : Nat := 20
def mLie_swap : Nat := 21
def mLie_turnsToNextWay : Nat := 22
def mLie_seek : Nat := 23
def mLie_bestCellOf : Nat := 24
def mPear_init : Nat := 25
def mPear_worth : Nat := 26
def mScene_hasMan : Nat := 27
def mScene_addMan : Nat := 28
def mScene_leaveCell : Nat := 29
def mScene_moveTo : Nat := 30
def mScene_figureFrom : Nat := 31
def mScene_yearsAfter : Nat := 32
def mScene_passMonth : Nat := 33
def mScene_monthsTillFree : Nat := 34
def mScene_bitsIn : Nat := 35
def mScene_yearsOfAll : Nat := 36
def mScene_bitOf : Nat := 37
def mScene_neighbourBits : Nat := 38
def mScene_bitsWithin : Nat := 39
def mScene_toldOn : Nat := 40
def mSeen_init : Nat := 41
def mSeen_add : Nat := 42
def mSeen_isSo : Nat := 43
def mSeen_hardBits : Nat := 44
def mInt_bitCount : Nat := 45
def mSeen_countAlike : Nat := 46
def mSeen_mostAlike : Nat := 47
def mSeen_soundToTry : Nat := 48
def mTally_init : Nat := 49
def mText_init : Nat := 50
def mText_add : Nat := 51
def mText_isDigit : Nat := 52
def mText_isPlainNumber : Nat := 53
def mText_isKnownLetter : Nat := 54
def mText_advance : Nat := 55
def mText_refuse : Nat := 56
def mText_takeNumber : Nat := 57
def mText_readMan : Nat := 58
def mText_takeEnd : Nat := 59
def mText_readItem : Nat := 60
def mText_isRead : Nat := 61
def mWarder_init : Nat := 62
def mWarder_worth : Nat := 63
def mCell_init : Nat := 64
def mCell_type : Nat := 65
def mCell_clear : Nat := 66
def mCell_gaol : Nat := 67
def mCell_man : Nat := 68
def mCell_cell : Nat := 69
def mCell_now : Nat := 70
def mCell_remember : Nat := 71
def mCell_month : Nat := 72
def mCell_moves : Nat := 73
def mCell_isSound : Nat := 74
def mCell_feigns : Nat := 75
def mCell_undo : Nat := 76
def mCell_brings : Nat := 77
def mCell_isWhichOrMonths : Nat := 78
def mCell_monthsIfFeigned : Nat := 79
def mCell_isSooner : Nat := 80
def mCell_putsOn : Nat := 81
def mCell_monthsIfMoved : Nat := 82
def mCell_carry : Nat := 83
def mCell_lies : Nat := 84
def mCell_word : Nat := 85
def mCell_isFreeBehind : Nat := 86
def mCell_power : Nat := 87
def mCell_weight : Nat := 88
def mCell_commonDivisor : Nat := 89
def mCell_odds : Nat := 90
def mCell_sees : Nat := 91
def mCell_forget : Nat := 92
def mCell_hards : Nat := 93
def mCell_next : Nat := 94
def mCell_rate : Nat := 95
def mCell_isImage : Nat := 96
def mCell_keep : Nat := 97
def mCell_back : Nat := 98
def mCell_count : Nat := 99
def mCell_trace : Nat := 100
def mMod_letterAt : Nat := 101
def mMod_in : Nat := 102
def mMod_isDigit : Nat := 103
def mMod_token : Nat := 104
def mMod_number : Nat := 105
def mMod_readsMan : Nat := 106
def mMod_readsItem : Nat := 107
def mMod_reads : Nat := 108
def mMod_begins : Nat := 109
def mMod_init : Nat := 110
def mMod_isMan : Nat := 111
def mMod_isCell : Nat := 112
def mMod_type : Nat := 113
def mMod_clear : Nat := 114
def mMod_gaol : Nat := 115
def mMod_isIn : Nat := 116
def mMod_whoIn : Nat := 117
def mMod_beside : Nat := 118
def mMod_puts : Nat := 119
def mMod_then : Nat := 120
def mMod_passes : Nat := 121
def mMod_holds : Nat := 122
def mMod_lets : Nat := 123
def mMod_outIn : Nat := 124
def mMod_man : Nat := 125
def mMod_cell : Nat := 126
def mMod_allIn : Nat := 127
def mMod_allYears : Nat := 128
def mMod_nextRow : Nat := 129
def mMod_least : Nat := 130
def mMod_now : Nat := 131
def mMod_keeps : Nat := 132
def mMod_month : Nat := 133
def mMod_moves : Nat := 134
def mMod_feigns : Nat := 135
def mMod_undo : Nat := 136
def mMod_brings : Nat := 137
def mMod_soonest : Nat := 138
def mMod_putsOn : Nat := 139
def mMod_carry : Nat := 140
def mMod_lies : Nat := 141
def mMod_word : Nat := 142
def mMod_odds : Nat := 143
def mMod_sees : Nat := 144
def mMod_forget : Nat := 145
def mMod_hardsNow : Nat := 146
def mMod_hards : Nat := 147
def mMod_next : Nat := 148
def mMod_rate : Nat := 149
def mMod_keep : Nat := 150
def mMod_back : Nat := 151
def mMod_count : Nat := 152
def mMod_trace : Nat := 153
def mLaw_law : Nat := 154
def cL_law : ByteArray := code
def yL_law : MethodName := ⟨"CellNeighboursLaw", "law", "([I)Z"⟩
abbrev am_MR : Type := MethodName × ByteArray × Nat × Option FieldType × Nat × Nat × Nat × Nat
/-- name, code, locals, answer, class, arguments, frames and locals that it needs -/
def am_MT0 : List am_MR := [
  (yX3_init, cX3_init, 1, none, 3, 1, 1, 20),
  (yX0_init, cX0_init, 1, none, 0, 1, 2, 40),
  (yX5_isIn, cX5_isIn, 2, (some .boolean), 5, 2, 0, 0),
  (yX3_worth, cX3_worth, 4, (some .int), 3, 4, 0, 0),
  (yX0_worth, cX0_worth, 5, (some .int), 0, 4, 1, 23),
  (yX9_init, cX9_init, 1, none, 9, 1, 2, 40),
  (yX1_init, cX1_init, 1, none, 1, 1, 3, 60),
  (yX9_worth, cX9_worth, 4, (some .int), 9, 4, 1, 23),
  (yX1_worth, cX1_worth, 4, (some .int), 1, 4, 2, 46),
  (yX5_makeEmpty, cX5_makeEmpty, 2, none, 5, 1, 0, 0),
  (yX5_init, cX5_init, 1, none, 5, 1, 1, 21),
  (yX2_init, cX2_init, 1, none, 2, 1, 2, 41),
  (yX5_liesLike, cX5_liesLike, 5, (some .boolean), 5, 2, 0, 0),
  (yX5_copyFrom, cX5_copyFrom, 2, none, 5, 2, 1, 40),
  (yX5_hasCell, cX5_hasCell, 2, (some .boolean), 5, 2, 0, 0),
  (yX5_whoIn, cX5_whoIn, 2, (some .int), 5, 2, 1, 21)]
def am_MT1 : List am_MR := [
  (yX11_figure, cX11_figure, 2, (some .int), 11, 2, 0, 0),
  (yX2_gather, cX2_gather, 4, none, 2, 1, 2, 42),
  (yX2_putFrom, cX2_putFrom, 3, (some .int), 2, 3, 0, 0),
  (yX11_withinYears, cX11_withinYears, 1, (some .int), 11, 1, 1, 40),
  (yX2_yearsBehind, cX2_yearsBehind, 4, (some .int), 2, 1, 2, 60),
  (yX2_swap, cX2_swap, 4, none, 2, 3, 0, 0),
  (yX2_turnsToNextWay, cX2_turnsToNextWay, 5, (some .boolean), 2, 1, 1, 23),
  (yX2_seek, cX2_seek, 4, none, 2, 2, 3, 83),
  (yX2_bestCellOf, cX2_bestCellOf, 3, (some .int), 2, 2, 0, 0),
  (yX4_init, cX4_init, 1, none, 4, 1, 3, 60),
  (yX4_worth, cX4_worth, 4, (some .int), 4, 4, 2, 47),
  (yX5_hasMan, cX5_hasMan, 2, (some .boolean), 5, 2, 0, 0),
  (yX5_addMan, cX5_addMan, 5, none, 5, 5, 1, 21),
  (yX5_leaveCell, cX5_leaveCell, 3, none, 5, 2, 1, 21),
  (yX5_moveTo, cX5_moveTo, 3, none, 5, 3, 2, 43),
  (yX5_figureFrom, cX5_figureFrom, 4, (some .int), 5, 3, 2, 42)]
def am_MT2 : List am_MR := [
  (yX5_yearsAfter, cX5_yearsAfter, 4, (some .int), 5, 2, 3, 65),
  (yX5_passMonth, cX5_passMonth, 3, (some .int), 5, 1, 4, 88),
  (yX5_monthsTillFree, cX5_monthsTillFree, 3, (some .int), 5, 2, 5, 110),
  (yX5_bitsIn, cX5_bitsIn, 3, (some .int), 5, 1, 1, 21),
  (yX5_yearsOfAll, cX5_yearsOfAll, 3, (some .int), 5, 1, 0, 0),
  (yX5_bitOf, cX5_bitOf, 1, (some .int), 5, 1, 0, 0),
  (yX5_neighbourBits, cX5_neighbourBits, 2, (some .int), 5, 2, 2, 42),
  (yX5_bitsWithin, cX5_bitsWithin, 5, (some .int), 5, 3, 2, 42),
  (yX5_toldOn, cX5_toldOn, 5, (some .int), 5, 3, 3, 66),
  (yX6_init, cX6_init, 1, none, 6, 1, 1, 20),
  (yX6_add, cX6_add, 3, none, 6, 3, 0, 0),
  (yX6_isSo, cX6_isSo, 3, (some .boolean), 6, 2, 1, 21),
  (yX6_hardBits, cX6_hardBits, 3, (some .int), 6, 1, 2, 43),
  (yJ6_bitCount_0f7a4, cJ6_bitCount_0f7a4, 1, (some .int), 21, 1, 0, 0),
  (yX6_countAlike, cX6_countAlike, 5, (some .int), 6, 3, 1, 21),
  (yX6_mostAlike, cX6_mostAlike, 4, (some .int), 6, 2, 2, 45)]
def am_MT3 : List am_MR := [
  (yX6_soundToTry, cX6_soundToTry, 6, (some .int), 6, 1, 3, 68),
  (yX7_init, cX7_init, 1, none, 7, 1, 1, 20),
  (yX8_init, cX8_init, 1, none, 8, 1, 2, 41),
  (yX8_add, cX8_add, 2, none, 8, 2, 0, 0),
  (yX8_isDigit, cX8_isDigit, 1, (some .boolean), 8, 1, 0, 0),
  (yX8_isPlainNumber, cX8_isPlainNumber, 2, (some .boolean), 8, 1, 0, 0),
  (yX8_isKnownLetter, cX8_isKnownLetter, 1, (some .boolean), 8, 1, 0, 0),
  (yX8_advance, cX8_advance, 1, none, 8, 1, 1, 21),
  (yX8_refuse, cX8_refuse, 1, none, 8, 1, 0, 0),
  (yX8_takeNumber, cX8_takeNumber, 5, (some .int), 8, 3, 2, 41),
  (yX8_readMan, cX8_readMan, 6, none, 8, 1, 3, 65),
  (yX8_takeEnd, cX8_takeEnd, 1, none, 8, 1, 2, 41),
  (yX8_readItem, cX8_readItem, 1, none, 8, 1, 4, 90),
  (yX8_isRead, cX8_isRead, 2, (some .boolean), 8, 1, 5, 110),
  (yX10_init, cX10_init, 1, none, 10, 1, 2, 40),
  (yX10_worth, cX10_worth, 4, (some .int), 10, 4, 1, 23)]
def am_MT4 : List am_MR := [
  (yX11_init, cX11_init, 2, none, 11, 1, 4, 80),
  (yX11_type, cX11_type, 2, (some .int), 11, 2, 1, 21),
  (yX11_clear, cX11_clear, 2, (some .int), 11, 1, 0, 0),
  (yX11_gaol, cX11_gaol, 2, (some .int), 11, 1, 6, 131),
  (yX11_man, cX11_man, 3, (some .int), 11, 3, 6, 132),
  (yX11_cell, cX11_cell, 2, (some .int), 11, 2, 2, 42),
  (yX11_now, cX11_now, 2, (some .int), 11, 2, 4, 106),
  (yX11_remember, cX11_remember, 3, none, 11, 1, 2, 61),
  (yX11_month, cX11_month, 1, (some .int), 11, 1, 5, 110),
  (yX11_moves, cX11_moves, 4, (some .int), 11, 3, 3, 83),
  (yX11_isSound, cX11_isSound, 1, (some .boolean), 11, 1, 0, 0),
  (yX11_feigns, cX11_feigns, 4, (some .int), 11, 3, 3, 83),
  (yX11_undo, cX11_undo, 1, (some .int), 11, 1, 2, 61),
  (yX11_brings, cX11_brings, 2, (some .int), 11, 2, 4, 88),
  (yX11_isWhichOrMonths, cX11_isWhichOrMonths, 1, (some .boolean), 11, 1, 0, 0),
  (yX11_monthsIfFeigned, cX11_monthsIfFeigned, 3, (some .int), 11, 3, 6, 132)]
def am_MT5 : List am_MR := [
  (yX11_isSooner, cX11_isSooner, 2, (some .boolean), 11, 2, 0, 0),
  (yX11_putsOn, cX11_putsOn, 7, (some .int), 11, 3, 7, 154),
  (yX11_monthsIfMoved, cX11_monthsIfMoved, 4, (some .int), 11, 3, 6, 132),
  (yX11_carry, cX11_carry, 7, (some .int), 11, 3, 7, 155),
  (yX11_lies, cX11_lies, 2, (some .int), 11, 2, 4, 106),
  (yX11_word, cX11_word, 5, (some .int), 11, 3, 4, 90),
  (yX11_isFreeBehind, cX11_isFreeBehind, 6, (some .boolean), 11, 4, 5, 110),
  (yX11_power, cX11_power, 4, (some .int), 11, 2, 0, 0),
  (yX11_weight, cX11_weight, 3, (some .int), 11, 3, 1, 23),
  (yX11_commonDivisor, cX11_commonDivisor, 6, (some .int), 11, 2, 0, 0),
  (yX11_odds, cX11_odds, 10, (some .int), 11, 5, 6, 135),
  (yX11_sees, cX11_sees, 3, (some .int), 11, 3, 1, 22),
  (yX11_forget, cX11_forget, 2, (some .int), 11, 1, 0, 0),
  (yX11_hards, cX11_hards, 1, (some .int), 11, 1, 3, 65),
  (yX11_next, cX11_next, 1, (some .int), 11, 1, 4, 93),
  (yX11_rate, cX11_rate, 3, (some .int), 11, 3, 3, 70)]
def am_MT6 : List am_MR := [
  (yX11_isImage, cX11_isImage, 1, (some .boolean), 11, 1, 0, 0),
  (yX11_keep, cX11_keep, 2, (some .int), 11, 2, 2, 61),
  (yX11_back, cX11_back, 2, (some .int), 11, 2, 2, 61),
  (yX11_count, cX11_count, 2, (some .int), 11, 2, 0, 0),
  (yX11_trace, cX11_trace, 1, (some .long), 11, 1, 0, 0),
  (yX12_letterAt, cX12_letterAt, 2, (some .int), 12, 2, 0, 0),
  (yX12_in, cX12_in, 3, (some .boolean), 12, 3, 0, 0),
  (yX12_isDigit, cX12_isDigit, 1, (some .boolean), 12, 1, 1, 22),
  (yX12_token, cX12_token, 2, none, 12, 1, 2, 42),
  (yX12_number, cX12_number, 4, (some .boolean), 12, 4, 3, 63),
  (yX12_readsMan, cX12_readsMan, 3, (some .boolean), 12, 1, 4, 86),
  (yX12_readsItem, cX12_readsItem, 2, (some .boolean), 12, 1, 5, 108),
  (yX12_reads, cX12_reads, 2, (some .boolean), 12, 1, 6, 129),
  (yX12_begins, cX12_begins, 3, none, 12, 1, 0, 0),
  (yX12_init, cX12_init, 1, none, 12, 1, 7, 150),
  (yX12_isMan, cX12_isMan, 2, (some .boolean), 12, 2, 1, 22)]
def am_MT7 : List am_MR := [
  (yX12_isCell, cX12_isCell, 2, (some .boolean), 12, 2, 1, 22),
  (yX12_type, cX12_type, 2, (some .int), 12, 2, 1, 22),
  (yX12_clear, cX12_clear, 2, (some .int), 12, 1, 0, 0),
  (yX12_gaol, cX12_gaol, 1, (some .int), 12, 1, 7, 150),
  (yX12_isIn, cX12_isIn, 2, (some .boolean), 12, 2, 0, 0),
  (yX12_whoIn, cX12_whoIn, 4, (some .int), 12, 2, 0, 0),
  (yX12_beside, cX12_beside, 5, (some .int), 12, 2, 1, 21),
  (yX12_puts, cX12_puts, 2, (some .int), 12, 2, 0, 0),
  (yX12_then, cX12_then, 4, (some .int), 12, 2, 2, 45),
  (yX12_passes, cX12_passes, 3, (some .int), 12, 1, 3, 68),
  (yX12_holds, cX12_holds, 2, none, 12, 1, 0, 0),
  (yX12_lets, cX12_lets, 2, none, 12, 1, 0, 0),
  (yX12_outIn, cX12_outIn, 3, (some .int), 12, 2, 4, 90),
  (yX12_man, cX12_man, 4, (some .int), 12, 3, 5, 112),
  (yX12_cell, cX12_cell, 2, (some .int), 12, 2, 2, 43),
  (yX12_allIn, cX12_allIn, 3, (some .int), 12, 1, 1, 21)]
def am_MT8 : List am_MR := [
  (yX12_allYears, cX12_allYears, 3, (some .int), 12, 1, 0, 0),
  (yX12_nextRow, cX12_nextRow, 7, (some .boolean), 12, 2, 0, 0),
  (yX12_least, cX12_least, 7, (some .int), 12, 1, 3, 68),
  (yX12_now, cX12_now, 2, (some .int), 12, 2, 4, 94),
  (yX12_keeps, cX12_keeps, 2, none, 12, 1, 0, 0),
  (yX12_month, cX12_month, 1, (some .int), 12, 1, 4, 90),
  (yX12_moves, cX12_moves, 4, (some .int), 12, 3, 2, 43),
  (yX12_feigns, cX12_feigns, 4, (some .int), 12, 3, 2, 43),
  (yX12_undo, cX12_undo, 2, (some .int), 12, 1, 0, 0),
  (yX12_brings, cX12_brings, 2, (some .int), 12, 2, 3, 68),
  (yX12_soonest, cX12_soonest, 10, (some .int), 12, 4, 5, 112),
  (yX12_putsOn, cX12_putsOn, 3, (some .int), 12, 3, 6, 141),
  (yX12_carry, cX12_carry, 3, (some .int), 12, 3, 6, 141),
  (yX12_lies, cX12_lies, 2, (some .int), 12, 2, 4, 94),
  (yX12_word, cX12_word, 9, (some .int), 12, 3, 2, 43),
  (yX12_odds, cX12_odds, 11, (some .int), 12, 5, 4, 90)]
def am_MT9 : List am_MR := [
  (yX12_sees, cX12_sees, 3, (some .int), 12, 3, 1, 22),
  (yX12_forget, cX12_forget, 2, (some .int), 12, 1, 0, 0),
  (yX12_hardsNow, cX12_hardsNow, 5, (some .int), 12, 1, 1, 21),
  (yX12_hards, cX12_hards, 1, (some .int), 12, 1, 2, 45),
  (yX12_next, cX12_next, 9, (some .int), 12, 1, 2, 45),
  (yX12_rate, cX12_rate, 6, (some .int), 12, 3, 2, 43),
  (yX12_keep, cX12_keep, 3, (some .int), 12, 2, 1, 22),
  (yX12_back, cX12_back, 3, (some .int), 12, 2, 1, 22),
  (yX12_count, cX12_count, 2, (some .int), 12, 2, 0, 0),
  (yX12_trace, cX12_trace, 1, (some .long), 12, 1, 0, 0),
  (yL_law, cL_law, 4, (some .boolean), 20, 1, 8, 181)]
def am_MT : List am_MR := am_MT0 ++ (am_MT1 ++ (am_MT2 ++ (am_MT3 ++ (am_MT4 ++ (am_MT5 ++ (am_MT6 ++ (am_MT7 ++ (am_MT8 ++ (am_MT9)))))))))
def am_m (M : Nat) : am_MR := am_MT.getD M (⟨"", "", ""⟩, ByteArray.empty, 0, none, 0, 0, 0, 0)
def am_y (M : Nat) := (am_m M).1
def am_by (M : Nat) := (am_m M).2.1
def am_ml (M : Nat) := (am_m M).2.2.1
def am_rt (M : Nat) := (am_m M).2.2.2.1
def am_oc (M : Nat) := (am_m M).2.2.2.2.1
def am_na (M : Nat) := (am_m M).2.2.2.2.2.1
def am_fr (M : Nat) := (am_m M).2.2.2.2.2.2.1
def am_lo (M : Nat) := (am_m M).2.2.2.2.2.2.2
/-- field links: class, entry, class of the field, its number, place in lw_tbl -/
def am_FL : List (Nat × Nat × Nat × Nat × Nat) := [(5, 30, 5, 0, 82), (8, 58, 5, 0, 83), (11, 192, 5, 0, 84), (5, 34, 5, 1, 85), (2, 70, 5, 1, 86), (8, 61, 5, 1, 87), (11, 238, 5, 1, 88), (5, 37, 5, 2, 89), (10, 19, 5, 2, 90), (11, 145, 5, 2, 91), (5, 9, 5, 3, 92), (0, 21, 5, 3, 93), (11, 119, 5, 3, 94), (5, 15, 5, 4, 95), (2, 83, 5, 4, 96), (11, 123, 5, 4, 97), (5, 18, 5, 5, 98), (9, 19, 5, 5, 99), (2, 80, 5, 5, 100), (11, 126, 5, 5, 101), (5, 21, 5, 6, 102), (3, 13, 5, 6, 103), (2, 93, 5, 6, 104), (11, 129, 5, 6, 105), (5, 24, 5, 7, 106), (8, 22, 8, 0, 125), (11, 84, 8, 0, 126), (8, 9, 8, 1, 127), (8, 18, 8, 2, 128), (11, 98, 8, 2, 129), (8, 32, 8, 3, 130), (11, 105, 8, 3, 131), (8, 39, 8, 4, 132), (11, 112, 8, 4, 133), (8, 42, 8, 5, 134), (11, 95, 8, 5, 135), (8, 26, 8, 6, 136), (8, 35, 8, 7, 137), (8, 48, 8, 8, 138), (8, 84, 8, 9, 139), (8, 73, 8, 10, 140), (6, 18, 6, 0, 173), (11, 106, 6, 0, 174), (6, 9, 6, 1, 175), (6, 15, 6, 2, 176), (2, 53, 2, 0, 193), (11, 158, 2, 0, 194), (2, 12, 2, 1, 195), (2, 34, 2, 2, 196), (2, 67, 2, 3, 197), (2, 18, 2, 4, 198), (2, 22, 2, 5, 199), (2, 25, 2, 6, 200), (2, 28, 2, 7, 201), (2, 31, 2, 8, 202), (3, 7, 7, 0, 230), (0, 7, 7, 0, 231), (1, 7, 7, 0, 232), (9, 7, 7, 0, 233), (4, 7, 7, 0, 234), (10, 7, 7, 0, 235), (11, 241, 7, 0, 236), (11, 10, 11, 0, 281), (11, 64, 11, 1, 282), (11, 19, 11, 2, 283), (11, 23, 11, 3, 284), (11, 26, 11, 4, 285), (11, 109, 11, 5, 286), (11, 30, 11, 6, 287), (11, 33, 11, 7, 288), (11, 40, 11, 8, 289), (11, 47, 11, 9, 290), (11, 53, 11, 10, 291), (11, 60, 11, 11, 292), (12, 161, 12, 0, 732), (12, 7, 12, 1, 733), (12, 61, 12, 2, 734), (12, 13, 12, 3, 735), (12, 16, 12, 4, 736), (12, 19, 12, 5, 737), (12, 22, 12, 6, 738), (12, 97, 12, 7, 739), (12, 25, 12, 8, 740), (12, 28, 12, 9, 741), (12, 32, 12, 10, 742), (12, 100, 12, 11, 743), (12, 65, 12, 12, 744), (12, 79, 12, 13, 745), (12, 72, 12, 14, 746), (12, 82, 12, 15, 747), (12, 35, 12, 16, 748), (12, 38, 12, 17, 749), (12, 41, 12, 18, 750), (12, 44, 12, 19, 751), (12, 47, 12, 20, 752)]
def am_T : Nat → u_T := fun c => match c with
  | 0 => TX0
  | 1 => TX1
  | 2 => TX2
  | 3 => TX3
  | 4 => TX4
  | 5 => TX5
  | 6 => TX6
  | 7 => TX7
  | 8 => TX8
  | 9 => TX9
  | 10 => TX10
  | 11 => TX11
  | _ => TX12
def am_ty : Nat → Nat → FieldType := fun c => match c with
  | 0 => tyX0
  | 1 => tyX1
  | 2 => tyX2
  | 3 => tyX3
  | 4 => tyX4
  | 5 => tyX5
  | 6 => tyX6
  | 7 => tyX7
  | 8 => tyX8
  | 9 => tyX9
  | 10 => tyX10
  | 11 => tyX11
  | _ => tyX12
def am_nf : Nat → Nat := fun c => match c with
  | 0 => 0
  | 1 => 0
  | 2 => 9
  | 3 => 0
  | 4 => 0
  | 5 => 8
  | 6 => 3
  | 7 => 1
  | 8 => 11
  | 9 => 0
  | 10 => 0
  | 11 => 12
  | _ => 21
/-- call sites: class, entry, kind (0 virtual, 1 static, 2 static of a nest mate, 3 init, 4 init of a nest mate, 5 super, 6 virtual and overridden, 8 Object.<init>, 9 arraycopy, 10 max, 11 min), method -/
def am_ST : List (Nat × Nat × Nat × Nat × List Nat) := [(0, 1, 4, 0, [258, 242]), (0, 15, 0, 2, [650, 405, 406]), (0, 25, 5, 3, [651, 645, 259, 643]), (1, 1, 4, 5, [265, 249]), (1, 15, 5, 7, [656, 973, 266, 657]), (2, 3, 8, 0, [190, 64, 65]), (2, 11, 3, 10, [192, 75]), (2, 38, 0, 12, [466, 467, 468]), (2, 42, 0, 13, [470, 386, 387]), (2, 46, 0, 17, [471, 473, 7]), (2, 49, 0, 20, [478, 480, 8]), (2, 57, 9, 0, [487, 391, 390, 55]), (2, 63, 0, 22, [488, 490, 10]), (2, 72, 0, 2, [475, 405, 406]), (2, 76, 0, 15, [476, 370, 371]), (2, 86, 2, 16, [477, 429]), (2, 90, 0, 18, [482, 484, 9]), (2, 96, 2, 19, [486, 432]), (2, 99, 0, 21, [492, 494, 11]), (3, 1, 8, 0, [244, 64, 65]), (4, 1, 4, 1, [272, 256]), (4, 15, 5, 4, [665, 974, 273, 647]), (5, 3, 8, 0, [77, 64, 65]), (5, 27, 0, 9, [78, 79, 80]), (5, 40, 9, 0, [389, 391, 390, 55]), (5, 46, 0, 14, [373, 374, 375]), (5, 50, 0, 29, [440, 441, 442]), (5, 54, 0, 15, [408, 370, 371]), (5, 58, 2, 16, [428, 429]), (5, 62, 0, 31, [424, 425, 426]), (5, 65, 2, 19, [431, 432]), (5, 68, 0, 2, [404, 405, 406]), (5, 71, 0, 32, [420, 421, 422]), (5, 74, 0, 33, [416, 417, 418]), (5, 78, 1, 37, [409, 410]), (5, 81, 0, 39, [569, 570, 571]), (6, 3, 8, 0, [172, 64, 65]), (6, 22, 0, 43, [616, 618, 16]), (6, 26, 2, 16, [620, 429]), (6, 30, 0, 44, [629, 613, 614]), (6, 34, 1, 45, [630, 582]), (6, 40, 1, 47, [631, 632]), (6, 43, 1, 46, [634, 635]), (6, 47, 10, 0, [637, 438, 56, 439]), (7, 1, 8, 0, [229, 64, 65]), (8, 3, 8, 0, [71, 64, 65]), (8, 17, 3, 10, [74, 75]), (8, 29, 0, 9, [338, 79, 80]), (8, 45, 0, 55, [339, 341, 0]), (8, 51, 0, 60, [353, 355, 2]), (8, 54, 0, 57, [357, 359, 3]), (8, 64, 0, 58, [365, 367, 5]), (8, 67, 0, 56, [361, 363, 4]), (8, 70, 0, 59, [381, 383, 6]), (8, 76, 0, 15, [369, 370, 371]), (8, 80, 0, 28, [377, 378, 379]), (8, 87, 1, 52, [343, 344]), (8, 91, 0, 53, [346, 348, 1]), (8, 95, 1, 54, [350, 351]), (9, 1, 4, 0, [251, 242]), (9, 15, 5, 3, [660, 645, 252, 643]), (10, 1, 4, 0, [279, 242]), (10, 15, 5, 3, [671, 645, 280, 643]), (11, 1, 8, 0, [63, 64, 65]), (11, 9, 4, 50, [68, 69]), (11, 18, 3, 10, [165, 75]), (11, 39, 4, 41, [169, 170]), (11, 46, 4, 11, [187, 188]), (11, 59, 4, 49, [226, 227]), (11, 68, 4, 0, [241, 242]), (11, 71, 4, 5, [248, 249]), (11, 74, 4, 1, [255, 256]), (11, 77, 4, 6, [262, 263]), (11, 80, 4, 25, [269, 270]), (11, 83, 4, 62, [276, 277]), (11, 87, 0, 51, [322, 323, 324]), (11, 91, 0, 61, [334, 335, 336]), (11, 101, 0, 13, [385, 386, 387]), (11, 115, 0, 27, [396, 397, 398]), (11, 132, 0, 38, [400, 401, 402]), (11, 136, 0, 34, [412, 413, 414]), (11, 139, 0, 14, [448, 374, 375]), (11, 142, 0, 15, [449, 370, 371]), (11, 148, 0, 35, [454, 455, 456]), (11, 152, 0, 36, [458, 459, 460]), (11, 155, 0, 23, [462, 463, 464]), (11, 161, 0, 71, [500, 502, 12]), (11, 164, 0, 33, [504, 417, 418]), (11, 167, 0, 2, [509, 405, 406]), (11, 170, 0, 30, [510, 511, 512]), (11, 174, 1, 74, [518, 519]), (11, 178, 0, 32, [530, 421, 422]), (11, 181, 1, 78, [535, 536]), (11, 184, 0, 79, [538, 540, 13]), (11, 188, 1, 80, [542, 543]), (11, 195, 0, 82, [549, 551, 14]), (11, 198, 0, 24, [557, 558, 559]), (11, 201, 0, 40, [565, 566, 567]), (11, 204, 0, 86, [577, 579, 15]), (11, 208, 1, 45, [581, 582]), (11, 213, 1, 88, [587, 588]), (11, 217, 1, 87, [590, 591]), (11, 220, 1, 89, [593, 594]), (11, 223, 0, 42, [600, 601, 602]), (11, 225, 0, 44, [612, 613, 614]), (11, 228, 0, 48, [625, 626, 627]), (11, 231, 6, 3, [642, 645, 643, 646, 647, 652, 653, 644, 643, 661, 662, 666, 657, 667, 668]), (11, 235, 1, 96, [677, 678]), (11, 245, 11, 0, [434, 435, 56, 436]), (11, 250, 10, 0, [437, 438, 56, 439]), (12, 1, 8, 0, [697, 64, 65]), (12, 50, 0, 108, [698, 700, 17]), (12, 54, 0, 109, [728, 730, 23]), (12, 57, 1, 102, [713, 714]), (12, 68, 0, 101, [706, 708, 19]), (12, 75, 1, 103, [710, 711]), (12, 85, 0, 104, [702, 704, 18]), (12, 88, 0, 105, [720, 722, 21]), (12, 91, 0, 106, [724, 726, 22]), (12, 94, 0, 107, [716, 718, 20]), (12, 103, 0, 116, [820, 822, 26]), (12, 106, 0, 118, [816, 818, 25]), (12, 109, 1, 119, [840, 841]), (12, 113, 0, 120, [836, 838, 30]), (12, 116, 0, 121, [832, 834, 29]), (12, 120, 0, 111, [812, 814, 24]), (12, 123, 0, 122, [824, 826, 27]), (12, 126, 0, 124, [828, 830, 28]), (12, 129, 0, 123, [843, 845, 31]), (12, 132, 0, 112, [851, 853, 32]), (12, 135, 0, 117, [855, 857, 33]), (12, 138, 0, 127, [863, 865, 34]), (12, 141, 0, 128, [867, 869, 35]), (12, 144, 0, 130, [871, 873, 36]), (12, 147, 0, 132, [883, 885, 38]), (12, 151, 0, 138, [908, 910, 39]), (12, 155, 0, 129, [875, 877, 37]), (12, 158, 0, 146, [940, 942, 40]), (20, 9, 3, 64, [60, 61]), (20, 12, 3, 110, [694, 695]), (20, 13, 0, 65, [318, 319, 320]), (20, 17, 0, 113, [796, 797, 798]), (20, 18, 0, 66, [326, 327, 328]), (20, 22, 0, 114, [800, 801, 802]), (20, 23, 0, 67, [330, 331, 332]), (20, 26, 0, 115, [804, 805, 806]), (20, 27, 0, 68, [392, 393, 394]), (20, 31, 0, 125, [808, 809, 810]), (20, 32, 0, 69, [444, 445, 446]), (20, 35, 0, 126, [847, 848, 849]), (20, 36, 0, 70, [450, 451, 452]), (20, 39, 0, 131, [859, 860, 861]), (20, 40, 0, 72, [496, 497, 498]), (20, 43, 0, 133, [879, 880, 881]), (20, 44, 0, 73, [505, 506, 507]), (20, 47, 0, 134, [887, 888, 889]), (20, 48, 0, 75, [514, 515, 516]), (20, 51, 0, 135, [891, 892, 893]), (20, 52, 0, 76, [521, 522, 523]), (20, 55, 0, 136, [895, 896, 897]), (20, 56, 0, 77, [525, 526, 527]), (20, 59, 0, 137, [899, 900, 901]), (20, 60, 0, 81, [531, 532, 533]), (20, 63, 0, 139, [904, 905, 906]), (20, 64, 0, 83, [545, 546, 547]), (20, 67, 0, 140, [912, 913, 914]), (20, 68, 0, 84, [553, 554, 555]), (20, 71, 0, 141, [916, 917, 918]), (20, 72, 0, 85, [561, 562, 563]), (20, 75, 0, 142, [920, 921, 922]), (20, 76, 0, 90, [573, 574, 575]), (20, 80, 0, 143, [924, 925, 926]), (20, 81, 0, 91, [596, 597, 598]), (20, 84, 0, 144, [928, 929, 930]), (20, 85, 0, 92, [604, 605, 606]), (20, 88, 0, 145, [932, 933, 934]), (20, 89, 0, 93, [608, 609, 610]), (20, 92, 0, 147, [936, 937, 938]), (20, 93, 0, 94, [621, 622, 623]), (20, 96, 0, 148, [944, 945, 946]), (20, 97, 0, 95, [638, 639, 640]), (20, 100, 0, 149, [948, 949, 950]), (20, 101, 0, 97, [673, 674, 675]), (20, 104, 0, 150, [957, 958, 959]), (20, 105, 0, 98, [680, 681, 682]), (20, 108, 0, 151, [961, 962, 963]), (20, 109, 0, 99, [684, 685, 686]), (20, 112, 0, 152, [965, 966, 967]), (20, 113, 0, 100, [688, 689, 690]), (20, 117, 0, 153, [969, 970, 971])]
def am_ws : List Nat := [0, 1, 3, 4, 9, 10]
def am_wo : Nat → Nat := fun c => match c with
  | 0 => 4
  | 1 => 8
  | 3 => 3
  | 4 => 26
  | 9 => 7
  | 10 => 63
  | _ => 9999
def am_CK : List (Nat × Nat × Int × Nat) := [(11, 177, -1000000, 529), (21, 265, 1431655765, 584), (21, 266, 858993459, 585), (21, 267, 252645135, 586), (12, 150, -1000000, 903)]
def am_CL : List (Nat × Nat × Int × Nat) := [(0, 13, 100, 649), (1, 13, 1000, 655), (9, 13, 10, 659), (4, 13, 10000, 664), (10, 13, 100000, 670), (12, 165, 11, 952), (12, 167, 101, 953), (12, 169, 1011, 954), (12, 171, 10101, 955), (12, 173, 100001, 956)]
def am_NC : List (Nat × Nat × Nat × Nat) := [(20, 7, 11, 58), (11, 7, 8, 66), (8, 15, 5, 72), (11, 16, 5, 164), (11, 37, 6, 167), (11, 44, 2, 185), (2, 9, 5, 191), (11, 51, 3, 222), (11, 57, 7, 224), (11, 69, 9, 246), (11, 72, 0, 253), (11, 75, 1, 260), (11, 78, 4, 267), (11, 81, 10, 274), (20, 10, 12, 692)]
/-- places of each method: its code, its class initialized -/
def am_MP : List (Nat × Nat) := [(243, 48), (257, 50), (407, 44), (672, 48), (648, 50), (250, 49), (264, 51), (658, 49), (654, 51), (81, 44), (76, 44), (189, 46), (469, 44), (388, 44), (376, 44), (372, 44), (430, 42), (474, 46), (485, 46), (433, 42), (481, 46), (495, 46), (491, 46), (465, 46), (560, 46), (271, 52), (663, 52), (399, 44), (380, 44), (443, 44), (513, 44), (427, 44), (423, 44), (419, 44), (415, 44), (457, 44), (461, 44), (411, 44), (403, 44), (572, 44), (568, 44), (171, 45), (603, 45), (619, 45), (615, 45), (583, 57), (636, 45), (633, 45), (628, 45), (228, 47), (70, 43), (325, 43), (345, 43), (349, 43), (352, 43), (342, 43), (364, 43), (360, 43), (368, 43), (384, 43), (356, 43), (337, 43), (278, 53), (669, 53), (62, 42), (321, 42), (329, 42), (333, 42), (395, 42), (447, 42), (453, 42), (503, 42), (499, 42), (508, 42), (520, 42), (517, 42), (524, 42), (528, 42), (537, 42), (541, 42), (544, 42), (534, 42), (552, 42), (548, 42), (556, 42), (564, 42), (580, 42), (592, 42), (589, 42), (595, 42), (576, 42), (599, 42), (607, 42), (611, 42), (624, 42), (641, 42), (679, 42), (676, 42), (683, 42), (687, 42), (691, 42), (709, 54), (715, 54), (712, 54), (705, 54), (723, 54), (727, 54), (719, 54), (701, 54), (731, 54), (696, 54), (815, 54), (854, 54), (799, 54), (803, 54), (807, 54), (823, 54), (858, 54), (819, 54), (842, 54), (839, 54), (835, 54), (827, 54), (846, 54), (831, 54), (811, 54), (850, 54), (866, 54), (870, 54), (878, 54), (874, 54), (862, 54), (886, 54), (882, 54), (890, 54), (894, 54), (898, 54), (902, 54), (911, 54), (907, 54), (915, 54), (919, 54), (923, 54), (927, 54), (931, 54), (935, 54), (943, 54), (939, 54), (947, 54), (951, 54), (960, 54), (964, 54), (968, 54), (972, 54)]
def am_cp : List (Nat × Nat × Nat) := [(0, 254, 50), (1, 261, 51), (2, 186, 46), (3, 240, 48), (4, 268, 52), (5, 73, 44), (6, 168, 45), (7, 225, 47), (8, 67, 43), (9, 247, 49), (10, 275, 53), (11, 59, 42), (12, 693, 54)]
/-- places of the words that are no good words: nest links, castable -/
def am_NW : List Nat := [68, 169, 187, 226, 241, 248, 251, 255, 258, 262, 265, 269, 272, 276, 279, 428, 431, 477, 486, 620, 975, 976, 977, 978, 979]
end
section
/-! The small machine: values, cells, one step, and what its tables say of the words of lw_tbl -/
abbrev am_V : Type := Int ⊕ (Int ⊕ (Option Nat ⊕ Unit))
abbrev vI (i : Int) : am_V := .inl i
abbrev vL (i : Int) : am_V := .inr (.inl i)
abbrev vR (a : Nat) : am_V := .inr (.inr (.inl (some a)))
abbrev vN : am_V := .inr (.inr (.inl none))
abbrev vU : am_V := .inr (.inr (.inr ()))
abbrev am_C : Type := (Nat × Nat × (Nat → Int)) ⊕ ((Nat × Nat × (Nat → Option Nat)) ⊕ (Nat × List am_V))
abbrev cI (t n : Nat) (f : Nat → Int) : am_C := .inl (t, n, f)
abbrev cQ (t n : Nat) (f : Nat → Option Nat) : am_C := .inr (.inl (t, n, f))
abbrev cO (k : Nat) (fs : List am_V) : am_C := .inr (.inr (k, fs))
abbrev am_H : Type := (Nat → am_C) × Nat × Nat
def hS (h : am_H) (a : Nat) (c : am_C) : am_H := (fun x => if x = a then c else h.1 x, h.2)
def hA (h : am_H) (c : am_C) (k : Nat) : am_H := (fun x => if x = h.2.1 then c else h.1 x, h.2.1 + 1, h.2.2 + k)
abbrev am_N : Type := (Nat × List am_V × List am_V × am_H) ⊕ (Option am_V ⊕ (Nat × List am_V × List am_V))
def am_rg (x : Int) : Bool := decide (-2147483648 ≤ x) && decide (x < 2147483648)
def am_cmp (c : Jvm.ClassFile.Cond) (x y : Int) : Bool := match c with
  | .eq => decide (x = y)
  | .ne => decide (¬ x = y)
  | .lt => decide (x < y)
  | .ge => decide (y ≤ x)
  | .gt => decide (y < x)
  | .le => decide (x ≤ y)
def am_j (pc : Nat) (off : Int) : Option Nat := if 0 ≤ (pc : Int) + off then some ((pc : Int) + off).toNat else none
def am_to (pc : Nat) (off : Int) (ls st : List am_V) (h : am_H) : Option am_N := match am_j pc off with
  | some t => some (.inl (t, ls, st, h))
  | none => none
def am_fl (oc idx : Nat) : Option (Nat × Nat) := (am_FL.find? (fun e => e.1 == oc && e.2.1 == idx)).map (fun e => (e.2.2.1, e.2.2.2.1))
def am_st (oc idx : Nat) : Option (Nat × Nat) := (am_ST.find? (fun e => e.1 == oc && e.2.1 == idx)).map (fun e => (e.2.2.1, e.2.2.2.1))
def am_ck (oc idx : Nat) : Option Int := (am_CK.find? (fun e => e.1 == oc && e.2.1 == idx)).map (fun e => e.2.2.1)
def am_cl (oc idx : Nat) : Option Int := (am_CL.find? (fun e => e.1 == oc && e.2.1 == idx)).map (fun e => e.2.2.1)
def am_nc (oc idx : Nat) : Option Nat := (am_NC.find? (fun e => e.1 == oc && e.2.1 == idx)).map (fun e => e.2.2.1)
def am_ct (v : am_V) : Nat := match v with
  | .inr (.inl _) => 2
  | _ => 1
def am_ir (v : am_V) : Bool := match v with
  | .inl _ => true
  | .inr (.inr (.inl _)) => true
  | _ => false
/-- does a value fit a field of that type -/
def am_ft (ty : FieldType) (v : am_V) : Bool := match ty, v with
  | .int, .inl _ => true
  | .boolean, .inl x => decide (x = 0) || decide (x = 1)
  | .long, .inr (.inl _) => true
  | .object _, .inr (.inr (.inl _)) => true
  | .array _, .inr (.inr (.inl _)) => true
  | _, _ => false
def am_df (ty : FieldType) : am_V := match ty with
  | .int => vI 0
  | .boolean => vI 0
  | .long => vL 0
  | _ => vN
def am_dfs (ci : Nat) : List am_V := (List.range (am_nf ci)).map (fun k => am_df (am_ty ci k))
/-- a field that is no final one, or the class's own in its constructor -/
def am_pu (M ci k : Nat) : Bool := if (am_T ci k).2.2.2 then decide ((am_y M).name = "<init>") && decide ((am_T ci k).1 = am_cn (am_oc M)) else true
def am_fit (M Y : Nat) : Bool := decide (am_na Y ≤ am_ml Y) && decide (am_fr Y + 1 ≤ am_fr M) && decide (8 + (am_ml Y + 11) + am_lo Y ≤ am_lo M) && decide (Y < 154) && decide (1 ≤ am_na Y)
def am_call (M Y : Nat) (st : List am_V) : Option am_N :=
  if am_na Y ≤ st.length ∧ (st.take (am_na Y)).all am_ir = true ∧ ((st.drop (am_na Y)).map am_ct).sum ≤ 8 ∧ am_fit M Y = true then some (.inr (.inr (Y, (st.take (am_na Y)).reverse, st.drop (am_na Y)))) else none
def am_rcv (Y : Nat) (st : List am_V) (h : am_H) : Option Nat := match st[am_na Y - 1]? with
  | some (.inr (.inr (.inl (some a)))) => (match h.1 a with
    | .inr (.inr (ci, _)) => some ci
    | _ => none)
  | _ => none
def am_sw (ps : List (Int × Int)) (d x : Int) : Int := match ps with
  | [] => d
  | q :: r => if q.1 = x then q.2 else am_sw r d x
def am_ex (M pc : Nat) (ins : Instr) (len : Nat) (ls st : List am_V) (h : am_H) : Option am_N := match ins with
  | .iconst i => if len = 1 then some (.inl (pc + 1, ls, vI i :: st, h)) else none
  | .bipush i => if len = 2 ∧ (Int8.ofInt i).toInt32 = Int32.ofInt i then some (.inl (pc + 2, ls, vI i :: st, h)) else none
  | .sipush i => if len = 3 ∧ (Int16.ofInt i).toInt32 = Int32.ofInt i then some (.inl (pc + 3, ls, vI i :: st, h)) else none
  | .lconst i => if len = 1 then some (.inl (pc + 1, ls, vL (i.val : Int) :: st, h)) else none
  | .ldc idx => (match am_ck (am_oc M) idx with
    | some v => if len = 2 then some (.inl (pc + 2, ls, vI v :: st, h)) else none
    | none => none)
  | .ldc_w idx => (match am_ck (am_oc M) idx with
    | some v => if len = 3 then some (.inl (pc + 3, ls, vI v :: st, h)) else none
    | none => none)
  | .ldc2_w idx => (match am_cl (am_oc M) idx with
    | some v => if len = 3 then some (.inl (pc + 3, ls, vL v :: st, h)) else none
    | none => none)
  | .iload_n k => (match ls[k.val]? with
    | some (.inl x) => if len = 1 then some (.inl (pc + 1, ls, vI x :: st, h)) else none
    | _ => none)
  | .iload k => (match ls[k]? with
    | some (.inl x) => if len = 2 then some (.inl (pc + 2, ls, vI x :: st, h)) else none
    | _ => none)
  | .aload_n k => (match ls[k.val]? with
    | some (.inr (.inr (.inl (some a)))) => if len = 1 then some (.inl (pc + 1, ls, vR a :: st, h)) else none
    | _ => none)
  | .aload k => (match ls[k]? with
    | some (.inr (.inr (.inl (some a)))) => if len = 2 then some (.inl (pc + 2, ls, vR a :: st, h)) else none
    | _ => none)
  | .istore_n k => (match st with
    | .inl x :: r => if len = 1 ∧ k.val < ls.length then some (.inl (pc + 1, ls.set k.val (vI x), r, h)) else none
    | _ => none)
  | .istore k => (match st with
    | .inl x :: r => if len = 2 ∧ k < ls.length then some (.inl (pc + 2, ls.set k (vI x), r, h)) else none
    | _ => none)
  | .astore_n k => (match st with
    | .inr (.inr (.inl (some a))) :: r => if len = 1 ∧ k.val < ls.length then some (.inl (pc + 1, ls.set k.val (vR a), r, h)) else none
    | _ => none)
  | .astore k => (match st with
    | .inr (.inr (.inl (some a))) :: r => if len = 2 ∧ k < ls.length then some (.inl (pc + 2, ls.set k (vR a), r, h)) else none
    | _ => none)
  | .iinc k n => (match ls[k]? with
    | some (.inl x) => if len = 3 then some (.inl (pc + 3, ls.set k (vI (x + n)), st, h)) else none
    | _ => none)
  | .iadd => (match st with
    | .inl y :: .inl x :: r => if len = 1 then some (.inl (pc + 1, ls, vI (x + y) :: r, h)) else none
    | _ => none)
  | .isub => (match st with
    | .inl y :: .inl x :: r => if len = 1 then some (.inl (pc + 1, ls, vI (x - y) :: r, h)) else none
    | _ => none)
  | .imul => (match st with
    | .inl y :: .inl x :: r => if len = 1 then some (.inl (pc + 1, ls, vI (x * y) :: r, h)) else none
    | _ => none)
  | .idiv => (match st with
    | .inl y :: .inl x :: r => if len = 1 ∧ ¬ Int32.ofInt y = 0 then some (.inl (pc + 1, ls, vI (Int32.ofInt x / Int32.ofInt y).toInt :: r, h)) else none
    | _ => none)
  | .irem => (match st with
    | .inl y :: .inl x :: r => if len = 1 ∧ ¬ Int32.ofInt y = 0 then some (.inl (pc + 1, ls, vI (Int32.ofInt x - Int32.ofInt x / Int32.ofInt y * Int32.ofInt y).toInt :: r, h)) else none
    | _ => none)
  | .ineg => (match st with
    | .inl x :: r => if len = 1 then some (.inl (pc + 1, ls, vI (-x) :: r, h)) else none
    | _ => none)
  | .iand => (match st with
    | .inl y :: .inl x :: r => if len = 1 then some (.inl (pc + 1, ls, vI (Int32.ofInt x &&& Int32.ofInt y).toInt :: r, h)) else none
    | _ => none)
  | .ior => (match st with
    | .inl y :: .inl x :: r => if len = 1 then some (.inl (pc + 1, ls, vI (Int32.ofInt x ||| Int32.ofInt y).toInt :: r, h)) else none
    | _ => none)
  | .ishl => (match st with
    | .inl y :: .inl x :: r => if len = 1 then some (.inl (pc + 1, ls, vI (Int32.ofInt x <<< (Int32.ofInt y &&& 31)).toInt :: r, h)) else none
    | _ => none)
  | .ishr => (match st with
    | .inl y :: .inl x :: r => if len = 1 then some (.inl (pc + 1, ls, vI (Int32.ofInt x >>> (Int32.ofInt y &&& 31)).toInt :: r, h)) else none
    | _ => none)
  | .iushr => (match st with
    | .inl y :: .inl x :: r => if len = 1 then some (.inl (pc + 1, ls, vI ((Int32.ofInt x).toUInt32 >>> ((Int32.ofInt y).toUInt32 &&& Int32.toUInt32 31)).toInt32.toInt :: r, h)) else none
    | _ => none)
  | .ladd => (match st with
    | .inr (.inl y) :: .inr (.inl x) :: r => if len = 1 then some (.inl (pc + 1, ls, vL (x + y) :: r, h)) else none
    | _ => none)
  | .lcmp => (match st with
    | .inr (.inl y) :: .inr (.inl x) :: r => if len = 1 then some (.inl (pc + 1, ls, vI (lg_cmp (Int64.ofInt x) (Int64.ofInt y)).toInt :: r, h)) else none
    | _ => none)
  | .dup => (match st with
    | v :: r => if len = 1 ∧ am_ct v = 1 then some (.inl (pc + 1, ls, v :: v :: r, h)) else none
    | _ => none)
  | .pop => (match st with
    | v :: r => if len = 1 ∧ am_ct v = 1 then some (.inl (pc + 1, ls, r, h)) else none
    | _ => none)
  | .dup2 => (match st with
    | v :: w :: r => if len = 1 ∧ am_ct v = 1 ∧ am_ct w = 1 then some (.inl (pc + 1, ls, v :: w :: v :: w :: r, h)) else none
    | _ => none)
  | .ifCond c off => (match st with
    | .inl x :: r => if len = 3 ∧ am_rg x = true ∧ 0 ≤ (pc : Int) + off then (if am_cmp c x 0 = true then am_to pc off ls r h else some (.inl (pc + 3, ls, r, h))) else none
    | _ => none)
  | .if_icmp c off => (match st with
    | .inl y :: .inl x :: r => if len = 3 ∧ am_rg x = true ∧ am_rg y = true ∧ 0 ≤ (pc : Int) + off then (if am_cmp c x y = true then am_to pc off ls r h else some (.inl (pc + 3, ls, r, h))) else none
    | _ => none)
  | .goto off => if len = 3 then am_to pc off ls st h else none
  | .tableswitch d lo hi offs => (match st with
    | .inl x :: r => if am_rg x = true then (if x < lo ∨ hi < x then am_to pc d ls r h else (match offs[(x - lo).toNat]? with
      | some off => am_to pc off ls r h
      | none => none)) else none
    | _ => none)
  | .lookupswitch d ps => (match st with
    | .inl x :: r => if am_rg x = true ∧ (ps.toList.zip (ps.toList.drop 1)).all (fun (a, next) => a.1 < next.1) = true then am_to pc (Op.lookupswitch.offset ps.toList d x) ls r h else none
    | _ => none)
  | .getfield idx => (match am_fl (am_oc M) idx, st with
    | some (ci, k), .inr (.inr (.inl (some a))) :: r => (match h.1 a with
      | .inr (.inr (c2, fs)) => (match fs[k]? with
        | some v => if len = 3 ∧ c2 = ci then some (.inl (pc + 3, ls, v :: r, h)) else none
        | none => none)
      | _ => none)
    | _, _ => none)
  | .putfield idx => (match am_fl (am_oc M) idx, st with
    | some (ci, k), v :: .inr (.inr (.inl (some a))) :: r => (match h.1 a with
      | .inr (.inr (c2, fs)) => if len = 3 ∧ c2 = ci ∧ k < fs.length ∧ am_ft (am_ty ci k) v = true ∧ am_pu M ci k = true then some (.inl (pc + 3, ls, r, hS h a (cO ci (fs.set k v)))) else none
      | _ => none)
    | _, _ => none)
  | .iaload => (match st with
    | .inl i :: .inr (.inr (.inl (some a))) :: r => (match h.1 a with
      | .inl (t, n, f) => if len = 1 ∧ (t = 0 ∨ t = 9) ∧ 0 ≤ i ∧ i < (n : Int) ∧ i < 2147483648 then some (.inl (pc + 1, ls, vI (f i.toNat) :: r, h)) else none
      | _ => none)
    | _ => none)
  | .iastore => (match st with
    | .inl x :: .inl i :: .inr (.inr (.inl (some a))) :: r => (match h.1 a with
      | .inl (t, n, f) => if len = 1 ∧ t = 0 ∧ 0 ≤ i ∧ i < (n : Int) ∧ i < 2147483648 then some (.inl (pc + 1, ls, r, hS h a (cI 0 n (fun j => if j = i.toNat then x else f j)))) else none
      | _ => none)
    | _ => none)
  | .baload => (match st with
    | .inl i :: .inr (.inr (.inl (some a))) :: r => (match h.1 a with
      | .inl (t, n, f) => if len = 1 ∧ t = 1 ∧ 0 ≤ i ∧ i < (n : Int) ∧ i < 2147483648 then some (.inl (pc + 1, ls, vI (f i.toNat) :: r, h)) else none
      | _ => none)
    | _ => none)
  | .bastore => (match st with
    | .inl x :: .inl i :: .inr (.inr (.inl (some a))) :: r => (match h.1 a with
      | .inl (t, n, f) => if len = 1 ∧ t = 1 ∧ (x = 0 ∨ x = 1) ∧ 0 ≤ i ∧ i < (n : Int) ∧ i < 2147483648 then some (.inl (pc + 1, ls, r, hS h a (cI 1 n (fun j => if j = i.toNat then x else f j)))) else none
      | _ => none)
    | _ => none)
  | .aaload => (match st with
    | .inl i :: .inr (.inr (.inl (some a))) :: r => (match h.1 a with
      | .inr (.inl (_, n, f)) => if len = 1 ∧ 0 ≤ i ∧ i < (n : Int) ∧ i < 2147483648 then some (.inl (pc + 1, ls, (.inr (.inr (.inl (f i.toNat)))) :: r, h)) else none
      | _ => none)
    | _ => none)
  | .aastore => (match st with
    | .inr (.inr (.inl (some v))) :: .inl i :: .inr (.inr (.inl (some a))) :: r => (match h.1 a, h.1 v with
      | .inr (.inl (t, n, f)), .inr (.inr (c2, _)) => if len = 1 ∧ 0 ≤ i ∧ i < (n : Int) ∧ i < 2147483648 ∧ ((t = 2 ∧ c2 = 5) ∨ (t = 3 ∧ (c2 = 0 ∨ c2 = 1 ∨ c2 = 3 ∨ c2 = 4 ∨ c2 = 9 ∨ c2 = 10))) then some (.inl (pc + 1, ls, r, hS h a (cQ t n (fun j => if j = i.toNat then some v else f j)))) else none
      | _, _ => none)
    | _ => none)
  | .arraylength => (match st with
    | .inr (.inr (.inl (some a))) :: r => (match h.1 a with
      | .inl (t, n, _) => if len = 1 ∧ t = 9 then some (.inl (pc + 1, ls, vI (n : Int) :: r, h)) else none
      | _ => none)
    | _ => none)
  | .newarray ty => (match st with
    | .inl n :: r => if len = 2 ∧ 0 ≤ n ∧ n ≤ 1000 ∧ (ty = .int ∨ ty = .boolean) then some (.inl (pc + 2, ls, vR h.2.1 :: r, hA h (cI (if ty = .int then 0 else 1) n.toNat (fun _ => 0)) n.toNat)) else none
    | _ => none)
  | .anewarray idx => (match am_nc (am_oc M) idx, st with
    | some ci, .inl n :: r => if len = 3 ∧ 0 ≤ n ∧ n ≤ 1000 ∧ (ci = 5 ∨ ci = 3) then some (.inl (pc + 3, ls, vR h.2.1 :: r, hA h (cQ (if ci = 5 then 2 else 3) n.toNat (fun _ => none)) n.toNat)) else none
    | _, _ => none)
  | .new idx => (match am_nc (am_oc M) idx with
    | some ci => if len = 3 ∧ ci < 13 then some (.inl (pc + 3, ls, vR h.2.1 :: st, hA h (cO ci (am_dfs ci)) (am_nf ci))) else none
    | none => none)
  | .invokestatic idx => (match am_st (am_oc M) idx with
    | some (1, y) => if len = 3 then am_call M y st else none
    | some (2, y) => if len = 3 then am_call M y st else none
    | some (9, _) => (match st with
      | [.inl n, .inl dp, .inr (.inr (.inl (some a))), .inl sp, .inr (.inr (.inl (some a0)))] => (match h.1 a0, h.1 a with
        | .inl (t0, n0, f0), .inl (t1, n1, f1) => if len = 3 ∧ t0 = 0 ∧ t1 = 0 ∧ sp = 0 ∧ dp = 0 ∧ 0 ≤ n ∧ n ≤ (n0 : Int) ∧ n ≤ (n1 : Int) ∧ n < 2147483648 ∧ 1 ≤ am_fr M ∧ 40 ≤ am_lo M then some (.inl (pc + 3, ls, [], hS h a (cI 0 n1 (fun j => if j < n.toNat then f0 j else f1 j)))) else none
        | _, _ => none)
      | _ => none)
    | some (10, _) => (match st with
      | .inl y :: .inl x :: r => if len = 3 ∧ (r.map am_ct).sum ≤ 8 ∧ 1 ≤ am_fr M ∧ 40 ≤ am_lo M ∧ am_rg x = true ∧ am_rg y = true then some (.inl (pc + 3, ls, vI (if x < y then y else x) :: r, h)) else none
      | _ => none)
    | some (11, _) => (match st with
      | .inl y :: .inl x :: r => if len = 3 ∧ (r.map am_ct).sum ≤ 8 ∧ 1 ≤ am_fr M ∧ 40 ≤ am_lo M ∧ am_rg x = true ∧ am_rg y = true then some (.inl (pc + 3, ls, vI (if y < x then y else x) :: r, h)) else none
      | _ => none)
    | _ => none)
  | .invokevirtual idx => (match am_st (am_oc M) idx with
    | some (0, y) => if len = 3 ∧ am_rcv y st h = some (am_oc y) then am_call M y st else none
    | some (6, y) => (match am_rcv y st h with
      | some ci => if len = 3 ∧ am_ws.contains ci = true then am_call M (am_wo ci) st else none
      | none => none)
    | _ => none)
  | .invokespecial idx => (match am_st (am_oc M) idx with
    | some (3, y) => if len = 3 ∧ (am_rcv y st h).isSome = true then am_call M y st else none
    | some (4, y) => if len = 3 ∧ (am_rcv y st h).isSome = true then am_call M y st else none
    | some (5, y) => if len = 3 ∧ (am_rcv y st h).isSome = true then am_call M y st else none
    | some (8, _) => (match st with
      | .inr (.inr (.inl (some _))) :: r => if len = 3 ∧ (r.map am_ct).sum ≤ 8 ∧ 1 ≤ am_fr M ∧ 20 ≤ am_lo M then some (.inl (pc + 3, ls, r, h)) else none
      | _ => none)
    | _ => none)
  | .ireturn => (match st with
    | [.inl x] => if len = 1 ∧ (am_rt M = some .int ∨ (am_rt M = some .boolean ∧ (x = 0 ∨ x = 1))) then some (.inr (.inl (some (vI x)))) else none
    | _ => none)
  | .lreturn => (match st with
    | [.inr (.inl x)] => if len = 1 ∧ am_rt M = some .long then some (.inr (.inl (some (vL x)))) else none
    | _ => none)
  | .return_ => (match st with
    | [] => if len = 1 ∧ am_rt M = none then some (.inr (.inl none)) else none
    | _ => none)
  | _ => none
def am_nx (M pc : Nat) (ls st : List am_V) (h : am_H) : Option am_N := match decode (am_by M) pc with
  | .ok (ins, len) => am_ex M pc ins len ls st h
  | _ => none
def am_il (Y : Nat) (as : List am_V) : List am_V := as ++ List.replicate (am_ml Y - as.length) vU
abbrev am_R : Type := Option am_V × am_H
def am_run : Nat → Nat → Nat → List am_V → List am_V → am_H → Option am_R
  | 0, _, _, _, _, _ => none
  | f + 1, M, pc, ls, st, h => match am_nx M pc ls st h with
    | none => none
    | some (.inl q) => am_run f M q.1 q.2.1 q.2.2.1 q.2.2.2
    | some (.inr (.inl r)) => some (r, h)
    | some (.inr (.inr q)) => (match am_run f q.1 0 (am_il q.1 q.2.1) [] h with
      | none => none
      | some R => am_run f M (pc + 3) ls (R.1.toList ++ q.2.2) R.2)
end
section
/-! What the small machine comes to from a state, without fuel -/
theorem am_run_mono : ∀ (f M pc : Nat) (ls st : List am_V) (h : am_H) (R : am_R), am_run f M pc ls st h = some R → am_run (f + 1) M pc ls st h = some R := by
  intro f
  induction f with
  | zero => intro M pc ls st h R hr; simp [am_run] at hr
  | succ f ih =>
    intro M pc ls st h R hr
    rw [am_run] at hr ⊢
    cases hn : am_nx M pc ls st h with
    | none => rw [hn] at hr; simp at hr
    | some q =>
      rw [hn] at hr
      rcases q with q | q | q
      · simp only at hr ⊢
        exact ih _ _ _ _ _ _ hr
      · simpa using hr
      · simp only at hr ⊢
        cases hc : am_run f q.1 0 (am_il q.1 q.2.1) [] h with
        | none => rw [hc] at hr; simp at hr
        | some S =>
          rw [hc] at hr
          rw [ih _ _ _ _ _ _ hc]
          simp only at hr ⊢
          exact ih _ _ _ _ _ _ hr
theorem am_run_le {f g M pc : Nat} {ls st : List am_V} {h : am_H} {R : am_R} (hfg : f ≤ g) (hr : am_run f M pc ls st h = some R) : am_run g M pc ls st h = some R := by
  induction hfg with
  | refl => exact hr
  | step _ ih => exact am_run_mono _ _ _ _ _ _ _ ih
theorem am_run_det {f g M pc : Nat} {ls st : List am_V} {h : am_H} {R S : am_R} (hr : am_run f M pc ls st h = some R) (hs : am_run g M pc ls st h = some S) : R = S := by
  have h1 := am_run_le (Nat.le_max_left f g) hr
  have h2 := am_run_le (Nat.le_max_right f g) hs
  exact Option.some.inj (h1.symm.trans h2)
noncomputable def gv (M pc : Nat) (ls st : List am_V) (h : am_H) : Option am_R :=
  @dite (Option am_R) (∃ R f, am_run f M pc ls st h = some R) (Classical.propDecidable _) (fun q => some q.choose) (fun _ => none)
theorem gv_some {M pc : Nat} {ls st : List am_V} {h : am_H} {R : am_R} : gv M pc ls st h = some R ↔ ∃ f, am_run f M pc ls st h = some R := by
  unfold gv
  constructor
  · intro hq
    split at hq
    · rename_i q
      obtain ⟨f, hf⟩ := q.choose_spec
      exact ⟨f, by rw [hf]; exact hq⟩
    · cases hq
  · rintro ⟨f, hf⟩
    have q : ∃ R f, am_run f M pc ls st h = some R := ⟨R, f, hf⟩
    rw [dif_pos q]
    obtain ⟨g, hg⟩ := q.choose_spec
    rw [am_run_det hg hf]
theorem gv_ext {A B : Option am_R} (h : ∀ R, A = some R ↔ B = some R) : A = B := by
  cases A with
  | none =>
    cases B with
    | none => rfl
    | some R => exact absurd ((h R).mpr rfl) (by simp)
  | some R => exact ((h R).mp rfl).symm
theorem gv_go {M pc : Nat} {ls st : List am_V} {h : am_H} {q : Nat × List am_V × List am_V × am_H} (hn : am_nx M pc ls st h = some (.inl q)) : gv M pc ls st h = gv M q.1 q.2.1 q.2.2.1 q.2.2.2 := by
  refine gv_ext fun R => ?_
  rw [gv_some, gv_some]
  constructor
  · rintro ⟨f, hf⟩
    cases f with
    | zero => simp [am_run] at hf
    | succ f => rw [am_run, hn] at hf; exact ⟨f, hf⟩
  · rintro ⟨f, hf⟩
    exact ⟨f + 1, by rw [am_run, hn]; exact hf⟩
theorem gv_ret {M pc : Nat} {ls st : List am_V} {h : am_H} {r : Option am_V} (hn : am_nx M pc ls st h = some (.inr (.inl r))) : gv M pc ls st h = some (r, h) := by
  rw [gv_some]
  exact ⟨1, by rw [am_run, hn]⟩
/-- a method's answer and heap -/
noncomputable def ev (Y : Nat) (as : List am_V) (h : am_H) : Option am_R := gv Y 0 (am_il Y as) [] h
theorem gv_call {M pc : Nat} {ls st : List am_V} {h : am_H} {Y : Nat} {as r : List am_V} (hn : am_nx M pc ls st h = some (.inr (.inr (Y, as, r)))) : gv M pc ls st h = (ev Y as h).bind (fun R => gv M (pc + 3) ls (R.1.toList ++ r) R.2) := by
  refine gv_ext fun R => ?_
  rw [gv_some]
  constructor
  · rintro ⟨f, hf⟩
    cases f with
    | zero => simp [am_run] at hf
    | succ f =>
      rw [am_run, hn] at hf
      simp only at hf
      cases hc : am_run f Y 0 (am_il Y as) [] h with
      | none => rw [hc] at hf; simp at hf
      | some S =>
        rw [hc] at hf
        have e1 : ev Y as h = some S := gv_some.mpr ⟨f, hc⟩
        rw [e1, Option.bind_some]
        exact gv_some.mpr ⟨f, hf⟩
  · intro hb
    cases hc : ev Y as h with
    | none => rw [hc] at hb; simp at hb
    | some S =>
      rw [hc, Option.bind_some] at hb
      obtain ⟨f, hf⟩ := gv_some.mp hc
      obtain ⟨g, hg⟩ := gv_some.mp hb
      refine ⟨max f g + 1, ?_⟩
      rw [am_run, hn]
      simp only
      rw [am_run_le (Nat.le_max_left f g) hf]
      exact am_run_le (Nat.le_max_right f g) hg
/-! one instruction, as an equation -/
section GV
variable {M pc : Nat} {ls st r : List am_V} {h : am_H}
theorem gv_ex {ins : Instr} {len : Nat} (hd : decode (am_by M) pc = .ok (ins, len)) : am_nx M pc ls st h = am_ex M pc ins len ls st h := by
  unfold am_nx; rw [hd]
theorem gq_iconst {i : Int} (hd : decode (am_by M) pc = .ok (.iconst i, 1)) : gv M pc ls st h = gv M (pc + 1) ls (vI i :: st) h := gv_go (q := (pc + 1, ls, vI i :: st, h)) (by rw [gv_ex hd]; rfl)
theorem gq_bipush {i : Int} (hd : decode (am_by M) pc = .ok (.bipush i, 2)) (hi : (Int8.ofInt i).toInt32 = Int32.ofInt i) : gv M pc ls st h = gv M (pc + 2) ls (vI i :: st) h := gv_go (q := (pc + 2, ls, vI i :: st, h)) (by rw [gv_ex hd]; simp [am_ex, hi])
theorem gq_sipush {i : Int} (hd : decode (am_by M) pc = .ok (.sipush i, 3)) (hi : (Int16.ofInt i).toInt32 = Int32.ofInt i) : gv M pc ls st h = gv M (pc + 3) ls (vI i :: st) h := gv_go (q := (pc + 3, ls, vI i :: st, h)) (by rw [gv_ex hd]; simp [am_ex, hi])
theorem gq_lconst {i : Fin 2} (hd : decode (am_by M) pc = .ok (.lconst i, 1)) : gv M pc ls st h = gv M (pc + 1) ls (vL (i.val : Int) :: st) h := gv_go (q := (pc + 1, ls, vL (i.val : Int) :: st, h)) (by rw [gv_ex hd]; rfl)
theorem gq_ldc {idx : Nat} {v : Int} (hd : decode (am_by M) pc = .ok (.ldc idx, 2)) (hv : am_ck (am_oc M) idx = some v) : gv M pc ls st h = gv M (pc + 2) ls (vI v :: st) h := gv_go (q := (pc + 2, ls, vI v :: st, h)) (by rw [gv_ex hd]; simp [am_ex, hv])
theorem gq_ldcw {idx : Nat} {v : Int} (hd : decode (am_by M) pc = .ok (.ldc_w idx, 3)) (hv : am_ck (am_oc M) idx = some v) : gv M pc ls st h = gv M (pc + 3) ls (vI v :: st) h := gv_go (q := (pc + 3, ls, vI v :: st, h)) (by rw [gv_ex hd]; simp [am_ex, hv])
theorem gq_ldc2 {idx : Nat} {v : Int} (hd : decode (am_by M) pc = .ok (.ldc2_w idx, 3)) (hv : am_cl (am_oc M) idx = some v) : gv M pc ls st h = gv M (pc + 3) ls (vL v :: st) h := gv_go (q := (pc + 3, ls, vL v :: st, h)) (by rw [gv_ex hd]; simp [am_ex, hv])
theorem gq_iload_n {k : Fin 4} {x : Int} (hd : decode (am_by M) pc = .ok (.iload_n k, 1)) (hl : ls[k.val]? = some (vI x)) : gv M pc ls st h = gv M (pc + 1) ls (vI x :: st) h := gv_go (q := (pc + 1, ls, vI x :: st, h)) (by rw [gv_ex hd]; simp [am_ex, hl])
theorem gq_iload {k : Nat} {x : Int} (hd : decode (am_by M) pc = .ok (.iload k, 2)) (hl : ls[k]? = some (vI x)) : gv M pc ls st h = gv M (pc + 2) ls (vI x :: st) h := gv_go (q := (pc + 2, ls, vI x :: st, h)) (by rw [gv_ex hd]; simp [am_ex, hl])
theorem gq_aload_n {k : Fin 4} {a : Nat} (hd : decode (am_by M) pc = .ok (.aload_n k, 1)) (hl : ls[k.val]? = some (vR a)) : gv M pc ls st h = gv M (pc + 1) ls (vR a :: st) h := gv_go (q := (pc + 1, ls, vR a :: st, h)) (by rw [gv_ex hd]; simp [am_ex, hl])
theorem gq_aload {k : Nat} {a : Nat} (hd : decode (am_by M) pc = .ok (.aload k, 2)) (hl : ls[k]? = some (vR a)) : gv M pc ls st h = gv M (pc + 2) ls (vR a :: st) h := gv_go (q := (pc + 2, ls, vR a :: st, h)) (by rw [gv_ex hd]; simp [am_ex, hl])
theorem gq_istore_n {k : Fin 4} {x : Int} {ls' : List am_V} (hd : decode (am_by M) pc = .ok (.istore_n k, 1)) (hk : k.val < ls.length) (hl : ls.set k.val (vI x) = ls') : gv M pc ls (vI x :: r) h = gv M (pc + 1) ls' r h := gv_go (q := (pc + 1, ls', r, h)) (by rw [gv_ex hd]; simp [am_ex, hk, hl])
theorem gq_istore {k : Nat} {x : Int} {ls' : List am_V} (hd : decode (am_by M) pc = .ok (.istore k, 2)) (hk : k < ls.length) (hl : ls.set k (vI x) = ls') : gv M pc ls (vI x :: r) h = gv M (pc + 2) ls' r h := gv_go (q := (pc + 2, ls', r, h)) (by rw [gv_ex hd]; simp [am_ex, hk, hl])
theorem gq_astore_n {k : Fin 4} {a : Nat} {ls' : List am_V} (hd : decode (am_by M) pc = .ok (.astore_n k, 1)) (hk : k.val < ls.length) (hl : ls.set k.val (vR a) = ls') : gv M pc ls (vR a :: r) h = gv M (pc + 1) ls' r h := gv_go (q := (pc + 1, ls', r, h)) (by rw [gv_ex hd]; simp [am_ex, hk, hl])
theorem gq_astore {k : Nat} {a : Nat} {ls' : List am_V} (hd : decode (am_by M) pc = .ok (.astore k, 2)) (hk : k < ls.length) (hl : ls.set k (vR a) = ls') : gv M pc ls (vR a :: r) h = gv M (pc + 2) ls' r h := gv_go (q := (pc + 2, ls', r, h)) (by rw [gv_ex hd]; simp [am_ex, hk, hl])
theorem gq_iinc {k : Nat} {n x : Int} {ls' : List am_V} (hd : decode (am_by M) pc = .ok (.iinc k n, 3)) (hk : ls[k]? = some (vI x)) (hl : ls.set k (vI (x + n)) = ls') : gv M pc ls st h = gv M (pc + 3) ls' st h := gv_go (q := (pc + 3, ls', st, h)) (by rw [gv_ex hd]; simp [am_ex, hk, hl])
theorem gq_iadd {x y : Int} (hd : decode (am_by M) pc = .ok (.iadd, 1)) : gv M pc ls (vI y :: vI x :: r) h = gv M (pc + 1) ls (vI (x + y) :: r) h := gv_go (q := (pc + 1, ls, vI (x + y) :: r, h)) (by rw [gv_ex hd]; rfl)
theorem gq_isub {x y : Int} (hd : decode (am_by M) pc = .ok (.isub, 1)) : gv M pc ls (vI y :: vI x :: r) h = gv M (pc + 1) ls (vI (x - y) :: r) h := gv_go (q := (pc + 1, ls, vI (x - y) :: r, h)) (by rw [gv_ex hd]; rfl)
theorem gq_imul {x y : Int} (hd : decode (am_by M) pc = .ok (.imul, 1)) : gv M pc ls (vI y :: vI x :: r) h = gv M (pc + 1) ls (vI (x * y) :: r) h := gv_go (q := (pc + 1, ls, vI (x * y) :: r, h)) (by rw [gv_ex hd]; rfl)
theorem gq_ineg {x : Int} (hd : decode (am_by M) pc = .ok (.ineg, 1)) : gv M pc ls (vI x :: r) h = gv M (pc + 1) ls (vI (-x) :: r) h := gv_go (q := (pc + 1, ls, vI (-x) :: r, h)) (by rw [gv_ex hd]; rfl)
theorem am_o32 {x : Int} (h : -2147483648 ≤ x ∧ x < 2147483648) : (Int32.ofInt x).toInt = x := by
  rw [Int32.toInt_ofInt]
  exact Int.bmod_eq_of_le (by show -(4294967296 / 2) ≤ x; omega) (by show x < (4294967296 + 1) / 2; omega)
theorem am_r32 (x : Int32) : -2147483648 ≤ x.toInt ∧ x.toInt < 2147483648 := ⟨Int32.le_toInt x, Int32.toInt_lt x⟩
theorem am_ne0 {y : Int} (h : 0 < y ∧ y < 2147483648) : ¬ Int32.ofInt y = 0 := by
  intro q
  have h1 := congrArg Int32.toInt q
  rw [am_o32 (by omega)] at h1
  have h2 : (0 : Int32).toInt = 0 := rfl
  omega
theorem am_div {x y : Int} (hx : 0 ≤ x ∧ x < 2147483648) (hy : 0 < y ∧ y < 2147483648) : (Int32.ofInt x / Int32.ofInt y).toInt = x / y := by
  rw [Int32.toInt_div, am_o32 (by omega), am_o32 (by omega), Int.tdiv_eq_ediv_of_nonneg hx.1]
  have h1 : 0 ≤ x / y := Int.ediv_nonneg hx.1 (by omega)
  have h2 : x / y ≤ x := Int.ediv_le_self _ hx.1
  exact Int.bmod_eq_of_le (by show -(4294967296 / 2) ≤ x / y; omega) (by show x / y < (4294967296 + 1) / 2; omega)
theorem am_rem {x y : Int} (hx : 0 ≤ x ∧ x < 2147483648) (hy : 0 < y ∧ y < 2147483648) : (Int32.ofInt x - Int32.ofInt x / Int32.ofInt y * Int32.ofInt y).toInt = x % y := by
  have h1 : 0 ≤ x / y := Int.ediv_nonneg hx.1 (by omega)
  have h2 : x / y ≤ x := Int.ediv_le_self _ hx.1
  have h3 : Int32.ofInt x / Int32.ofInt y = Int32.ofInt (x / y) := by
    apply Int32.toInt_inj.mp
    rw [am_div hx hy, am_o32 (by omega)]
  have h4 : 0 ≤ x % y := Int.emod_nonneg _ (by omega)
  have h5 : x % y < y := Int.emod_lt_of_pos _ hy.1
  rw [h3, ← Int32.ofInt_mul, ← Int32.ofInt_sub, show x - x / y * y = x % y by rw [Int.emod_def, Int.mul_comm]]
  exact am_o32 (by omega)
theorem gq_idiv {x y : Int} (hd : decode (am_by M) pc = .ok (.idiv, 1)) (hc : (0 ≤ x ∧ x < 2147483648) ∧ 0 < y ∧ y < 2147483648) : gv M pc ls (vI y :: vI x :: r) h = gv M (pc + 1) ls (vI (x / y) :: r) h := gv_go (q := (pc + 1, ls, vI (x / y) :: r, h)) (by rw [gv_ex hd]; simp [am_ex, am_ne0 hc.2, am_div hc.1 hc.2])
theorem gq_irem {x y : Int} (hd : decode (am_by M) pc = .ok (.irem, 1)) (hc : (0 ≤ x ∧ x < 2147483648) ∧ 0 < y ∧ y < 2147483648) : gv M pc ls (vI y :: vI x :: r) h = gv M (pc + 1) ls (vI (x % y) :: r) h := gv_go (q := (pc + 1, ls, vI (x % y) :: r, h)) (by rw [gv_ex hd]; simp [am_ex, am_ne0 hc.2, am_rem hc.1 hc.2])
def jand (x y : Int) : Int := (Int32.ofInt x &&& Int32.ofInt y).toInt
def jor (x y : Int) : Int := (Int32.ofInt x ||| Int32.ofInt y).toInt
def jshl (x y : Int) : Int := (Int32.ofInt x <<< (Int32.ofInt y &&& 31)).toInt
def jshr (x y : Int) : Int := (Int32.ofInt x >>> (Int32.ofInt y &&& 31)).toInt
def jushr (x y : Int) : Int := ((Int32.ofInt x).toUInt32 >>> ((Int32.ofInt y).toUInt32 &&& Int32.toUInt32 31)).toInt32.toInt
theorem gq_iand {x y : Int} (hd : decode (am_by M) pc = .ok (.iand, 1)) : gv M pc ls (vI y :: vI x :: r) h = gv M (pc + 1) ls (vI (jand x y) :: r) h := gv_go (q := (pc + 1, ls, vI (jand x y) :: r, h)) (by rw [gv_ex hd]; rfl)
theorem gq_ior {x y : Int} (hd : decode (am_by M) pc = .ok (.ior, 1)) : gv M pc ls (vI y :: vI x :: r) h = gv M (pc + 1) ls (vI (jor x y) :: r) h := gv_go (q := (pc + 1, ls, vI (jor x y) :: r, h)) (by rw [gv_ex hd]; rfl)
theorem gq_ishl {x y : Int} (hd : decode (am_by M) pc = .ok (.ishl, 1)) : gv M pc ls (vI y :: vI x :: r) h = gv M (pc + 1) ls (vI (jshl x y) :: r) h := gv_go (q := (pc + 1, ls, vI (jshl x y) :: r, h)) (by rw [gv_ex hd]; rfl)
theorem gq_ishr {x y : Int} (hd : decode (am_by M) pc = .ok (.ishr, 1)) : gv M pc ls (vI y :: vI x :: r) h = gv M (pc + 1) ls (vI (jshr x y) :: r) h := gv_go (q := (pc + 1, ls, vI (jshr x y) :: r, h)) (by rw [gv_ex hd]; rfl)
theorem gq_iushr {x y : Int} (hd : decode (am_by M) pc = .ok (.iushr, 1)) : gv M pc ls (vI y :: vI x :: r) h = gv M (pc + 1) ls (vI (jushr x y) :: r) h := gv_go (q := (pc + 1, ls, vI (jushr x y) :: r, h)) (by rw [gv_ex hd]; rfl)
theorem gq_ladd {x y : Int} (hd : decode (am_by M) pc = .ok (.ladd, 1)) : gv M pc ls (vL y :: vL x :: r) h = gv M (pc + 1) ls (vL (x + y) :: r) h := gv_go (q := (pc + 1, ls, vL (x + y) :: r, h)) (by rw [gv_ex hd]; rfl)
def jlcmp (x y : Int) : Int := (lg_cmp (Int64.ofInt x) (Int64.ofInt y)).toInt
theorem jlcmp_self (x : Int) : jlcmp x x = 0 := by simp [jlcmp, lg_cmp]
theorem gq_lcmp {x y : Int} (hd : decode (am_by M) pc = .ok (.lcmp, 1)) : gv M pc ls (vL y :: vL x :: r) h = gv M (pc + 1) ls (vI (jlcmp x y) :: r) h := gv_go (q := (pc + 1, ls, vI (jlcmp x y) :: r, h)) (by rw [gv_ex hd]; rfl)
theorem gq_dupI {x : Int} (hd : decode (am_by M) pc = .ok (.dup, 1)) : gv M pc ls (vI x :: r) h = gv M (pc + 1) ls (vI x :: vI x :: r) h := gv_go (q := (pc + 1, ls, vI x :: vI x :: r, h)) (by rw [gv_ex hd]; rfl)
theorem gq_dupR {a : Nat} (hd : decode (am_by M) pc = .ok (.dup, 1)) : gv M pc ls (vR a :: r) h = gv M (pc + 1) ls (vR a :: vR a :: r) h := gv_go (q := (pc + 1, ls, vR a :: vR a :: r, h)) (by rw [gv_ex hd]; rfl)
theorem gq_pop {x : Int} (hd : decode (am_by M) pc = .ok (.pop, 1)) : gv M pc ls (vI x :: r) h = gv M (pc + 1) ls r h := gv_go (q := (pc + 1, ls, r, h)) (by rw [gv_ex hd]; rfl)
theorem gq_dup2 {x : Int} {a : Nat} (hd : decode (am_by M) pc = .ok (.dup2, 1)) : gv M pc ls (vI x :: vR a :: r) h = gv M (pc + 1) ls (vI x :: vR a :: vI x :: vR a :: r) h := gv_go (q := (pc + 1, ls, vI x :: vR a :: vI x :: vR a :: r, h)) (by rw [gv_ex hd]; rfl)
theorem am_rg_of {x : Int} (h : -2147483648 ≤ x ∧ x < 2147483648) : am_rg x = true := by simp [am_rg, h]
theorem am_j_pos {pc : Nat} {off : Int} {t : Nat} (ht : am_j pc off = some t) : 0 ≤ (pc : Int) + off := by
  unfold am_j at ht
  split at ht
  · assumption
  · cases ht
theorem gq_if {c : Jvm.ClassFile.Cond} {off x : Int} {t u : Nat} {P : Prop} [Decidable P] (hd : decode (am_by M) pc = .ok (.ifCond c off, 3)) (ht : am_j pc off = some t) (hu : pc + 3 = u) (hP : am_cmp c x 0 = decide P) (hx : -2147483648 ≤ x ∧ x < 2147483648) : gv M pc ls (vI x :: r) h = if P then gv M t ls r h else gv M u ls r h := by
  subst hu
  by_cases hp : P
  · rw [if_pos hp]; exact gv_go (q := (t, ls, r, h)) (by rw [gv_ex hd]; simp [am_ex, am_j_pos ht, am_rg_of hx, hP, hp, am_to, ht])
  · rw [if_neg hp]; exact gv_go (q := (pc + 3, ls, r, h)) (by rw [gv_ex hd]; simp [am_ex, am_j_pos ht, am_rg_of hx, hP, hp])
theorem gq_icmp {c : Jvm.ClassFile.Cond} {off x y : Int} {t u : Nat} {P : Prop} [Decidable P] (hd : decode (am_by M) pc = .ok (.if_icmp c off, 3)) (ht : am_j pc off = some t) (hu : pc + 3 = u) (hP : am_cmp c x y = decide P) (hx : (-2147483648 ≤ x ∧ x < 2147483648) ∧ -2147483648 ≤ y ∧ y < 2147483648) : gv M pc ls (vI y :: vI x :: r) h = if P then gv M t ls r h else gv M u ls r h := by
  subst hu
  by_cases hp : P
  · rw [if_pos hp]; exact gv_go (q := (t, ls, r, h)) (by rw [gv_ex hd]; simp [am_ex, am_j_pos ht, am_rg_of hx.1, am_rg_of hx.2, hP, hp, am_to, ht])
  · rw [if_neg hp]; exact gv_go (q := (pc + 3, ls, r, h)) (by rw [gv_ex hd]; simp [am_ex, am_j_pos ht, am_rg_of hx.1, am_rg_of hx.2, hP, hp])
theorem gq_goto {off : Int} {t : Nat} (hd : decode (am_by M) pc = .ok (.goto off, 3)) (ht : am_j pc off = some t) : gv M pc ls st h = gv M t ls st h := gv_go (q := (t, ls, st, h)) (by rw [gv_ex hd]; simp [am_ex, am_to, ht])
/-- a switch: the default behind the last of the cases -/
theorem gq_tableOut {d lo hi x : Int} {offs : Array Int} {len t : Nat} (hd : decode (am_by M) pc = .ok (.tableswitch d lo hi offs, len)) (ht : am_j pc d = some t) (hx : -2147483648 ≤ x ∧ x < 2147483648) (ho : x < lo ∨ hi < x) : gv M pc ls (vI x :: r) h = gv M t ls r h := gv_go (q := (t, ls, r, h)) (by rw [gv_ex hd]; simp [am_ex, am_rg_of hx, ho, am_to, ht])
theorem gq_tableIn {d lo hi x off : Int} {offs : Array Int} {len t : Nat} (hd : decode (am_by M) pc = .ok (.tableswitch d lo hi offs, len)) (hx : -2147483648 ≤ x ∧ x < 2147483648) (h1 : ¬ (x < lo ∨ hi < x)) (ho : offs[(x - lo).toNat]? = some off) (ht : am_j pc off = some t) : gv M pc ls (vI x :: r) h = gv M t ls r h := gv_go (q := (t, ls, r, h)) (by rw [gv_ex hd]; simp only [am_ex, am_rg_of hx]; rw [if_pos trivial, if_neg h1, ho]; simp [am_to, ht])
theorem gq_lookup {d x off : Int} {ps : Array (Int × Int)} {len t : Nat} (hd : decode (am_by M) pc = .ok (.lookupswitch d ps, len)) (hx : -2147483648 ≤ x ∧ x < 2147483648) (hp : (ps.toList.zip (ps.toList.drop 1)).all (fun (a, next) => a.1 < next.1) = true) (ho : Op.lookupswitch.offset ps.toList d x = off) (ht : am_j pc off = some t) : gv M pc ls (vI x :: r) h = gv M t ls r h := gv_go (q := (t, ls, r, h)) (by rw [gv_ex hd]; simp only [am_ex]; rw [if_pos ⟨am_rg_of hx, hp⟩, ho]; simp [am_to, ht])
/-! the heap: a cell is looked up, and what follows goes on with what it holds -/
def gfd (c : am_C) (ci k : Nat) (K : am_V → Option am_R) : Option am_R := match c with
  | .inr (.inr (c2, fs)) => (match fs[k]? with
    | some v => if c2 = ci then K v else none
    | none => none)
  | _ => none
def pfd (c : am_C) (ci k : Nat) (v : am_V) (K : am_C → Option am_R) : Option am_R := match c with
  | .inr (.inr (c2, fs)) => if c2 = ci ∧ k < fs.length ∧ am_ft (am_ty ci k) v = true then K (cO ci (fs.set k v)) else none
  | _ => none
theorem gv_no {M pc : Nat} {ls st : List am_V} {h : am_H} (hn : am_nx M pc ls st h = none) : gv M pc ls st h = none := by
  cases hg : gv M pc ls st h with
  | none => rfl
  | some R =>
    obtain ⟨f, hf⟩ := gv_some.mp hg
    cases f with
    | zero => simp [am_run] at hf
    | succ f => rw [am_run, hn] at hf; simp at hf
theorem gq_get {idx ci k a : Nat} (hd : decode (am_by M) pc = .ok (.getfield idx, 3)) (hl : am_fl (am_oc M) idx = some (ci, k)) : gv M pc ls (vR a :: r) h = gfd (h.1 a) ci k (fun v => gv M (pc + 3) ls (v :: r) h) := by
  unfold gfd
  split
  · rename_i c2 fs hc
    split
    · rename_i v hv
      by_cases hk : c2 = ci
      · rw [if_pos hk]; exact gv_go (q := (pc + 3, ls, v :: r, h)) (by rw [gv_ex hd]; simp [am_ex, hl, hc, hv, hk])
      · rw [if_neg hk]; exact gv_no (by rw [gv_ex hd]; simp [am_ex, hl, hc, hv, hk])
    · rename_i hv
      exact gv_no (by rw [gv_ex hd]; simp [am_ex, hl, hc, hv])
  · rename_i hc
    refine gv_no ?_
    rw [gv_ex hd]
    simp only [am_ex, hl]
theorem gq_put {idx ci k a : Nat} {v : am_V} (hd : decode (am_by M) pc = .ok (.putfield idx, 3)) (hl : am_fl (am_oc M) idx = some (ci, k)) (hf : am_pu M ci k = true) : gv M pc ls (v :: vR a :: r) h = pfd (h.1 a) ci k v (fun c => gv M (pc + 3) ls r (hS h a c)) := by
  unfold pfd
  split
  · rename_i c2 fs hc
    split
    · rename_i q
      exact gv_go (q := (pc + 3, ls, r, hS h a (cO ci (fs.set k v)))) (by rw [gv_ex hd]; simp [am_ex, hl, hc, hf, q.1, q.2.1, q.2.2])
    · rename_i q
      refine gv_no ?_
      rw [gv_ex hd]
      simp only [am_ex, hl, hc]
      rw [if_neg]
      rintro ⟨-, q1, q2, q3, -⟩
      exact q ⟨q1, q2, q3⟩
  · rename_i hc
    refine gv_no ?_
    rw [gv_ex hd]
    simp only [am_ex, hl]
def ald (c : am_C) (i : Int) (K : Int → Option am_R) : Option am_R := match c with
  | .inl (t, n, f) => if (t = 0 ∨ t = 9) ∧ 0 ≤ i ∧ i < (n : Int) ∧ i < 2147483648 then K (f i.toNat) else none
  | _ => none
def ast (c : am_C) (i x : Int) (K : am_C → Option am_R) : Option am_R := match c with
  | .inl (t, n, f) => if t = 0 ∧ 0 ≤ i ∧ i < (n : Int) ∧ i < 2147483648 then K (cI 0 n (fun j => if j = i.toNat then x else f j)) else none
  | _ => none
def bld (c : am_C) (i : Int) (K : Int → Option am_R) : Option am_R := match c with
  | .inl (t, n, f) => if t = 1 ∧ 0 ≤ i ∧ i < (n : Int) ∧ i < 2147483648 then K (f i.toNat) else none
  | _ => none
def bst (c : am_C) (i x : Int) (K : am_C → Option am_R) : Option am_R := match c with
  | .inl (t, n, f) => if t = 1 ∧ (x = 0 ∨ x = 1) ∧ 0 ≤ i ∧ i < (n : Int) ∧ i < 2147483648 then K (cI 1 n (fun j => if j = i.toNat then x else f j)) else none
  | _ => none
def qld (c : am_C) (i : Int) (K : am_V → Option am_R) : Option am_R := match c with
  | .inr (.inl (_, n, f)) => if 0 ≤ i ∧ i < (n : Int) ∧ i < 2147483648 then K (.inr (.inr (.inl (f i.toNat)))) else none
  | _ => none
def qst (c : am_C) (i : Int) (v : Nat) (cv : am_C) (K : am_C → Option am_R) : Option am_R := match c, cv with
  | .inr (.inl (t, n, f)), .inr (.inr (c2, _)) => if 0 ≤ i ∧ i < (n : Int) ∧ i < 2147483648 ∧ ((t = 2 ∧ c2 = 5) ∨ (t = 3 ∧ (c2 = 0 ∨ c2 = 1 ∨ c2 = 3 ∨ c2 = 4 ∨ c2 = 9 ∨ c2 = 10))) then K (cQ t n (fun j => if j = i.toNat then some v else f j)) else none
  | _, _ => none
theorem gq_iaload {i : Int} {a : Nat} (hd : decode (am_by M) pc = .ok (.iaload, 1)) : gv M pc ls (vI i :: vR a :: r) h = ald (h.1 a) i (fun x => gv M (pc + 1) ls (vI x :: r) h) := by
  unfold ald
  split
  · rename_i t n f hc
    split
    · rename_i q
      exact gv_go (q := (pc + 1, ls, vI (f i.toNat) :: r, h)) (by rw [gv_ex hd]; simp only [am_ex, hc]; rw [if_pos ⟨trivial, q⟩])
    · rename_i q
      exact gv_no (by rw [gv_ex hd]; simp only [am_ex, hc]; rw [if_neg (fun z => q z.2)])
  · rename_i hc
    refine gv_no ?_
    rw [gv_ex hd]
    simp only [am_ex]
theorem gq_iastore {i x : Int} {a : Nat} (hd : decode (am_by M) pc = .ok (.iastore, 1)) : gv M pc ls (vI x :: vI i :: vR a :: r) h = ast (h.1 a) i x (fun c => gv M (pc + 1) ls r (hS h a c)) := by
  unfold ast
  split
  · rename_i t n f hc
    split
    · rename_i q
      exact gv_go (q := (pc + 1, ls, r, hS h a (cI 0 n (fun j => if j = i.toNat then x else f j)))) (by rw [gv_ex hd]; simp only [am_ex, hc]; rw [if_pos ⟨trivial, q⟩])
    · rename_i q
      exact gv_no (by rw [gv_ex hd]; simp only [am_ex, hc]; rw [if_neg (fun z => q z.2)])
  · rename_i hc
    refine gv_no ?_
    rw [gv_ex hd]
    simp only [am_ex]
theorem gq_baload {i : Int} {a : Nat} (hd : decode (am_by M) pc = .ok (.baload, 1)) : gv M pc ls (vI i :: vR a :: r) h = bld (h.1 a) i (fun x => gv M (pc + 1) ls (vI x :: r) h) := by
  unfold bld
  split
  · rename_i t n f hc
    split
    · rename_i q
      exact gv_go (q := (pc + 1, ls, vI (f i.toNat) :: r, h)) (by rw [gv_ex hd]; simp only [am_ex, hc]; rw [if_pos ⟨trivial, q⟩])
    · rename_i q
      exact gv_no (by rw [gv_ex hd]; simp only [am_ex, hc]; rw [if_neg (fun z => q z.2)])
  · rename_i hc
    refine gv_no ?_
    rw [gv_ex hd]
    simp only [am_ex]
theorem gq_bastore {i x : Int} {a : Nat} (hd : decode (am_by M) pc = .ok (.bastore, 1)) : gv M pc ls (vI x :: vI i :: vR a :: r) h = bst (h.1 a) i x (fun c => gv M (pc + 1) ls r (hS h a c)) := by
  unfold bst
  split
  · rename_i t n f hc
    split
    · rename_i q
      exact gv_go (q := (pc + 1, ls, r, hS h a (cI 1 n (fun j => if j = i.toNat then x else f j)))) (by rw [gv_ex hd]; simp only [am_ex, hc]; rw [if_pos ⟨trivial, q⟩])
    · rename_i q
      exact gv_no (by rw [gv_ex hd]; simp only [am_ex, hc]; rw [if_neg (fun z => q z.2)])
  · rename_i hc
    refine gv_no ?_
    rw [gv_ex hd]
    simp only [am_ex]
theorem gq_aaload {i : Int} {a : Nat} (hd : decode (am_by M) pc = .ok (.aaload, 1)) : gv M pc ls (vI i :: vR a :: r) h = qld (h.1 a) i (fun x => gv M (pc + 1) ls (x :: r) h) := by
  unfold qld
  split
  · rename_i t n f hc
    split
    · rename_i q
      exact gv_go (q := (pc + 1, ls, (.inr (.inr (.inl (f i.toNat)))) :: r, h)) (by rw [gv_ex hd]; simp only [am_ex, hc]; rw [if_pos ⟨trivial, q⟩])
    · rename_i q
      exact gv_no (by rw [gv_ex hd]; simp only [am_ex, hc]; rw [if_neg (fun z => q z.2)])
  · rename_i hc
    refine gv_no ?_
    rw [gv_ex hd]
    simp only [am_ex]
theorem gq_aastore {i : Int} {a v : Nat} (hd : decode (am_by M) pc = .ok (.aastore, 1)) : gv M pc ls (vR v :: vI i :: vR a :: r) h = qst (h.1 a) i v (h.1 v) (fun c => gv M (pc + 1) ls r (hS h a c)) := by
  unfold qst
  split
  · rename_i t n f c2 fs hc hv
    split
    · rename_i q
      exact gv_go (q := (pc + 1, ls, r, hS h a (cQ t n (fun j => if j = i.toNat then some v else f j)))) (by rw [gv_ex hd]; simp only [am_ex, hc, hv]; rw [if_pos ⟨trivial, q⟩])
    · rename_i q
      exact gv_no (by rw [gv_ex hd]; simp only [am_ex, hc, hv]; rw [if_neg (fun z => q z.2)])
  · rename_i hc
    refine gv_no ?_
    rw [gv_ex hd]
    simp only [am_ex]
theorem gq_alen {a n : Nat} {f : Nat → Int} (hd : decode (am_by M) pc = .ok (.arraylength, 1)) (hc : h.1 a = cI 9 n f) : gv M pc ls (vR a :: r) h = gv M (pc + 1) ls (vI (n : Int) :: r) h := gv_go (q := (pc + 1, ls, vI (n : Int) :: r, h)) (by rw [gv_ex hd]; simp [am_ex, hc])
theorem gq_newI {n : Int} (hd : decode (am_by M) pc = .ok (.newarray .int, 2)) (hn : 0 ≤ n ∧ n ≤ 1000) : gv M pc ls (vI n :: r) h = gv M (pc + 2) ls (vR h.2.1 :: r) (hA h (cI 0 n.toNat (fun _ => 0)) n.toNat) := gv_go (q := (pc + 2, ls, vR h.2.1 :: r, hA h (cI 0 n.toNat (fun _ => 0)) n.toNat)) (by rw [gv_ex hd]; simp [am_ex, hn])
theorem gq_newZ {n : Int} (hd : decode (am_by M) pc = .ok (.newarray .boolean, 2)) (hn : 0 ≤ n ∧ n ≤ 1000) : gv M pc ls (vI n :: r) h = gv M (pc + 2) ls (vR h.2.1 :: r) (hA h (cI 1 n.toNat (fun _ => 0)) n.toNat) := gv_go (q := (pc + 2, ls, vR h.2.1 :: r, hA h (cI 1 n.toNat (fun _ => 0)) n.toNat)) (by rw [gv_ex hd]; simp [am_ex, hn])
theorem gq_newS {idx : Nat} {n : Int} (hd : decode (am_by M) pc = .ok (.anewarray idx, 3)) (hc : am_nc (am_oc M) idx = some 5) (hn : 0 ≤ n ∧ n ≤ 1000) : gv M pc ls (vI n :: r) h = gv M (pc + 3) ls (vR h.2.1 :: r) (hA h (cQ 2 n.toNat (fun _ => none)) n.toNat) := gv_go (q := (pc + 3, ls, vR h.2.1 :: r, hA h (cQ 2 n.toNat (fun _ => none)) n.toNat)) (by rw [gv_ex hd]; simp [am_ex, hn, hc])
theorem gq_newM {idx : Nat} {n : Int} (hd : decode (am_by M) pc = .ok (.anewarray idx, 3)) (hc : am_nc (am_oc M) idx = some 3) (hn : 0 ≤ n ∧ n ≤ 1000) : gv M pc ls (vI n :: r) h = gv M (pc + 3) ls (vR h.2.1 :: r) (hA h (cQ 3 n.toNat (fun _ => none)) n.toNat) := gv_go (q := (pc + 3, ls, vR h.2.1 :: r, hA h (cQ 3 n.toNat (fun _ => none)) n.toNat)) (by rw [gv_ex hd]; simp [am_ex, hn, hc])
theorem gq_new {idx ci n : Nat} {fs : List am_V} (hd : decode (am_by M) pc = .ok (.new idx, 3)) (hc : am_nc (am_oc M) idx = some ci) (h1 : ci < 13) (hf : am_dfs ci = fs) (hn : am_nf ci = n) : gv M pc ls st h = gv M (pc + 3) ls (vR h.2.1 :: st) (hA h (cO ci fs) n) := by
  subst hf; subst hn
  exact gv_go (q := (pc + 3, ls, vR h.2.1 :: st, hA h (cO ci (am_dfs ci)) (am_nf ci))) (by rw [gv_ex hd]; simp [am_ex, hc, h1])
theorem gq_ireturn {x : Int} (hd : decode (am_by M) pc = .ok (.ireturn, 1)) (hr : am_rt M = some .int) : gv M pc ls [vI x] h = some (some (vI x), h) := gv_ret (by rw [gv_ex hd]; simp [am_ex, hr])
theorem gq_zreturn {x : Int} (hd : decode (am_by M) pc = .ok (.ireturn, 1)) (hr : am_rt M = some .boolean) (hx : x = 0 ∨ x = 1) : gv M pc ls [vI x] h = some (some (vI x), h) := gv_ret (by rw [gv_ex hd]; simp [am_ex, hr, hx])
theorem gq_lreturn {x : Int} (hd : decode (am_by M) pc = .ok (.lreturn, 1)) (hr : am_rt M = some .long) : gv M pc ls [vL x] h = some (some (vL x), h) := gv_ret (by rw [gv_ex hd]; simp [am_ex, hr])
theorem gq_return (hd : decode (am_by M) pc = .ok (.return_, 1)) (hr : am_rt M = none) : gv M pc ls [] h = some (none, h) := gv_ret (by rw [gv_ex hd]; simp [am_ex, hr])
theorem am_call_of {Y : Nat} {as r : List am_V} (hn : as.length = am_na Y) (hl : am_fit M Y = true) (ha : as.all am_ir = true) (hr : (r.map am_ct).sum ≤ 8) : am_call M Y (as.reverse ++ r) = some (.inr (.inr (Y, as, r))) := by
  have hl2 : as.reverse.length = am_na Y := by rw [List.length_reverse]; exact hn
  unfold am_call
  rw [← hl2, List.take_left, List.drop_left, List.reverse_reverse]
  rw [if_pos]
  refine ⟨by simp, ?_, hr, hl⟩
  rw [List.all_reverse]; exact ha
theorem gq_callS {idx Y : Nat} {as : List am_V} (hd : decode (am_by M) pc = .ok (.invokestatic idx, 3)) (hs : am_st (am_oc M) idx = some (1, Y) ∨ am_st (am_oc M) idx = some (2, Y)) (hn : as.length = am_na Y) (hl : am_fit M Y = true) (ha : as.all am_ir = true) (hr : (r.map am_ct).sum ≤ 8) : gv M pc ls (as.reverse ++ r) h = (ev Y as h).bind (fun R => gv M (pc + 3) ls (R.1.toList ++ r) R.2) := by
  refine gv_call ?_
  rw [gv_ex hd]
  rcases hs with hs | hs <;> simp only [am_ex, hs] <;> rw [if_pos trivial] <;> exact am_call_of hn hl ha hr
theorem am_rcv_of {Y a ci : Nat} {as r fs : List am_V} (hn : (vR a :: as).length = am_na Y) (hc : h.1 a = cO ci fs) : am_rcv Y ((vR a :: as).reverse ++ r) h = some ci := by
  unfold am_rcv
  have e1 : ((vR a :: as).reverse ++ r)[am_na Y - 1]? = some (vR a) := by
    rw [← hn, List.reverse_cons, List.append_assoc]
    simp
  rw [e1]
  simp only [hc]
/-- a call on an object: its class is asked, then the method -/
def rcv (c : am_C) (ci : Nat) (A : Option am_R) : Option am_R := match c with
  | .inr (.inr (c2, _)) => if c2 = ci then A else none
  | _ => none
def rcA (c : am_C) (A : Option am_R) : Option am_R := match c with
  | .inr (.inr _) => A
  | _ => none
theorem am_rcv_no {Y a : Nat} {as r : List am_V} (hn : (vR a :: as).length = am_na Y) (hc : ∀ ci fs, h.1 a ≠ cO ci fs) : am_rcv Y ((vR a :: as).reverse ++ r) h = none := by
  unfold am_rcv
  have e1 : ((vR a :: as).reverse ++ r)[am_na Y - 1]? = some (vR a) := by
    rw [← hn, List.reverse_cons, List.append_assoc]
    simp
  rw [e1]
  simp only
theorem gq_callV {idx Y a ci : Nat} {as : List am_V} (hd : decode (am_by M) pc = .ok (.invokevirtual idx, 3)) (hs : am_st (am_oc M) idx = some (0, Y)) (hci : am_oc Y = ci) (hn : (vR a :: as).length = am_na Y) (hl : am_fit M Y = true) (ha : (vR a :: as).all am_ir = true) (hr : (r.map am_ct).sum ≤ 8) : gv M pc ls ((vR a :: as).reverse ++ r) h = rcv (h.1 a) ci ((ev Y (vR a :: as) h).bind (fun R => gv M (pc + 3) ls (R.1.toList ++ r) R.2)) := by
  subst hci
  unfold rcv
  split
  · rename_i c2 fs hc
    split
    · rename_i q
      refine gv_call ?_
      rw [gv_ex hd]
      simp only [am_ex, hs, am_rcv_of hn hc]
      rw [if_pos ⟨trivial, by rw [q]⟩]
      exact am_call_of hn hl ha hr
    · rename_i q
      refine gv_no ?_
      rw [gv_ex hd]
      simp only [am_ex, hs, am_rcv_of hn hc]
      rw [if_neg (fun z => q (Option.some.inj z.2))]
  · rename_i hc
    refine gv_no ?_
    rw [gv_ex hd]
    simp only [am_ex, hs, am_rcv_no hn (fun ci fs => hc ci fs)]
    rw [if_neg (fun z => by simp at z)]
theorem gq_callI {idx Y a : Nat} {as : List am_V} (hd : decode (am_by M) pc = .ok (.invokespecial idx, 3)) (hs : am_st (am_oc M) idx = some (3, Y) ∨ am_st (am_oc M) idx = some (4, Y) ∨ am_st (am_oc M) idx = some (5, Y)) (hn : (vR a :: as).length = am_na Y) (hl : am_fit M Y = true) (ha : (vR a :: as).all am_ir = true) (hr : (r.map am_ct).sum ≤ 8) : gv M pc ls ((vR a :: as).reverse ++ r) h = rcA (h.1 a) ((ev Y (vR a :: as) h).bind (fun R => gv M (pc + 3) ls (R.1.toList ++ r) R.2)) := by
  unfold rcA
  split
  · rename_i q hc
    refine gv_call ?_
    rw [gv_ex hd]
    rcases hs with hs | hs | hs <;> simp only [am_ex, hs, am_rcv_of (ci := q.1) (fs := q.2) hn hc] <;> rw [if_pos (by simp)] <;> exact am_call_of hn hl ha hr
  · rename_i hc
    refine gv_no ?_
    rw [gv_ex hd]
    rcases hs with hs | hs | hs <;> simp only [am_ex, hs, am_rcv_no hn (fun ci fs => hc (ci, fs))] <;> rw [if_neg (fun z => by simp at z)]
theorem gq_callW {idx Y a ci : Nat} {as fs : List am_V} (hd : decode (am_by M) pc = .ok (.invokevirtual idx, 3)) {x : Nat} (hs : am_st (am_oc M) idx = some (6, x)) (hx : am_na x = am_na Y) (hY : am_wo ci = Y) (hw : am_ws.contains ci = true) (hn : (vR a :: as).length = am_na Y) (hl : am_fit M Y = true) (ha : (vR a :: as).all am_ir = true) (hr : (r.map am_ct).sum ≤ 8) (hc : h.1 a = cO ci fs) : gv M pc ls ((vR a :: as).reverse ++ r) h = (ev Y (vR a :: as) h).bind (fun R => gv M (pc + 3) ls (R.1.toList ++ r) R.2) := by
  subst hY
  refine gv_call ?_
  rw [gv_ex hd]
  simp only [am_ex, hs, am_rcv_of (Y := x) (hn.trans hx.symm) hc]
  rw [if_pos ⟨trivial, hw⟩]
  exact am_call_of hn hl ha hr
theorem gq_objInit {idx y a : Nat} (hd : decode (am_by M) pc = .ok (.invokespecial idx, 3)) (hs : am_st (am_oc M) idx = some (8, y)) (hr : (r.map am_ct).sum ≤ 8) (h1 : 1 ≤ am_fr M) (h2 : 20 ≤ am_lo M) : gv M pc ls (vR a :: r) h = gv M (pc + 3) ls r h := gv_go (q := (pc + 3, ls, r, h)) (by rw [gv_ex hd]; simp [am_ex, hs, hr, h1, h2])
theorem gq_max {idx y0 : Nat} {x y : Int} (hd : decode (am_by M) pc = .ok (.invokestatic idx, 3)) (hs : am_st (am_oc M) idx = some (10, y0)) (hr : (r.map am_ct).sum ≤ 8) (h1 : 1 ≤ am_fr M) (h2 : 40 ≤ am_lo M) (hx : (-2147483648 ≤ x ∧ x < 2147483648) ∧ -2147483648 ≤ y ∧ y < 2147483648) : gv M pc ls (vI y :: vI x :: r) h = gv M (pc + 3) ls (vI (if x < y then y else x) :: r) h := gv_go (q := (pc + 3, ls, vI (if x < y then y else x) :: r, h)) (by rw [gv_ex hd]; simp only [am_ex, hs]; rw [if_pos ⟨trivial, hr, h1, h2, am_rg_of hx.1, am_rg_of hx.2⟩])
theorem gq_min {idx y0 : Nat} {x y : Int} (hd : decode (am_by M) pc = .ok (.invokestatic idx, 3)) (hs : am_st (am_oc M) idx = some (11, y0)) (hr : (r.map am_ct).sum ≤ 8) (h1 : 1 ≤ am_fr M) (h2 : 40 ≤ am_lo M) (hx : (-2147483648 ≤ x ∧ x < 2147483648) ∧ -2147483648 ≤ y ∧ y < 2147483648) : gv M pc ls (vI y :: vI x :: r) h = gv M (pc + 3) ls (vI (if y < x then y else x) :: r) h := gv_go (q := (pc + 3, ls, vI (if y < x then y else x) :: r, h)) (by rw [gv_ex hd]; simp only [am_ex, hs]; rw [if_pos ⟨trivial, hr, h1, h2, am_rg_of hx.1, am_rg_of hx.2⟩])
def acp (c0 c1 : am_C) (n : Int) (K : am_C → Option am_R) : Option am_R := match c0, c1 with
  | .inl (t0, n0, f0), .inl (t1, n1, f1) => if t0 = 0 ∧ t1 = 0 ∧ 0 ≤ n ∧ n ≤ (n0 : Int) ∧ n ≤ (n1 : Int) ∧ n < 2147483648 then K (cI 0 n1 (fun j => if j < n.toNat then f0 j else f1 j)) else none
  | _, _ => none
theorem gq_copy {idx y a a0 : Nat} {n : Int} (hd : decode (am_by M) pc = .ok (.invokestatic idx, 3)) (hs : am_st (am_oc M) idx = some (9, y)) (h1 : 1 ≤ am_fr M) (h2 : 40 ≤ am_lo M) : gv M pc ls [vI n, vI 0, vR a, vI 0, vR a0] h = acp (h.1 a0) (h.1 a) n (fun c => gv M (pc + 3) ls [] (hS h a c)) := by
  unfold acp
  split
  · rename_i t0 n0 f0 t1 n1 f1 hc0 hc1
    split
    · rename_i q
      exact gv_go (q := (pc + 3, ls, [], hS h a (cI 0 n1 (fun j => if j < n.toNat then f0 j else f1 j)))) (by rw [gv_ex hd]; simp only [am_ex, hs, hc0, hc1]; rw [if_pos ⟨trivial, q.1, q.2.1, trivial, trivial, q.2.2.1, q.2.2.2.1, q.2.2.2.2.1, q.2.2.2.2.2, h1, h2⟩])
    · rename_i q
      exact gv_no (by rw [gv_ex hd]; simp only [am_ex, hs, hc0, hc1]; rw [if_neg (fun z => q ⟨z.2.1, z.2.2.1, z.2.2.2.2.2.1, z.2.2.2.2.2.2.1, z.2.2.2.2.2.2.2.1, z.2.2.2.2.2.2.2.2.1⟩)])
  · rename_i hc
    refine gv_no ?_
    rw [gv_ex hd]
    simp only [am_ex, hs]
end GV
/-! how the equations are used: what a cell gives, what is written, what a call brings -/
theorem hS_same {h : am_H} {a : Nat} {c : am_C} : (hS h a c).1 a = c := by simp [hS]
theorem hS_ne {h : am_H} {a x : Nat} {c : am_C} (q : ¬ x = a) : (hS h a c).1 x = h.1 x := by simp [hS, q]
theorem hS_2 {h : am_H} {a : Nat} {c : am_C} : (hS h a c).2 = h.2 := rfl
theorem hS_hS {h : am_H} {a : Nat} {c d : am_C} : hS (hS h a c) a d = hS h a d := by
  unfold hS
  refine Prod.ext ?_ rfl
  funext x
  by_cases q : x = a <;> simp [q]
theorem ald_in {n : Nat} {f : Nat → Int} {i : Int} {K : Int → Option am_R} (q : (0 ≤ i ∧ i < (n : Int)) ∧ i < 2147483648) : ald (cI 0 n f) i K = K (f i.toNat) := by simp [ald, q.1.1, q.1.2, q.2]
theorem ald_scr {n : Nat} {f : Nat → Int} {i : Int} {K : Int → Option am_R} (q : (0 ≤ i ∧ i < (n : Int)) ∧ i < 2147483648) : ald (cI 9 n f) i K = K (f i.toNat) := by simp [ald, q.1.1, q.1.2, q.2]
theorem ast_in {n : Nat} {f : Nat → Int} {i x : Int} {K : am_C → Option am_R} (q : (0 ≤ i ∧ i < (n : Int)) ∧ i < 2147483648) : ast (cI 0 n f) i x K = K (cI 0 n (fun j => if j = i.toNat then x else f j)) := by simp [ast, q.1.1, q.1.2, q.2]
theorem bld_in {n : Nat} {f : Nat → Int} {i : Int} {K : Int → Option am_R} (q : (0 ≤ i ∧ i < (n : Int)) ∧ i < 2147483648) : bld (cI 1 n f) i K = K (f i.toNat) := by simp [bld, q.1.1, q.1.2, q.2]
theorem bst_in {n : Nat} {f : Nat → Int} {i x : Int} {K : am_C → Option am_R} (q : ((0 ≤ i ∧ i < (n : Int)) ∧ i < 2147483648) ∧ (x = 0 ∨ x = 1)) : bst (cI 1 n f) i x K = K (cI 1 n (fun j => if j = i.toNat then x else f j)) := by simp [bst, q.1.1.1, q.1.1.2, q.1.2, q.2]
theorem qld_in {t n : Nat} {f : Nat → Option Nat} {i : Int} {K : am_V → Option am_R} (q : (0 ≤ i ∧ i < (n : Int)) ∧ i < 2147483648) : qld (cQ t n f) i K = K (.inr (.inr (.inl (f i.toNat)))) := by simp [qld, q.1.1, q.1.2, q.2]
theorem qst_5 {n v : Nat} {f : Nat → Option Nat} {i : Int} {fs : List am_V} {K : am_C → Option am_R} (q : (0 ≤ i ∧ i < (n : Int)) ∧ i < 2147483648) : qst (cQ 2 n f) i v (cO 5 fs) K = K (cQ 2 n (fun j => if j = i.toNat then some v else f j)) := by simp [qst, q.1.1, q.1.2, q.2]
theorem qst_3 {n v c2 : Nat} {f : Nat → Option Nat} {i : Int} {fs : List am_V} {K : am_C → Option am_R} (q : ((0 ≤ i ∧ i < (n : Int)) ∧ i < 2147483648) ∧ (c2 = 0 ∨ c2 = 1 ∨ c2 = 3 ∨ c2 = 4 ∨ c2 = 9 ∨ c2 = 10)) : qst (cQ 3 n f) i v (cO c2 fs) K = K (cQ 3 n (fun j => if j = i.toNat then some v else f j)) := by simp [qst, q.1.1.1, q.1.1.2, q.1.2, q.2]
theorem acp_in {n0 n1 : Nat} {f0 f1 : Nat → Int} {n : Int} {K : am_C → Option am_R} (q : (0 ≤ n ∧ n ≤ (n0 : Int)) ∧ n ≤ (n1 : Int) ∧ n < 2147483648) : acp (cI 0 n0 f0) (cI 0 n1 f1) n K = K (cI 0 n1 (fun j => if j < n.toNat then f0 j else f1 j)) := by simp [acp, q.1.1, q.1.2, q.2.1, q.2.2]
theorem rcv_in {ci : Nat} {fs : List am_V} {A : Option am_R} : rcv (cO ci fs) ci A = A := by simp [rcv]
theorem rcA_in {ci : Nat} {fs : List am_V} {A : Option am_R} : rcA (cO ci fs) A = A := rfl
theorem bd_i {M pc : Nat} {ls r : List am_V} {x : Int} {h : am_H} : (some (some (vI x), h) : Option am_R).bind (fun R => gv M pc ls (R.1.toList ++ r) R.2) = gv M pc ls (vI x :: r) h := rfl
theorem bd_l {M pc : Nat} {ls r : List am_V} {x : Int} {h : am_H} : (some (some (vL x), h) : Option am_R).bind (fun R => gv M pc ls (R.1.toList ++ r) R.2) = gv M pc ls (vL x :: r) h := rfl
theorem bd_v {M pc : Nat} {ls r : List am_V} {h : am_H} : (some (none, h) : Option am_R).bind (fun R => gv M pc ls (R.1.toList ++ r) R.2) = gv M pc ls r h := rfl
end
section
/-! What the tables say of lw_tbl's words -/
def am_GW : List Cond := lw_tbl.filter goodWord
theorem am_inG {i : Nat} {w : Cond} (h : lw_tbl[i]? = some w) (hg : goodWord w = true) : w ∈ am_GW := List.mem_filter.mpr ⟨List.mem_of_getElem? h, hg⟩
set_option maxRecDepth 100000 in
theorem am_FL_ok : am_FL.all (fun e => decide (lw_tbl[e.2.2.2.2]? = some (Cond.fieldLink (am_cn e.1) e.2.1 (am_T e.2.2.1 e.2.2.2.1).1 (am_T e.2.2.1 e.2.2.2.1).2.1 (am_T e.2.2.1 e.2.2.2.1).2.2.1)) && decide (e.2.2.2.1 < am_nf e.2.2.1) && decide (e.2.2.1 < 13)) = true := by decide +kernel
theorem am_fl_ok {oc idx ci k : Nat} (h : am_fl oc idx = some (ci, k)) : Cond.fieldLink (am_cn oc) idx (am_T ci k).1 (am_T ci k).2.1 (am_T ci k).2.2.1 ∈ am_GW ∧ k < am_nf ci ∧ ci < 13 := by
  unfold am_fl at h
  cases hf : am_FL.find? (fun e => e.1 == oc && e.2.1 == idx) with
  | none => rw [hf] at h; simp at h
  | some e =>
    rw [hf] at h
    simp only [Option.map_some, Option.some.injEq, Prod.mk.injEq] at h
    have h1 := List.find?_some hf
    have h2 := List.all_eq_true.mp am_FL_ok e (List.mem_of_find?_eq_some hf)
    simp only [Bool.and_eq_true, beq_iff_eq, decide_eq_true_eq] at h1 h2
    obtain ⟨rfl, rfl⟩ := h1
    obtain ⟨rfl, rfl⟩ := h
    exact ⟨am_inG h2.1.1 rfl, h2.1.2, h2.2⟩
set_option maxRecDepth 100000 in
theorem am_CK_ok : am_CK.all (fun e => decide (lw_tbl[e.2.2.2]? = some (Cond.constant (am_cn e.1) e.2.1 (Int32.ofInt e.2.2.1)))) = true := by decide +kernel
theorem am_ck_ok {oc idx : Nat} {v : Int} (h : am_ck oc idx = some v) : Cond.constant (am_cn oc) idx (Int32.ofInt v) ∈ am_GW := by
  unfold am_ck at h
  cases hf : am_CK.find? (fun e => e.1 == oc && e.2.1 == idx) with
  | none => rw [hf] at h; simp at h
  | some e =>
    rw [hf] at h
    simp only [Option.map_some, Option.some.injEq] at h
    have h1 := List.find?_some hf
    have h2 := List.all_eq_true.mp am_CK_ok e (List.mem_of_find?_eq_some hf)
    simp only [Bool.and_eq_true, beq_iff_eq, decide_eq_true_eq] at h1 h2
    obtain ⟨rfl, rfl⟩ := h1
    subst h
    exact am_inG h2 rfl
set_option maxRecDepth 100000 in
theorem am_CL_ok : am_CL.all (fun e => decide (lw_tbl[e.2.2.2]? = some (Cond.constantLong (am_cn e.1) e.2.1 (Int64.ofInt e.2.2.1)))) = true := by decide +kernel
theorem am_cl_ok {oc idx : Nat} {v : Int} (h : am_cl oc idx = some v) : Cond.constantLong (am_cn oc) idx (Int64.ofInt v) ∈ am_GW := by
  unfold am_cl at h
  cases hf : am_CL.find? (fun e => e.1 == oc && e.2.1 == idx) with
  | none => rw [hf] at h; simp at h
  | some e =>
    rw [hf] at h
    simp only [Option.map_some, Option.some.injEq] at h
    have h1 := List.find?_some hf
    have h2 := List.all_eq_true.mp am_CL_ok e (List.mem_of_find?_eq_some hf)
    simp only [Bool.and_eq_true, beq_iff_eq, decide_eq_true_eq] at h1 h2
    obtain ⟨rfl, rfl⟩ := h1
    subst h
    exact am_inG h2 rfl
set_option maxRecDepth 100000 in
theorem am_NC_ok : am_NC.all (fun e => decide (lw_tbl[e.2.2.2]? = some (Cond.classLink (am_cn e.1) e.2.1 (am_cn e.2.2.1))) && decide (e.2.2.1 < 13)) = true := by decide +kernel
theorem am_nc_ok {oc idx ci : Nat} (h : am_nc oc idx = some ci) : Cond.classLink (am_cn oc) idx (am_cn ci) ∈ am_GW ∧ ci < 13 := by
  unfold am_nc at h
  cases hf : am_NC.find? (fun e => e.1 == oc && e.2.1 == idx) with
  | none => rw [hf] at h; simp at h
  | some e =>
    rw [hf] at h
    simp only [Option.map_some, Option.some.injEq] at h
    have h1 := List.find?_some hf
    have h2 := List.all_eq_true.mp am_NC_ok e (List.mem_of_find?_eq_some hf)
    simp only [Bool.and_eq_true, beq_iff_eq, decide_eq_true_eq] at h1 h2
    obtain ⟨rfl, rfl⟩ := h1
    subst h
    exact ⟨am_inG h2.1 rfl, h2.2⟩
/-! classes -/
theorem am_cl13 : ∀ ci, ci < 13 → vwCl[ci]? = some (am_cn ci, am_T ci, am_nf ci)
  | 0, _ | 1, _ | 2, _ | 3, _ | 4, _ | 5, _ | 6, _ | 7, _ | 8, _ | 9, _ | 10, _ | 11, _ | 12, _ => rfl
  | n + 13, h => by omega
theorem am_nm13 : ∀ ci, ci < 13 → ∀ a, a < am_nf ci → ∀ b, b < am_nf ci → a ≠ b → (am_T ci a).2.1 ≠ (am_T ci b).2.1
  | 0, _ => nmX0 | 1, _ => nmX1 | 2, _ => nmX2 | 3, _ => nmX3 | 4, _ => nmX4 | 5, _ => nmX5 | 6, _ => nmX6 | 7, _ => nmX7 | 8, _ => nmX8 | 9, _ => nmX9 | 10, _ => nmX10 | 11, _ => nmX11 | 12, _ => nmX12
  | n + 13, h => by omega
theorem am_ty13 : ∀ ci, ci < 13 → ∀ k, k < am_nf ci → parseFieldDescriptor (am_T ci k).2.2.1 = some (am_ty ci k)
  | 0, _ => tyX0_ok | 1, _ => tyX1_ok | 2, _ => tyX2_ok | 3, _ => tyX3_ok | 4, _ => tyX4_ok | 5, _ => tyX5_ok | 6, _ => tyX6_ok | 7, _ => tyX7_ok | 8, _ => tyX8_ok | 9, _ => tyX9_ok | 10, _ => tyX10_ok | 11, _ => tyX11_ok | 12, _ => tyX12_ok
  | n + 13, h => by omega
set_option maxRecDepth 100000 in
theorem am_uw_ok : (List.range 13).all (fun ci => (u_ws (am_cn ci) (am_T ci) (am_nf ci)).all (fun w => decide (w ∈ lw_tbl) && goodWord w)) = true := by decide +kernel
theorem am_uw {ci : Nat} (h : ci < 13) : ∀ w ∈ u_ws (am_cn ci) (am_T ci) (am_nf ci), w ∈ am_GW := by
  intro w hw
  have h1 := List.all_eq_true.mp (List.all_eq_true.mp am_uw_ok ci (List.mem_range.mpr h)) w hw
  simp only [Bool.and_eq_true, decide_eq_true_eq] at h1
  exact List.mem_filter.mpr h1
set_option maxRecDepth 100000 in
theorem am_cp_ok : (List.range 13).all (fun ci => decide (Cond.instantiable (am_cn ci) (am_nf ci) ∈ lw_tbl) && decide (Cond.initialized (am_cn ci) ∈ lw_tbl) && goodWord (Cond.instantiable (am_cn ci) (am_nf ci)) && goodWord (Cond.initialized (am_cn ci))) = true := by decide +kernel
theorem am_ins {ci : Nat} (h : ci < 13) : Cond.instantiable (am_cn ci) (am_nf ci) ∈ am_GW ∧ Cond.initialized (am_cn ci) ∈ am_GW := by
  have h1 := List.all_eq_true.mp am_cp_ok ci (List.mem_range.mpr h)
  simp only [Bool.and_eq_true, decide_eq_true_eq] at h1
  exact ⟨List.mem_filter.mpr ⟨h1.1.1.1, h1.1.2⟩, List.mem_filter.mpr ⟨h1.1.1.2, h1.2⟩⟩
end
section
/-! methods -/
def am_np (M : Nat) : Nat := ((parseMethodDescriptor (am_y M).desc).map (fun d => d.parameters.length)).getD 99
def am_okM (M : Nat) : Bool := decide (lw_tbl[(am_MP.getD M (0, 0)).1]? = some (Cond.code (am_y M) (am_by M) (am_ml M) (am_rt M))) && decide (lw_tbl[(am_MP.getD M (0, 0)).2]? = some (Cond.initialized (am_y M).cls)) && plainName (am_y M).cls && decide ((am_y M).cls ≠ "java/lang/invoke/MethodHandle") && decide ((am_y M).cls ≠ "java/lang/invoke/VarHandle") && decide ((parseMethodDescriptor (am_y M).desc).map (fun d => d.parameters.length) = some (am_np M)) && decide ((am_y M).cls = am_cn (am_oc M))
set_option maxRecDepth 100000 in
theorem am_okM0 : (List.range' 0 8).all am_okM = true := by decide +kernel
set_option maxRecDepth 100000 in
theorem am_okM8 : (List.range' 8 8).all am_okM = true := by decide +kernel
set_option maxRecDepth 100000 in
theorem am_okM16 : (List.range' 16 8).all am_okM = true := by decide +kernel
set_option maxRecDepth 100000 in
theorem am_okM24 : (List.range' 24 8).all am_okM = true := by decide +kernel
set_option maxRecDepth 100000 in
theorem am_okM32 : (List.range' 32 8).all am_okM = true := by decide +kernel
set_option maxRecDepth 100000 in
theorem am_okM40 : (List.range' 40 8).all am_okM = true := by decide +kernel
set_option maxRecDepth 100000 in
theorem am_okM48 : (List.range' 48 8).all am_okM = true := by decide +kernel
set_option maxRecDepth 100000 in
theorem am_okM56 : (List.range' 56 8).all am_okM = true := by decide +kernel
set_option maxRecDepth 100000 in
theorem am_okM64 : (List.range' 64 8).all am_okM = true := by decide +kernel
set_option maxRecDepth 100000 in
theorem am_okM72 : (List.range' 72 8).all am_okM = true := by decide +kernel
set_option maxRecDepth 100000 in
theorem am_okM80 : (List.range' 80 8).all am_okM = true := by decide +kernel
set_option maxRecDepth 100000 in
theorem am_okM88 : (List.range' 88 8).all am_okM = true := by decide +kernel
set_option maxRecDepth 100000 in
theorem am_okM96 : (List.range' 96 8).all am_okM = true := by decide +kernel
set_option maxRecDepth 100000 in
theorem am_okM104 : (List.range' 104 8).all am_okM = true := by decide +kernel
set_option maxRecDepth 100000 in
theorem am_okM112 : (List.range' 112 8).all am_okM = true := by decide +kernel
set_option maxRecDepth 100000 in
theorem am_okM120 : (List.range' 120 8).all am_okM = true := by decide +kernel
set_option maxRecDepth 100000 in
theorem am_okM128 : (List.range' 128 8).all am_okM = true := by decide +kernel
set_option maxRecDepth 100000 in
theorem am_okM136 : (List.range' 136 8).all am_okM = true := by decide +kernel
set_option maxRecDepth 100000 in
theorem am_okM144 : (List.range' 144 8).all am_okM = true := by decide +kernel
set_option maxRecDepth 100000 in
theorem am_okM152 : (List.range' 152 2).all am_okM = true := by decide +kernel
theorem am_okMs {M : Nat} (h : M < 154) : Cond.code (am_y M) (am_by M) (am_ml M) (am_rt M) ∈ am_GW ∧ Cond.initialized (am_y M).cls ∈ am_GW ∧ plainName (am_y M).cls = true ∧ ((am_y M).cls ≠ "java/lang/invoke/MethodHandle" ∧ (am_y M).cls ≠ "java/lang/invoke/VarHandle") ∧ (parseMethodDescriptor (am_y M).desc).map (fun d => d.parameters.length) = some (am_np M) ∧ (am_y M).cls = am_cn (am_oc M) := by
  have h1 : am_okM M = true := by
    by_cases q0 : M < 8
    · exact List.all_eq_true.mp am_okM0 M (List.mem_range'_1.mpr (by omega))
    by_cases q8 : M < 16
    · exact List.all_eq_true.mp am_okM8 M (List.mem_range'_1.mpr (by omega))
    by_cases q16 : M < 24
    · exact List.all_eq_true.mp am_okM16 M (List.mem_range'_1.mpr (by omega))
    by_cases q24 : M < 32
    · exact List.all_eq_true.mp am_okM24 M (List.mem_range'_1.mpr (by omega))
    by_cases q32 : M < 40
    · exact List.all_eq_true.mp am_okM32 M (List.mem_range'_1.mpr (by omega))
    by_cases q40 : M < 48
    · exact List.all_eq_true.mp am_okM40 M (List.mem_range'_1.mpr (by omega))
    by_cases q48 : M < 56
    · exact List.all_eq_true.mp am_okM48 M (List.mem_range'_1.mpr (by omega))
    by_cases q56 : M < 64
    · exact List.all_eq_true.mp am_okM56 M (List.mem_range'_1.mpr (by omega))
    by_cases q64 : M < 72
    · exact List.all_eq_true.mp am_okM64 M (List.mem_range'_1.mpr (by omega))
    by_cases q72 : M < 80
    · exact List.all_eq_true.mp am_okM72 M (List.mem_range'_1.mpr (by omega))
    by_cases q80 : M < 88
    · exact List.all_eq_true.mp am_okM80 M (List.mem_range'_1.mpr (by omega))
    by_cases q88 : M < 96
    · exact List.all_eq_true.mp am_okM88 M (List.mem_range'_1.mpr (by omega))
    by_cases q96 : M < 104
    · exact List.all_eq_true.mp am_okM96 M (List.mem_range'_1.mpr (by omega))
    by_cases q104 : M < 112
    · exact List.all_eq_true.mp am_okM104 M (List.mem_range'_1.mpr (by omega))
    by_cases q112 : M < 120
    · exact List.all_eq_true.mp am_okM112 M (List.mem_range'_1.mpr (by omega))
    by_cases q120 : M < 128
    · exact List.all_eq_true.mp am_okM120 M (List.mem_range'_1.mpr (by omega))
    by_cases q128 : M < 136
    · exact List.all_eq_true.mp am_okM128 M (List.mem_range'_1.mpr (by omega))
    by_cases q136 : M < 144
    · exact List.all_eq_true.mp am_okM136 M (List.mem_range'_1.mpr (by omega))
    by_cases q144 : M < 152
    · exact List.all_eq_true.mp am_okM144 M (List.mem_range'_1.mpr (by omega))
    by_cases q152 : M < 154
    · exact List.all_eq_true.mp am_okM152 M (List.mem_range'_1.mpr (by omega))
    omega
  simp only [am_okM, Bool.and_eq_true, decide_eq_true_eq] at h1
  obtain ⟨⟨⟨⟨⟨⟨a1, a2⟩, a3⟩, a4⟩, a5⟩, a6⟩, a7⟩ := h1
  exact ⟨am_inG a1 rfl, am_inG a2 rfl, a3, ⟨a4, a5⟩, a6, a7⟩
end
section
/-! call sites -/
def am_p (pl : List Nat) (i : Nat) : Option Cond := lw_tbl[pl.getD i 0]?
def am_ok0 (oc idx t : Nat) (pl : List Nat) : Bool := decide (am_p pl 0 = some (.methodLink (am_cn oc) idx (am_y t))) && decide (am_p pl 1 = some (.instanceMethod (am_y t))) && decide (am_p pl 2 = some (.selects (am_y t).cls (am_y t) (am_y t))) && decide (am_np t + 1 = am_na t)
def am_ok1 (oc idx t : Nat) (pl : List Nat) : Bool := decide (am_p pl 0 = some (.methodLink (am_cn oc) idx (am_y t))) && decide (am_p pl 1 = some (.static (am_y t))) && decide (am_np t = am_na t)
def am_ok2 (oc idx t : Nat) (pl : List Nat) : Bool := decide (am_p pl 0 = some (.methodLinkNest (am_cn oc) idx (am_y t) "CellNeighbours")) && decide (pl.getD 0 0 ∈ am_NW) && decide (am_p pl 1 = some (.static (am_y t))) && decide (am_np t = am_na t)
def am_ok3 (oc idx t : Nat) (pl : List Nat) : Bool := decide (am_p pl 0 = some (.methodLink (am_cn oc) idx (am_y t))) && decide (am_p pl 1 = some (.instanceMethod (am_y t))) && decide ((am_y t).name = "<init>") && decide (am_np t + 1 = am_na t) && decide (am_rt t = none)
def am_ok4 (oc idx t : Nat) (pl : List Nat) : Bool := decide (am_p pl 0 = some (.methodLinkNest (am_cn oc) idx (am_y t) "CellNeighbours")) && decide (pl.getD 0 0 ∈ am_NW) && decide (am_p pl 1 = some (.instanceMethod (am_y t))) && decide ((am_y t).name = "<init>") && decide (am_np t + 1 = am_na t) && decide (am_rt t = none)
def am_ok5 (oc idx t : Nat) (pl : List Nat) : Bool := decide (am_p pl 0 = some (.methodLink (am_cn oc) idx (am_y t))) && decide (am_p pl 1 = some (.sameMethod (am_y t).cls (am_y t).cls (am_y t).name (am_y t).desc)) && decide (am_p pl 2 = some (.superclass (am_cn oc) (am_y t).cls)) && decide (am_p pl 3 = some (.instanceMethod (am_y t))) && decide ((am_y t).name ≠ "<init>") && decide (am_np t + 1 = am_na t)
def am_ok6 (oc idx t : Nat) (pl : List Nat) : Bool := decide (am_p pl 0 = some (.methodLink (am_cn oc) idx (am_y t))) && decide (am_p pl 1 = some (.sameMethod (am_y t).cls (am_y t).cls (am_y t).name (am_y t).desc)) && decide (am_p pl 2 = some (.instanceMethod (am_y t))) && decide (am_np t + 1 = am_na t) && decide (t < 154) &&
  ([(0, 3), (1, 5), (3, 7), (4, 9), (9, 11), (10, 13)] : List (Nat × Nat)).all (fun q => decide (am_p pl q.2 = some (.selects (am_cn q.1) (am_y t) (am_y (am_wo q.1)))) && decide (am_p pl (q.2 + 1) = some (.instanceMethod (am_y (am_wo q.1)))) && decide (am_na (am_wo q.1) = am_na t))
def am_ok8 (oc idx : Nat) (pl : List Nat) : Bool := decide (am_p pl 0 = some (.methodLink (am_cn oc) idx Lib.objectInit)) && decide (am_p pl 1 = some (.instanceMethod Lib.objectInit)) && decide (am_p pl 2 = some (.code Lib.objectInit ⟨#[0xb1]⟩ 1 none))
def am_ok9 (oc idx : Nat) (pl : List Nat) : Bool := decide (am_p pl 0 = some (.methodLink (am_cn oc) idx arraycopyName)) && decide (am_p pl 1 = some (.native arraycopyName)) && decide (am_p pl 2 = some (.static arraycopyName)) && decide (am_p pl 3 = some (.initialized "java/lang/System"))
def am_ok10 (oc idx : Nat) (pl : List Nat) : Bool := decide (am_p pl 0 = some (.methodLink (am_cn oc) idx Lib.Math.max.name)) && decide (am_p pl 1 = some (.static Lib.Math.max.name)) && decide (am_p pl 2 = some (.initialized "java/lang/Math")) && decide (am_p pl 3 = some (.code Lib.Math.max.name Lib.Math.max.code 2 (some .int)))
def am_ok11 (oc idx : Nat) (pl : List Nat) : Bool := decide (am_p pl 0 = some (.methodLink (am_cn oc) idx Lib.Math.min.name)) && decide (am_p pl 1 = some (.static Lib.Math.min.name)) && decide (am_p pl 2 = some (.initialized "java/lang/Math")) && decide (am_p pl 3 = some (.code Lib.Math.min.name Lib.Math.min.code 2 (some .int)))
def am_okS (e : Nat × Nat × Nat × Nat × List Nat) : Bool := match e.2.2.1 with
  | 0 => am_ok0 e.1 e.2.1 e.2.2.2.1 e.2.2.2.2
  | 1 => am_ok1 e.1 e.2.1 e.2.2.2.1 e.2.2.2.2
  | 2 => am_ok2 e.1 e.2.1 e.2.2.2.1 e.2.2.2.2
  | 3 => am_ok3 e.1 e.2.1 e.2.2.2.1 e.2.2.2.2
  | 4 => am_ok4 e.1 e.2.1 e.2.2.2.1 e.2.2.2.2
  | 5 => am_ok5 e.1 e.2.1 e.2.2.2.1 e.2.2.2.2
  | 6 => am_ok6 e.1 e.2.1 e.2.2.2.1 e.2.2.2.2
  | 8 => am_ok8 e.1 e.2.1 e.2.2.2.2
  | 9 => am_ok9 e.1 e.2.1 e.2.2.2.2
  | 10 => am_ok10 e.1 e.2.1 e.2.2.2.2
  | 11 => am_ok11 e.1 e.2.1 e.2.2.2.2
  | _ => false
set_option maxRecDepth 100000 in
theorem am_ST_ok0 : (am_ST.take 100).all am_okS = true := by decide +kernel
set_option maxRecDepth 100000 in
theorem am_ST_ok1 : (am_ST.drop 100).all am_okS = true := by decide +kernel
theorem am_st_ok {oc idx kd t : Nat} (h : am_st oc idx = some (kd, t)) : ∃ pl, am_okS (oc, idx, kd, t, pl) = true := by
  unfold am_st at h
  cases hf : am_ST.find? (fun e => e.1 == oc && e.2.1 == idx) with
  | none => rw [hf] at h; simp at h
  | some e =>
    rw [hf] at h
    simp only [Option.map_some, Option.some.injEq, Prod.mk.injEq] at h
    have h1 := List.find?_some hf
    have h3 : am_ST.all am_okS = true := by
      rw [← List.take_append_drop 100 am_ST, List.all_append, am_ST_ok0, am_ST_ok1]; rfl
    have h2 := List.all_eq_true.mp h3 e (List.mem_of_find?_eq_some hf)
    obtain ⟨a1, a2, a3, a4, a5⟩ := e
    simp only [Bool.and_eq_true, beq_iff_eq] at h1
    obtain ⟨rfl, rfl⟩ := h1
    obtain ⟨rfl, rfl⟩ := h
    exact ⟨a5, h2⟩
theorem am_pG {pl : List Nat} {i : Nat} {w : Cond} (h : am_p pl i = some w) (hg : goodWord w = true) : w ∈ am_GW := am_inG h hg
end
section
/-! The small machine's steps are the machine's own: what a state of it stands for -/
def am_ad (bs b a : Nat) : Nat := if a = 0 then b else bs + a
def am_cv (bs b : Nat) (v : am_V) : Value := match v with
  | .inl i => .int (Int32.ofInt i)
  | .inr (.inl i) => .long (Int64.ofInt i)
  | .inr (.inr (.inl (some a))) => .ref (am_ad bs b a)
  | .inr (.inr (.inl none)) => .null
  | .inr (.inr (.inr _)) => .null
def am_rv (bs b : Nat) (r : Option Nat) : Value := match r with
  | some a => .ref (am_ad bs b a)
  | none => .null
def am_CR (bs b : Nat) (cA : Nat → ClassId) (D : va_G) (c : am_C) (x : Option Cell) : Prop := match c with
  | .inl (t, n, f) => t < 2 ∧ x = some (arrV (cA t) n (fun j => .int (Int32.ofInt (f j))))
  | .inr (.inl (t, n, f)) => (t = 2 ∨ t = 3) ∧ x = some (arrV (cA t) n (fun j => am_rv bs b (f j)))
  | .inr (.inr (k, fs)) => k < 13 ∧ fs.length = am_nf k ∧ ∃ cell : Cell, x = some cell ∧ cell.cls = D.1 k ∧ cell.vm = .none ∧ ∀ (j : Nat) (v : am_V), fs[j]? = some v → cell.slots[D.2 k j]? = some (am_cv bs b v)
def am_HW (bs b : Nat) (cA : Nat → ClassId) (D : va_G) (scr : Cell) (h : am_H) (H : Heap) : Prop :=
  1 ≤ h.2.1 ∧ H.size = bs + h.2.1 ∧ b ≤ bs ∧ H[b]? = some scr ∧ (∃ f : Nat → Int, h.1 0 = cI 9 scr.slots.size f ∧ ∀ j, j < scr.slots.size → scr.slots[j]? = some (.int (Int32.ofInt (f j)))) ∧ (∀ a, 1 ≤ a → a < h.2.1 → am_CR bs b cA D (h.1 a) H[bs + a]?) ∧ ∀ a, h.2.1 ≤ a → ∃ n f, h.1 a = cI 8 n f
def am_KW (cA : Nat → ClassId) (D : va_G) (scr : Cell) (U : State) : Prop := va_K D vwCl [(cA 0, .int), (cA 1, .boolean), (cA 2, .object RX5), (cA 3, .object RX3)] U ∧ (∀ i ∈ am_NW, ∀ w, lw_tbl[i]? = some w → va_Nw w U) ∧ va_AO RX5 U ∧ va_AO RX3 U ∧ U.isArrayOf scr .int ∧ scr.vm ≠ .unknown
def am_LR (bs b : Nat) (la : List am_V) (ls : Array Slot) (nL : Nat) : Prop := la.length = nL ∧ ls.size = nL ∧ lv_wf ls ∧ ∀ (k : Nat) (v : am_V), la[k]? = some v → am_ir v = true → ls[k]? = some (.val (am_cv bs b v))
def am_CX (p : Program) (R : Room) (s : State) (m : MethodId) (args : Array Value) (meth : Method) (c : Code) (cA : Nat → ClassId) (D : va_G) (scr : Cell) (M : Nat) : Prop :=
  p.tables.exec = Jvm.exec ∧ c.code = am_by M ∧ c.maxLocals = am_ml M ∧ s.vm.findClass (am_cn (am_oc M)) = some m.cls ∧ (∀ w ∈ am_GW, w.before args s = true) ∧ am_KW cA D scr s ∧ am_fr M ≤ R.frames ∧ am_lo M ≤ R.locals ∧ ((am_y M).name = "<init>" → meth.name = "<init>")
def am_I (bs b : Nat) (cA : Nat → ClassId) (D : va_G) (scr : Cell) (M n0 z0 : Nat) (h : am_H) (H : Heap) (locs : List Loc) (la : List am_V) (ls : Array Slot) : Prop :=
  am_LR bs b la ls (am_ml M) ∧ am_HW bs b cA D scr h H ∧ (∀ q ∈ locs, bs < q.base) ∧ n0 ≤ h.2.1 ∧ z0 ≤ h.2.2
def am_SD (ins : Instr) : Prop := ∀ (p : Program) (l : Launch) (e : Env) (R : Room) (s : State) (m : MethodId) (args : Array Value) (below : List Frame) (meth : Method) (c : Code) (Q : State → Prop) (bs b : Nat) (cA : Nat → ClassId) (D : va_G) (scr : Cell) (M n0 z0 pc len : Nat) (la st : List am_V) (h : am_H) (q : Nat × List am_V × List am_V × am_H) (ls : Array Slot) (H : Heap) (locs : List Loc),
  am_CX p R s m args meth c cA D scr M → decode (am_by M) pc = .ok (ins, len) → am_ex M pc ins len la st h = some (.inl q) → am_I bs b cA D scr M n0 z0 h H locs la ls → q.2.2.2.2.1 - n0 ≤ R.cells ∧ q.2.2.2.2.2 - z0 ≤ R.slots →
  (∀ (ls' : Array Slot) (H' : Heap) (locs' : List Loc), am_I bs b cA D scr M n0 z0 q.2.2.2 H' locs' q.2.1 ls' → W p l e R s m args below meth c H' locs' (q.2.2.2.2.1 - n0) (q.2.2.2.2.2 - z0) Q (F0 m q.1 ls' (q.2.2.1.map (am_cv bs b)))) →
  W p l e R s m args below meth c H locs (h.2.1 - n0) (h.2.2 - z0) Q (F0 m pc ls (st.map (am_cv bs b)))
theorem am_eq32 {x y : Int} (hx : am_rg x = true) (hy : am_rg y = true) : Int32.ofInt x = Int32.ofInt y ↔ x = y := by
  simp only [am_rg, Bool.and_eq_true, decide_eq_true_eq] at hx hy
  constructor
  · intro q
    have := congrArg Int32.toInt q
    rwa [am_o32 hx, am_o32 hy] at this
  · intro q; rw [q]
theorem am_lt32 {x y : Int} (hx : am_rg x = true) (hy : am_rg y = true) : Int32.ofInt x < Int32.ofInt y ↔ x < y := by
  simp only [am_rg, Bool.and_eq_true, decide_eq_true_eq] at hx hy
  rw [Int32.lt_iff_toInt_lt, am_o32 hx, am_o32 hy]
theorem am_le32 {x y : Int} (hx : am_rg x = true) (hy : am_rg y = true) : Int32.ofInt x ≤ Int32.ofInt y ↔ x ≤ y := by
  simp only [am_rg, Bool.and_eq_true, decide_eq_true_eq] at hx hy
  rw [Int32.le_iff_toInt_le, am_o32 hx, am_o32 hy]
theorem am_to_spec {pc : Nat} {off : Int} {ls st : List am_V} {h : am_H} {q : Nat × List am_V × List am_V × am_H} (hx : am_to pc off ls st h = some (.inl q)) : q = (q.1, ls, st, h) ∧ (pc : Int) + off = (q.1 : Int) := by
  unfold am_to am_j at hx
  split at hx
  · rename_i t ht
    split at ht
    · have h1 := Option.some.inj ht
      have h2 := Sum.inl.inj (Option.some.inj hx)
      subst h2
      refine ⟨rfl, ?_⟩
      show (pc : Int) + off = (t : Int)
      omega
    · cases ht
  · cases hx
theorem am_cv1 (bs b : Nat) {v : am_V} (h : am_ct v = 1) : (am_cv bs b v).category = 1 := by
  rcases v with v | v | v | v
  · rfl
  · simp [am_ct] at h
  · cases v <;> rfl
  · rfl
theorem am_cvct (bs b : Nat) (v : am_V) : (am_cv bs b v).category = am_ct v := by
  rcases v with v | v | v | v
  · rfl
  · rfl
  · cases v <;> rfl
  · rfl
def am_lp (bs b : Nat) (la : List am_V) : List (Nat × Value) := (List.range la.length).filterMap (fun k => match la[k]? with
  | some v => if am_ir v = true then some (k, am_cv bs b v) else none
  | none => none)
theorem am_lp_mem {bs b : Nat} {la : List am_V} {k : Nat} {x : Value} : (k, x) ∈ am_lp bs b la ↔ ∃ v, la[k]? = some v ∧ am_ir v = true ∧ x = am_cv bs b v := by
  unfold am_lp
  rw [List.mem_filterMap]
  constructor
  · rintro ⟨j, -, hj⟩
    split at hj
    · rename_i v hv
      split at hj
      · rename_i hi
        have := Option.some.inj hj
        cases this
        exact ⟨v, hv, hi, rfl⟩
      · cases hj
    · cases hj
  · rintro ⟨v, hv, hi, rfl⟩
    refine ⟨k, List.mem_range.mpr (List.getElem?_eq_some_iff.mp hv).1, ?_⟩
    rw [hv]
    simp [hi]
theorem am_LR.has {bs b : Nat} {la : List am_V} {ls : Array Slot} {nL : Nat} (h : am_LR bs b la ls nL) : lv_has ls nL (am_lp bs b la) := by
  obtain ⟨-, h2, h3, h4⟩ := h
  refine ⟨h2, h3, fun q hq => ?_⟩
  obtain ⟨k, x⟩ := q
  obtain ⟨v, hv, hi, rfl⟩ := am_lp_mem.mp hq
  exact h4 k v hv hi
theorem am_LR.put {bs b : Nat} {la : List am_V} {ls : Array Slot} {nL i : Nat} {w : am_V} (h : am_LR bs b la ls nL) (hi : i < la.length) {ls' : Array Slot} {x : Value} (hx : x = am_cv bs b w) (h' : lv_has ls' nL ((i, x) :: (am_lp bs b la).filter (fun q => !(q.1 == i) && !(q.1 + 1 == i && q.2.category == 2)))) : am_LR bs b (la.set i w) ls' nL := by
  refine ⟨by rw [List.length_set]; exact h.1, h'.1, h'.2.1, fun k v hk hv => ?_⟩
  by_cases hki : i = k
  · subst hki
    rw [List.getElem?_set_self hi] at hk
    cases hk
    rw [← hx]
    exact h'.2.2 (i, x) List.mem_cons_self
  · rw [List.getElem?_set_ne hki] at hk
    refine h'.2.2 (k, am_cv bs b v) (List.mem_cons_of_mem _ (List.mem_filter.mpr ⟨am_lp_mem.mpr ⟨v, hk, hv, rfl⟩, ?_⟩))
    have hc : (am_cv bs b v).category = 1 := by
      rcases v with v | v | v | v
      · rfl
      · simp [am_ir] at hv
      · cases v <;> rfl
      · simp [am_ir] at hv
    simp [hc, Ne.symm hki]
theorem sd_iconst (i : Int) : am_SD (.iconst i) := by
  intro p l e R s m args below meth c Q bs b cA D scr M n0 z0 pc len la st h q ls H locs CX hd hx hI hR kk
  obtain ⟨hex, hb, hml, hown, hts, hK, hfr, hlo, hin⟩ := CX
  simp only [am_ex] at hx
  split at hx
  · rename_i hq
    have hl : len = 1 := hq
    subst hl
    obtain rfl := (Sum.inl.inj (Option.some.inj hx)).symm
    exact lv_iconst hex hb hd rfl (kk ls H locs hI)
  · cases hx
theorem sd_bipush (i : Int) : am_SD (.bipush i) := by
  intro p l e R s m args below meth c Q bs b cA D scr M n0 z0 pc len la st h q ls H locs CX hd hx hI hR kk
  obtain ⟨hex, hb, hml, hown, hts, hK, hfr, hlo, hin⟩ := CX
  simp only [am_ex] at hx
  split at hx
  · rename_i hq
    have hl : len = 2 := hq.1
    subst hl
    obtain rfl := (Sum.inl.inj (Option.some.inj hx)).symm
    exact lv_bipush hex hb hd hq.2 (kk ls H locs hI)
  · cases hx
theorem sd_sipush (i : Int) : am_SD (.sipush i) := by
  intro p l e R s m args below meth c Q bs b cA D scr M n0 z0 pc len la st h q ls H locs CX hd hx hI hR kk
  obtain ⟨hex, hb, hml, hown, hts, hK, hfr, hlo, hin⟩ := CX
  simp only [am_ex] at hx
  split at hx
  · rename_i hq
    have hl : len = 3 := hq.1
    subst hl
    obtain rfl := (Sum.inl.inj (Option.some.inj hx)).symm
    exact lv_sipush hex hb hd hq.2 (kk ls H locs hI)
  · cases hx
theorem sd_lconst (i : Fin 2) : am_SD (.lconst i) := by
  intro p l e R s m args below meth c Q bs b cA D scr M n0 z0 pc len la st h q ls H locs CX hd hx hI hR kk
  obtain ⟨hex, hb, hml, hown, hts, hK, hfr, hlo, hin⟩ := CX
  simp only [am_ex] at hx
  split at hx
  · rename_i hq
    have hl : len = 1 := hq
    subst hl
    obtain rfl := (Sum.inl.inj (Option.some.inj hx)).symm
    exact lv_lconst hex hb hd (by match i with | 0 => rfl | 1 => rfl) (kk ls H locs hI)
  · cases hx
theorem sd_ldc (i : Nat) : am_SD (.ldc i) := by
  intro p l e R s m args below meth c Q bs b cA D scr M n0 z0 pc len la st h q ls H locs CX hd hx hI hR kk
  obtain ⟨hex, hb, hml, hown, hts, hK, hfr, hlo, hin⟩ := CX
  simp only [am_ex] at hx
  split at hx
  · rename_i v hv
    split at hx
    · rename_i hl
      subst hl
      obtain rfl := (Sum.inl.inj (Option.some.inj hx)).symm
      exact lv_ldc hex hb hown (hts _ (am_ck_ok hv)) hd (kk ls H locs hI)
    · cases hx
  · cases hx
theorem sd_ldc_w (i : Nat) : am_SD (.ldc_w i) := by
  intro p l e R s m args below meth c Q bs b cA D scr M n0 z0 pc len la st h q ls H locs CX hd hx hI hR kk
  obtain ⟨hex, hb, hml, hown, hts, hK, hfr, hlo, hin⟩ := CX
  simp only [am_ex] at hx
  split at hx
  · rename_i v hv
    split at hx
    · rename_i hl
      subst hl
      obtain rfl := (Sum.inl.inj (Option.some.inj hx)).symm
      exact lv_ldcw hex hb hown (hts _ (am_ck_ok hv)) hd (kk ls H locs hI)
    · cases hx
  · cases hx
theorem sd_ldc2_w (i : Nat) : am_SD (.ldc2_w i) := by
  intro p l e R s m args below meth c Q bs b cA D scr M n0 z0 pc len la st h q ls H locs CX hd hx hI hR kk
  obtain ⟨hex, hb, hml, hown, hts, hK, hfr, hlo, hin⟩ := CX
  simp only [am_ex] at hx
  split at hx
  · rename_i v hv
    split at hx
    · rename_i hl
      subst hl
      obtain rfl := (Sum.inl.inj (Option.some.inj hx)).symm
      exact lv_ldc2 hex hb hown (hts _ (am_cl_ok hv)) hd (kk ls H locs hI)
    · cases hx
  · cases hx
theorem sd_iload_n (k : Fin 4) : am_SD (.iload_n k) := by
  intro p l e R s m args below meth c Q bs b cA D scr M n0 z0 pc len la st h q ls H locs CX hd hx hI hR kk
  obtain ⟨hex, hb, hml, hown, hts, hK, hfr, hlo, hin⟩ := CX
  simp only [am_ex] at hx
  split at hx
  · rename_i x hv
    split at hx
    · rename_i hl
      subst hl
      obtain rfl := (Sum.inl.inj (Option.some.inj hx)).symm
      exact lv_iload_n hex hb hd rfl (hI.1.2.2.2 _ _ hv rfl) (kk ls H locs hI)
    · cases hx
  · cases hx
theorem sd_iload (k : Nat) : am_SD (.iload k) := by
  intro p l e R s m args below meth c Q bs b cA D scr M n0 z0 pc len la st h q ls H locs CX hd hx hI hR kk
  obtain ⟨hex, hb, hml, hown, hts, hK, hfr, hlo, hin⟩ := CX
  simp only [am_ex] at hx
  split at hx
  · rename_i x hv
    split at hx
    · rename_i hl
      subst hl
      obtain rfl := (Sum.inl.inj (Option.some.inj hx)).symm
      exact lv_iload hex hb hd (hI.1.2.2.2 _ _ hv rfl) (kk ls H locs hI)
    · cases hx
  · cases hx
theorem sd_aload_n (k : Fin 4) : am_SD (.aload_n k) := by
  intro p l e R s m args below meth c Q bs b cA D scr M n0 z0 pc len la st h q ls H locs CX hd hx hI hR kk
  obtain ⟨hex, hb, hml, hown, hts, hK, hfr, hlo, hin⟩ := CX
  simp only [am_ex] at hx
  split at hx
  · rename_i x hv
    split at hx
    · rename_i hl
      subst hl
      obtain rfl := (Sum.inl.inj (Option.some.inj hx)).symm
      exact lv_aload_n hex hb hd rfl (hI.1.2.2.2 _ _ hv rfl) (kk ls H locs hI)
    · cases hx
  · cases hx
theorem sd_aload (k : Nat) : am_SD (.aload k) := by
  intro p l e R s m args below meth c Q bs b cA D scr M n0 z0 pc len la st h q ls H locs CX hd hx hI hR kk
  obtain ⟨hex, hb, hml, hown, hts, hK, hfr, hlo, hin⟩ := CX
  simp only [am_ex] at hx
  split at hx
  · rename_i x hv
    split at hx
    · rename_i hl
      subst hl
      obtain rfl := (Sum.inl.inj (Option.some.inj hx)).symm
      exact lv_aload hex hb hd (hI.1.2.2.2 _ _ hv rfl) (kk ls H locs hI)
    · cases hx
  · cases hx
theorem sd_istore_n (k : Fin 4) : am_SD (.istore_n k) := by
  intro p l e R s m args below meth c Q bs b cA D scr M n0 z0 pc len la st h q ls H locs CX hd hx hI hR kk
  obtain ⟨hex, hb, hml, hown, hts, hK, hfr, hlo, hin⟩ := CX
  simp only [am_ex] at hx
  split at hx
  · rename_i x r
    split at hx
    · rename_i hq
      obtain ⟨hl, hk⟩ := hq
      subst hl
      obtain rfl := (Sum.inl.inj (Option.some.inj hx)).symm
      refine lv_istore_n hex hb hd rfl hI.1.has (by rw [← hI.1.1]; exact hk) rfl (fun ls' h' => ?_)
      exact kk ls' H locs ⟨hI.1.put (w := vI x) hk rfl h', hI.2⟩
    · cases hx
  · cases hx
theorem sd_istore (k : Nat) : am_SD (.istore k) := by
  intro p l e R s m args below meth c Q bs b cA D scr M n0 z0 pc len la st h q ls H locs CX hd hx hI hR kk
  obtain ⟨hex, hb, hml, hown, hts, hK, hfr, hlo, hin⟩ := CX
  simp only [am_ex] at hx
  split at hx
  · rename_i x r
    split at hx
    · rename_i hq
      obtain ⟨hl, hk⟩ := hq
      subst hl
      obtain rfl := (Sum.inl.inj (Option.some.inj hx)).symm
      refine lv_istore hex hb hd hI.1.has (by rw [← hI.1.1]; exact hk) rfl (fun ls' h' => ?_)
      exact kk ls' H locs ⟨hI.1.put (w := vI x) hk rfl h', hI.2⟩
    · cases hx
  · cases hx
theorem sd_astore_n (k : Fin 4) : am_SD (.astore_n k) := by
  intro p l e R s m args below meth c Q bs b cA D scr M n0 z0 pc len la st h q ls H locs CX hd hx hI hR kk
  obtain ⟨hex, hb, hml, hown, hts, hK, hfr, hlo, hin⟩ := CX
  simp only [am_ex] at hx
  split at hx
  · rename_i x r
    split at hx
    · rename_i hq
      obtain ⟨hl, hk⟩ := hq
      subst hl
      obtain rfl := (Sum.inl.inj (Option.some.inj hx)).symm
      refine lv_astore_n hex hb hd rfl hI.1.has (by rw [← hI.1.1]; exact hk) rfl (fun ls' h' => ?_)
      exact kk ls' H locs ⟨hI.1.put (w := vR x) hk rfl h', hI.2⟩
    · cases hx
  · cases hx
theorem sd_astore (k : Nat) : am_SD (.astore k) := by
  intro p l e R s m args below meth c Q bs b cA D scr M n0 z0 pc len la st h q ls H locs CX hd hx hI hR kk
  obtain ⟨hex, hb, hml, hown, hts, hK, hfr, hlo, hin⟩ := CX
  simp only [am_ex] at hx
  split at hx
  · rename_i x r
    split at hx
    · rename_i hq
      obtain ⟨hl, hk⟩ := hq
      subst hl
      obtain rfl := (Sum.inl.inj (Option.some.inj hx)).symm
      refine lv_astore hex hb hd hI.1.has (by rw [← hI.1.1]; exact hk) rfl (fun ls' h' => ?_)
      exact kk ls' H locs ⟨hI.1.put (w := vR x) hk rfl h', hI.2⟩
    · cases hx
  · cases hx
theorem sd_iinc (k : Nat) (n : Int) : am_SD (.iinc k n) := by
  intro p l e R s m args below meth c Q bs b cA D scr M n0 z0 pc len la st h q ls H locs CX hd hx hI hR kk
  obtain ⟨hex, hb, hml, hown, hts, hK, hfr, hlo, hin⟩ := CX
  simp only [am_ex] at hx
  split at hx
  · rename_i x hv
    split at hx
    · rename_i hl
      subst hl
      obtain rfl := (Sum.inl.inj (Option.some.inj hx)).symm
      have hk : k < la.length := (List.getElem?_eq_some_iff.mp hv).1
      obtain ⟨j, hj⟩ := List.getElem?_of_mem (am_lp_mem.mpr ⟨_, hv, rfl, rfl⟩ : (k, am_cv bs b (vI x)) ∈ am_lp bs b la)
      refine lv_iinc hex hb hd hI.1.has (k := j) (x := Int32.ofInt x) (v := Int32.ofInt (x + n)) hj (by rw [Int32.ofInt_add]) (by rw [← hI.1.1]; exact hk) rfl (fun ls' h' => ?_)
      exact kk ls' H locs ⟨hI.1.put (w := vI (x + n)) hk rfl h', hI.2⟩
    · cases hx
  · cases hx
theorem sd_iadd : am_SD (.iadd) := by
  intro p l e R s m args below meth c Q bs b cA D scr M n0 z0 pc len la st h q ls H locs CX hd hx hI hR kk
  obtain ⟨hex, hb, hml, hown, hts, hK, hfr, hlo, hin⟩ := CX
  simp only [am_ex] at hx
  split at hx
  · rename_i y x r
    split at hx
    · rename_i hq
      have hl : len = 1 := hq
      subst hl
      obtain rfl := (Sum.inl.inj (Option.some.inj hx)).symm
      have k2 := kk ls H locs hI
      simp only [List.map_cons, am_cv, Int32.ofInt_add] at k2 ⊢
      exact lv_iadd hex hb hd k2
    · cases hx
  · cases hx
theorem sd_isub : am_SD (.isub) := by
  intro p l e R s m args below meth c Q bs b cA D scr M n0 z0 pc len la st h q ls H locs CX hd hx hI hR kk
  obtain ⟨hex, hb, hml, hown, hts, hK, hfr, hlo, hin⟩ := CX
  simp only [am_ex] at hx
  split at hx
  · rename_i y x r
    split at hx
    · rename_i hq
      have hl : len = 1 := hq
      subst hl
      obtain rfl := (Sum.inl.inj (Option.some.inj hx)).symm
      have k2 := kk ls H locs hI
      simp only [List.map_cons, am_cv, Int32.ofInt_sub] at k2 ⊢
      exact lv_isub hex hb hd k2
    · cases hx
  · cases hx
theorem sd_imul : am_SD (.imul) := by
  intro p l e R s m args below meth c Q bs b cA D scr M n0 z0 pc len la st h q ls H locs CX hd hx hI hR kk
  obtain ⟨hex, hb, hml, hown, hts, hK, hfr, hlo, hin⟩ := CX
  simp only [am_ex] at hx
  split at hx
  · rename_i y x r
    split at hx
    · rename_i hq
      have hl : len = 1 := hq
      subst hl
      obtain rfl := (Sum.inl.inj (Option.some.inj hx)).symm
      have k2 := kk ls H locs hI
      simp only [List.map_cons, am_cv, Int32.ofInt_mul] at k2 ⊢
      exact lv_imul hex hb hd k2
    · cases hx
  · cases hx
theorem sd_idiv : am_SD (.idiv) := by
  intro p l e R s m args below meth c Q bs b cA D scr M n0 z0 pc len la st h q ls H locs CX hd hx hI hR kk
  obtain ⟨hex, hb, hml, hown, hts, hK, hfr, hlo, hin⟩ := CX
  simp only [am_ex] at hx
  split at hx
  · rename_i y x r
    split at hx
    · rename_i hq
      have hl : len = 1 := hq.1
      subst hl
      obtain rfl := (Sum.inl.inj (Option.some.inj hx)).symm
      have k2 := kk ls H locs hI
      simp only [List.map_cons, am_cv, Int32.ofInt_toInt] at k2 ⊢
      exact lv_idiv hex hb hd hq.2 k2
    · cases hx
  · cases hx
theorem sd_irem : am_SD (.irem) := by
  intro p l e R s m args below meth c Q bs b cA D scr M n0 z0 pc len la st h q ls H locs CX hd hx hI hR kk
  obtain ⟨hex, hb, hml, hown, hts, hK, hfr, hlo, hin⟩ := CX
  simp only [am_ex] at hx
  split at hx
  · rename_i y x r
    split at hx
    · rename_i hq
      have hl : len = 1 := hq.1
      subst hl
      obtain rfl := (Sum.inl.inj (Option.some.inj hx)).symm
      have k2 := kk ls H locs hI
      simp only [List.map_cons, am_cv, Int32.ofInt_toInt] at k2 ⊢
      exact lv_irem hex hb hd hq.2 k2
    · cases hx
  · cases hx
theorem sd_iand : am_SD (.iand) := by
  intro p l e R s m args below meth c Q bs b cA D scr M n0 z0 pc len la st h q ls H locs CX hd hx hI hR kk
  obtain ⟨hex, hb, hml, hown, hts, hK, hfr, hlo, hin⟩ := CX
  simp only [am_ex] at hx
  split at hx
  · rename_i y x r
    split at hx
    · rename_i hq
      have hl : len = 1 := hq
      subst hl
      obtain rfl := (Sum.inl.inj (Option.some.inj hx)).symm
      have k2 := kk ls H locs hI
      simp only [List.map_cons, am_cv, Int32.ofInt_toInt] at k2 ⊢
      exact lv_iand hex hb hd k2
    · cases hx
  · cases hx
theorem sd_ior : am_SD (.ior) := by
  intro p l e R s m args below meth c Q bs b cA D scr M n0 z0 pc len la st h q ls H locs CX hd hx hI hR kk
  obtain ⟨hex, hb, hml, hown, hts, hK, hfr, hlo, hin⟩ := CX
  simp only [am_ex] at hx
  split at hx
  · rename_i y x r
    split at hx
    · rename_i hq
      have hl : len = 1 := hq
      subst hl
      obtain rfl := (Sum.inl.inj (Option.some.inj hx)).symm
      have k2 := kk ls H locs hI
      simp only [List.map_cons, am_cv, Int32.ofInt_toInt] at k2 ⊢
      exact lv_ior hex hb hd k2
    · cases hx
  · cases hx
theorem sd_ishl : am_SD (.ishl) := by
  intro p l e R s m args below meth c Q bs b cA D scr M n0 z0 pc len la st h q ls H locs CX hd hx hI hR kk
  obtain ⟨hex, hb, hml, hown, hts, hK, hfr, hlo, hin⟩ := CX
  simp only [am_ex] at hx
  split at hx
  · rename_i y x r
    split at hx
    · rename_i hq
      have hl : len = 1 := hq
      subst hl
      obtain rfl := (Sum.inl.inj (Option.some.inj hx)).symm
      have k2 := kk ls H locs hI
      simp only [List.map_cons, am_cv, Int32.ofInt_toInt] at k2 ⊢
      exact lv_ishl hex hb hd k2
    · cases hx
  · cases hx
theorem sd_ishr : am_SD (.ishr) := by
  intro p l e R s m args below meth c Q bs b cA D scr M n0 z0 pc len la st h q ls H locs CX hd hx hI hR kk
  obtain ⟨hex, hb, hml, hown, hts, hK, hfr, hlo, hin⟩ := CX
  simp only [am_ex] at hx
  split at hx
  · rename_i y x r
    split at hx
    · rename_i hq
      have hl : len = 1 := hq
      subst hl
      obtain rfl := (Sum.inl.inj (Option.some.inj hx)).symm
      have k2 := kk ls H locs hI
      simp only [List.map_cons, am_cv, Int32.ofInt_toInt] at k2 ⊢
      exact lv_ishr hex hb hd k2
    · cases hx
  · cases hx
theorem sd_iushr : am_SD (.iushr) := by
  intro p l e R s m args below meth c Q bs b cA D scr M n0 z0 pc len la st h q ls H locs CX hd hx hI hR kk
  obtain ⟨hex, hb, hml, hown, hts, hK, hfr, hlo, hin⟩ := CX
  simp only [am_ex] at hx
  split at hx
  · rename_i y x r
    split at hx
    · rename_i hq
      have hl : len = 1 := hq
      subst hl
      obtain rfl := (Sum.inl.inj (Option.some.inj hx)).symm
      have k2 := kk ls H locs hI
      simp only [List.map_cons, am_cv, Int32.ofInt_toInt] at k2 ⊢
      exact lv_iushr hex hb hd rfl k2
    · cases hx
  · cases hx
theorem sd_ladd : am_SD (.ladd) := by
  intro p l e R s m args below meth c Q bs b cA D scr M n0 z0 pc len la st h q ls H locs CX hd hx hI hR kk
  obtain ⟨hex, hb, hml, hown, hts, hK, hfr, hlo, hin⟩ := CX
  simp only [am_ex] at hx
  split at hx
  · rename_i y x r
    split at hx
    · rename_i hq
      have hl : len = 1 := hq
      subst hl
      obtain rfl := (Sum.inl.inj (Option.some.inj hx)).symm
      have k2 := kk ls H locs hI
      simp only [List.map_cons, am_cv, Int64.ofInt_add] at k2 ⊢
      exact lv_ladd hex hb hd k2
    · cases hx
  · cases hx
theorem sd_lcmp : am_SD (.lcmp) := by
  intro p l e R s m args below meth c Q bs b cA D scr M n0 z0 pc len la st h q ls H locs CX hd hx hI hR kk
  obtain ⟨hex, hb, hml, hown, hts, hK, hfr, hlo, hin⟩ := CX
  simp only [am_ex] at hx
  split at hx
  · rename_i y x r
    split at hx
    · rename_i hq
      have hl : len = 1 := hq
      subst hl
      obtain rfl := (Sum.inl.inj (Option.some.inj hx)).symm
      have k2 := kk ls H locs hI
      simp only [List.map_cons, am_cv, Int32.ofInt_toInt] at k2 ⊢
      exact W.lcmp hex hb hd k2
    · cases hx
  · cases hx
theorem sd_ineg : am_SD (.ineg) := by
  intro p l e R s m args below meth c Q bs b cA D scr M n0 z0 pc len la st h q ls H locs CX hd hx hI hR kk
  obtain ⟨hex, hb, hml, hown, hts, hK, hfr, hlo, hin⟩ := CX
  simp only [am_ex] at hx
  split at hx
  · rename_i x r
    split at hx
    · rename_i hq
      subst hq
      obtain rfl := (Sum.inl.inj (Option.some.inj hx)).symm
      have k2 := kk ls H locs hI
      simp only [List.map_cons, am_cv, Int32.ofInt_neg] at k2 ⊢
      exact lv_ineg hex hb hd k2
    · cases hx
  · cases hx
theorem sd_dup : am_SD (.dup) := by
  intro p l e R s m args below meth c Q bs b cA D scr M n0 z0 pc len la st h q ls H locs CX hd hx hI hR kk
  obtain ⟨hex, hb, hml, hown, hts, hK, hfr, hlo, hin⟩ := CX
  simp only [am_ex] at hx
  split at hx
  · rename_i v r
    split at hx
    · rename_i hq
      obtain ⟨hl, hv⟩ := hq
      subst hl
      obtain rfl := (Sum.inl.inj (Option.some.inj hx)).symm
      exact lv_dup hex hb hd (am_cv1 bs b hv) (kk ls H locs hI)
    · cases hx
  · cases hx
theorem sd_pop : am_SD (.pop) := by
  intro p l e R s m args below meth c Q bs b cA D scr M n0 z0 pc len la st h q ls H locs CX hd hx hI hR kk
  obtain ⟨hex, hb, hml, hown, hts, hK, hfr, hlo, hin⟩ := CX
  simp only [am_ex] at hx
  split at hx
  · rename_i v r
    split at hx
    · rename_i hq
      obtain ⟨hl, hv⟩ := hq
      subst hl
      obtain rfl := (Sum.inl.inj (Option.some.inj hx)).symm
      exact lv_pop hex hb hd (am_cv1 bs b hv) (kk ls H locs hI)
    · cases hx
  · cases hx
theorem sd_dup2 : am_SD (.dup2) := by
  intro p l e R s m args below meth c Q bs b cA D scr M n0 z0 pc len la st h q ls H locs CX hd hx hI hR kk
  obtain ⟨hex, hb, hml, hown, hts, hK, hfr, hlo, hin⟩ := CX
  simp only [am_ex] at hx
  split at hx
  · rename_i v w r
    split at hx
    · rename_i hq
      obtain ⟨hl, hv, hw⟩ := hq
      subst hl
      obtain rfl := (Sum.inl.inj (Option.some.inj hx)).symm
      exact lv_dup2_11 hex hb hd (am_cv1 bs b hv) (am_cv1 bs b hw) (kk ls H locs hI)
    · cases hx
  · cases hx
theorem sd_ifCond (cc : Jvm.ClassFile.Cond) (off : Int) : am_SD (.ifCond cc off) := by
  intro p l e R s m args below meth c Q bs b cA D scr M n0 z0 pc len la st h q ls H locs CX hd hx hI hR kk
  obtain ⟨hex, hb, hml, hown, hts, hK, hfr, hlo, hin⟩ := CX
  simp only [am_ex] at hx
  split at hx
  · rename_i x r
    split at hx
    · rename_i hq
      obtain ⟨hl, hq⟩ := id hq
      rename_i hq0
      clear hq
      have hq := hq0
      subst hl
      split at hx
      · rename_i hc
        obtain ⟨e1, ht⟩ := am_to_spec hx
        obtain ⟨q1, q2, q3, q4⟩ := q
        simp only [Prod.mk.injEq, true_and] at e1
        obtain ⟨rfl, rfl, rfl⟩ := e1
        cases cc
        · exact lv_if_eq hex hb hd ht (fun _ => kk ls H locs hI) (fun z => absurd ((am_eq32 hq.2.1 (by rfl : am_rg 0 = true)).mpr (of_decide_eq_true hc)) z)
        · exact lv_if_ne hex hb hd ht (fun _ => kk ls H locs hI) (fun z => absurd ((am_eq32 hq.2.1 (by rfl : am_rg 0 = true)).mp z) (of_decide_eq_true hc))
        · exact lv_if_lt hex hb hd ht (fun _ => kk ls H locs hI) (fun z => absurd ((am_lt32 hq.2.1 (by rfl : am_rg 0 = true)).mpr (of_decide_eq_true hc)) z)
        · exact lv_if_ge hex hb hd ht (fun _ => kk ls H locs hI) (fun z => absurd ((am_le32 (by rfl : am_rg 0 = true) hq.2.1).mpr (of_decide_eq_true hc)) z)
        · exact lv_if_gt hex hb hd ht (fun _ => kk ls H locs hI) (fun z => absurd ((am_lt32 (by rfl : am_rg 0 = true) hq.2.1).mpr (of_decide_eq_true hc)) z)
        · exact lv_if_le hex hb hd ht (fun _ => kk ls H locs hI) (fun z => absurd ((am_le32 hq.2.1 (by rfl : am_rg 0 = true)).mpr (of_decide_eq_true hc)) z)
      · rename_i hc
        obtain rfl := (Sum.inl.inj (Option.some.inj hx)).symm
        have ht0 : (pc : Int) + off = (((pc : Int) + off).toNat : Int) := by have hz := hq.2.2; omega
        cases cc
        · exact lv_if_eq (tgt := ((pc : Int) + off).toNat) hex hb hd ht0 (fun z => absurd (decide_eq_true ((am_eq32 hq.2.1 (by rfl : am_rg 0 = true)).mp z)) hc) (fun _ => kk ls H locs hI)
        · exact lv_if_ne (tgt := ((pc : Int) + off).toNat) hex hb hd ht0 (fun z => absurd (decide_eq_true (p := ¬ x = 0) (fun w => z ((am_eq32 hq.2.1 (by rfl : am_rg 0 = true)).mpr w))) hc) (fun _ => kk ls H locs hI)
        · exact lv_if_lt (tgt := ((pc : Int) + off).toNat) hex hb hd ht0 (fun z => absurd (decide_eq_true ((am_lt32 hq.2.1 (by rfl : am_rg 0 = true)).mp z)) hc) (fun _ => kk ls H locs hI)
        · exact lv_if_ge (tgt := ((pc : Int) + off).toNat) hex hb hd ht0 (fun z => absurd (decide_eq_true ((am_le32 (by rfl : am_rg 0 = true) hq.2.1).mp z)) hc) (fun _ => kk ls H locs hI)
        · exact lv_if_gt (tgt := ((pc : Int) + off).toNat) hex hb hd ht0 (fun z => absurd (decide_eq_true ((am_lt32 (by rfl : am_rg 0 = true) hq.2.1).mp z)) hc) (fun _ => kk ls H locs hI)
        · exact lv_if_le (tgt := ((pc : Int) + off).toNat) hex hb hd ht0 (fun z => absurd (decide_eq_true ((am_le32 hq.2.1 (by rfl : am_rg 0 = true)).mp z)) hc) (fun _ => kk ls H locs hI)
    · cases hx
  · cases hx
theorem sd_if_icmp (cc : Jvm.ClassFile.Cond) (off : Int) : am_SD (.if_icmp cc off) := by
  intro p l e R s m args below meth c Q bs b cA D scr M n0 z0 pc len la st h q ls H locs CX hd hx hI hR kk
  obtain ⟨hex, hb, hml, hown, hts, hK, hfr, hlo, hin⟩ := CX
  simp only [am_ex] at hx
  split at hx
  · rename_i y x r
    split at hx
    · rename_i hq
      obtain ⟨hl, hq⟩ := id hq
      rename_i hq0
      clear hq
      have hq := hq0
      subst hl
      split at hx
      · rename_i hc
        obtain ⟨e1, ht⟩ := am_to_spec hx
        obtain ⟨q1, q2, q3, q4⟩ := q
        simp only [Prod.mk.injEq, true_and] at e1
        obtain ⟨rfl, rfl, rfl⟩ := e1
        cases cc
        · exact lv_icmp_eq hex hb hd ht (fun _ => kk ls H locs hI) (fun z => absurd ((am_eq32 hq.2.1 hq.2.2.1).mpr (of_decide_eq_true hc)) z)
        · exact lv_icmp_ne hex hb hd ht (fun _ => kk ls H locs hI) (fun z => absurd ((am_eq32 hq.2.1 hq.2.2.1).mp z) (of_decide_eq_true hc))
        · exact lv_icmp_lt hex hb hd ht (fun _ => kk ls H locs hI) (fun z => absurd ((am_lt32 hq.2.1 hq.2.2.1).mpr (of_decide_eq_true hc)) z)
        · exact lv_icmp_ge hex hb hd ht (fun _ => kk ls H locs hI) (fun z => absurd ((am_le32 hq.2.2.1 hq.2.1).mpr (of_decide_eq_true hc)) z)
        · exact lv_icmp_gt hex hb hd ht (fun _ => kk ls H locs hI) (fun z => absurd ((am_lt32 hq.2.2.1 hq.2.1).mpr (of_decide_eq_true hc)) z)
        · exact lv_icmp_le hex hb hd ht (fun _ => kk ls H locs hI) (fun z => absurd ((am_le32 hq.2.1 hq.2.2.1).mpr (of_decide_eq_true hc)) z)
      · rename_i hc
        obtain rfl := (Sum.inl.inj (Option.some.inj hx)).symm
        have ht0 : (pc : Int) + off = (((pc : Int) + off).toNat : Int) := by have hz := hq.2.2.2; omega
        cases cc
        · exact lv_icmp_eq (tgt := ((pc : Int) + off).toNat) hex hb hd ht0 (fun z => absurd (decide_eq_true ((am_eq32 hq.2.1 hq.2.2.1).mp z)) hc) (fun _ => kk ls H locs hI)
        · exact lv_icmp_ne (tgt := ((pc : Int) + off).toNat) hex hb hd ht0 (fun z => absurd (decide_eq_true (p := ¬ x = y) (fun w => z ((am_eq32 hq.2.1 hq.2.2.1).mpr w))) hc) (fun _ => kk ls H locs hI)
        · exact lv_icmp_lt (tgt := ((pc : Int) + off).toNat) hex hb hd ht0 (fun z => absurd (decide_eq_true ((am_lt32 hq.2.1 hq.2.2.1).mp z)) hc) (fun _ => kk ls H locs hI)
        · exact lv_icmp_ge (tgt := ((pc : Int) + off).toNat) hex hb hd ht0 (fun z => absurd (decide_eq_true ((am_le32 hq.2.2.1 hq.2.1).mp z)) hc) (fun _ => kk ls H locs hI)
        · exact lv_icmp_gt (tgt := ((pc : Int) + off).toNat) hex hb hd ht0 (fun z => absurd (decide_eq_true ((am_lt32 hq.2.2.1 hq.2.1).mp z)) hc) (fun _ => kk ls H locs hI)
        · exact lv_icmp_le (tgt := ((pc : Int) + off).toNat) hex hb hd ht0 (fun z => absurd (decide_eq_true ((am_le32 hq.2.1 hq.2.2.1).mp z)) hc) (fun _ => kk ls H locs hI)
    · cases hx
  · cases hx
theorem sd_goto (off : Int) : am_SD (.goto off) := by
  intro p l e R s m args below meth c Q bs b cA D scr M n0 z0 pc len la st h q ls H locs CX hd hx hI hR kk
  obtain ⟨hex, hb, hml, hown, hts, hK, hfr, hlo, hin⟩ := CX
  simp only [am_ex] at hx
  split at hx
  · rename_i hl
    subst hl
    obtain ⟨e1, ht⟩ := am_to_spec hx
    obtain ⟨q1, q2, q3, q4⟩ := q
    simp only [Prod.mk.injEq, true_and] at e1
    obtain ⟨rfl, rfl, rfl⟩ := e1
    exact lv_goto hex hb hd ht (kk ls H locs hI)
  · cases hx
theorem sd_tableswitch (d lo hi : Int) (offs : Array Int) : am_SD (.tableswitch d lo hi offs) := by
  intro p l e R s m args below meth c Q bs b cA D scr M n0 z0 pc len la st h q ls H locs CX hd hx hI hR kk
  obtain ⟨hex, hb, hml, hown, hts, hK, hfr, hlo, hin⟩ := CX
  simp only [am_ex] at hx
  split at hx
  · rename_i x r
    split at hx
    · rename_i hq
      have hxi : (Int32.ofInt x).toInt = x := am_o32 (by simpa [am_rg] using hq)
      split at hx
      · rename_i ho
        obtain ⟨e1, ht⟩ := am_to_spec hx
        obtain ⟨q1, q2, q3, q4⟩ := q
        simp only [Prod.mk.injEq, true_and] at e1
        obtain ⟨rfl, rfl, rfl⟩ := e1
        exact lv_tableOut hex hb hd (by rw [hxi]; exact ho) ht (kk ls H locs hI)
      · rename_i ho
        split at hx
        · rename_i off hof
          obtain ⟨e1, ht⟩ := am_to_spec hx
          obtain ⟨q1, q2, q3, q4⟩ := q
          simp only [Prod.mk.injEq, true_and] at e1
          obtain ⟨rfl, rfl, rfl⟩ := e1
          exact lv_tableIn hex hb hd (by rw [hxi]; exact fun z => ho (Or.inl z)) (by rw [hxi]; exact fun z => ho (Or.inr z)) (by rw [hxi]; exact hof) ht (kk ls H locs hI)
        · cases hx
    · cases hx
  · cases hx
theorem sd_lookupswitch (d : Int) (ps : Array (Int × Int)) : am_SD (.lookupswitch d ps) := by
  intro p l e R s m args below meth c Q bs b cA D scr M n0 z0 pc len la st h q ls H locs CX hd hx hI hR kk
  obtain ⟨hex, hb, hml, hown, hts, hK, hfr, hlo, hin⟩ := CX
  simp only [am_ex] at hx
  split at hx
  · rename_i x r
    split at hx
    · rename_i hq
      have hxi : (Int32.ofInt x).toInt = x := am_o32 (by simpa [am_rg] using hq.1)
      obtain ⟨e1, ht⟩ := am_to_spec hx
      obtain ⟨q1, q2, q3, q4⟩ := q
      simp only [Prod.mk.injEq, true_and] at e1
      obtain ⟨rfl, rfl, rfl⟩ := e1
      exact lv_lookup hex hb hd hq.2 (by rw [hxi]) ht (kk ls H locs hI)
    · cases hx
  · cases hx
end
section
/-! Soundness of the steps on the heap -/
section HWs
variable {bs b : Nat} {cA : Nat → ClassId} {D : va_G} {scr : Cell} {h : am_H} {H : Heap}
theorem am_HW.cell (hw : am_HW bs b cA D scr h H) {a : Nat} (h8 : ∀ n f, h.1 a ≠ cI 8 n f) (h9 : ∀ n f, h.1 a ≠ cI 9 n f) : 1 ≤ a ∧ a < h.2.1 ∧ am_ad bs b a = bs + a ∧ am_CR bs b cA D (h.1 a) H[bs + a]? := by
  obtain ⟨w1, w2, w3, w4, ⟨f, w5, -⟩, w6, w7⟩ := hw
  have ha : a ≠ 0 := fun z => by subst z; exact h9 _ _ w5
  have hn : a < h.2.1 := by
    rcases Nat.lt_or_ge a h.2.1 with q | q
    · exact q
    · obtain ⟨n, f, e⟩ := w7 a q
      exact absurd e (h8 n f)
  exact ⟨by omega, hn, by simp [am_ad, ha], w6 a (by omega) hn⟩
theorem am_HW.put (hw : am_HW bs b cA D scr h H) {a : Nat} (h1 : 1 ≤ a) (h2 : a < h.2.1) {c' : am_C} {H' : Heap} (hz : H'.size = H.size) (ho : ∀ q, q ≠ bs + a → H'[q]? = H[q]?) (hc : am_CR bs b cA D c' H'[bs + a]?) : am_HW bs b cA D scr (hS h a c') H' := by
  obtain ⟨w1, w2, w3, w4, ⟨f, w5, w5'⟩, w6, w7⟩ := hw
  refine ⟨w1, by rw [hz]; exact w2, w3, by rw [ho b (by omega)]; exact w4, ⟨f, by rw [hS_ne (by omega)]; exact w5, w5'⟩, fun x hx1 hx2 => ?_, fun x hx => ?_⟩
  · by_cases hxa : x = a
    · subst hxa; rw [hS_same]; exact hc
    · rw [hS_ne hxa, ho (bs + x) (by omega)]; exact w6 x hx1 hx2
  · have hx' : h.2.1 ≤ x := hx
    rw [hS_ne (by omega)]; exact w7 x hx
theorem am_HW.new (hw : am_HW bs b cA D scr h H) {c' : am_C} {k : Nat} {H' : Heap} (hz : H'.size = H.size + 1) (ho : ∀ q, q < H.size → H'[q]? = H[q]?) (hc : am_CR bs b cA D c' H'[H.size]?) : am_HW bs b cA D scr (hA h c' k) H' := by
  obtain ⟨w1, w2, w3, w4, ⟨f, w5, w5'⟩, w6, w7⟩ := hw
  have e1 : ∀ x, (hA h c' k).1 x = if x = h.2.1 then c' else h.1 x := fun x => rfl
  have e2 : (hA h c' k).2.1 = h.2.1 + 1 := rfl
  refine ⟨by rw [e2]; omega, by rw [hz, e2]; omega, w3, by rw [ho b (by omega)]; exact w4, ⟨f, by rw [e1, if_neg (by omega)]; exact w5, w5'⟩, fun x hx1 hx2 => ?_, fun x hx => ?_⟩
  · rw [e2] at hx2
    rw [e1]
    by_cases hxa : x = h.2.1
    · subst hxa; rw [if_pos rfl, ← w2]; exact hc
    · rw [if_neg hxa, ho (bs + x) (by omega)]; exact w6 x hx1 (by omega)
  · rw [e2] at hx
    rw [e1, if_neg (by omega)]; exact w7 x (by omega)
end HWs
theorem am_ix {i : Int} (h0 : 0 ≤ i) (h1 : i < 2147483648) : ¬ Int32.ofInt i < 0 ∧ (Int32.ofInt i).toNatClampNeg = i.toNat := by
  have e : (Int32.ofInt i).toInt = i := am_o32 (by omega)
  refine ⟨fun z => ?_, ?_⟩
  · have := Int32.lt_iff_toInt_lt.mp z
    rw [e] at this
    have h2 : (0 : Int32).toInt = 0 := rfl
    omega
  · show (Int32.ofInt i).toInt.toNat = i.toNat
    rw [e]
theorem am_ft_spec (bs b : Nat) {ty : FieldType} {v : am_V} (h : am_ft ty v = true) : narrow ty (am_cv bs b v) = am_cv bs b v ∧ fits ty (am_cv bs b v) = true := by
  unfold am_ft at h
  split at h
  · exact ⟨rfl, rfl⟩
  · simp only [Bool.or_eq_true, decide_eq_true_eq] at h
    rcases h with h | h <;> subst h
    · exact ⟨(by decide +kernel : narrow .boolean (.int (Int32.ofInt 0)) = .int (Int32.ofInt 0)), (by decide +kernel : fits .boolean (.int (Int32.ofInt 0)) = true)⟩
    · exact ⟨(by decide +kernel : narrow .boolean (.int (Int32.ofInt 1)) = .int (Int32.ofInt 1)), (by decide +kernel : fits .boolean (.int (Int32.ofInt 1)) = true)⟩
  · exact ⟨rfl, rfl⟩
  · rename_i r
    cases r <;> exact ⟨rfl, rfl⟩
  · rename_i r
    cases r <;> exact ⟨rfl, rfl⟩
  · cases h
theorem am_t5 {cA : Nat → ClassId} {D : va_G} {scr : Cell} {s : State} (hK : am_KW cA D scr s) : (ArrOfT s (cA 0) .int ∧ va_RA s (cA 0) .int) ∧ (ArrOfT s (cA 1) .boolean ∧ va_RA s (cA 1) .boolean) ∧ (ArrOfT s (cA 2) (.object RX5) ∧ va_RA s (cA 2) (.object RX5)) ∧ (ArrOfT s (cA 3) (.object RX3) ∧ va_RA s (cA 3) (.object RX3)) :=
  ⟨hK.1.2 0 _ rfl, hK.1.2 1 _ rfl, hK.1.2 2 _ rfl, hK.1.2 3 _ rfl⟩
theorem sd_getfield (idx : Nat) : am_SD (.getfield idx) := by
  intro p l e R s m args below meth c Q bs b cA D scr M n0 z0 pc len la st h q ls H locs CX hd hx hI hR kk
  obtain ⟨hex, hb, hml, hown, hts, hK, hfr, hlo, hin⟩ := CX
  simp only [am_ex] at hx
  split at hx
  · rename_i ci k a r hfl
    split at hx
    · rename_i c2 fs hc
      split at hx
      · rename_i v hv
        split at hx
        · rename_i hq
          obtain ⟨hl, hci⟩ := hq
          subst hl; subst hci
          obtain rfl := (Sum.inl.inj (Option.some.inj hx)).symm
          obtain ⟨f1, f2, f3⟩ := am_fl_ok hfl
          obtain ⟨a1, a2, a3, a4⟩ := hI.2.1.cell (a := a) (by rw [hc]; intro n f z; cases z) (by rw [hc]; intro n f z; cases z)
          rw [hc] at a4
          obtain ⟨-, g2, cell, g3, g4, g5, g6⟩ := a4
          have hP : va_P D vwCl [(bs + a, .inr (c2, fs.map (am_cv bs b)))] H := by
            intro k' q' hk'
            match k', hk' with
            | 0, hk' =>
              cases hk'
              refine ⟨_, am_cl13 c2 f3, cell, g3, g4, g5, fun j hj => ?_⟩
              have hj' : j < fs.length := by rw [g2]; exact hj
              rw [g6 j fs[j] (List.getElem?_eq_getElem hj')]
              simp [vp_V, hj']
            | n + 1, hk' => simp at hk'
          have k2 := kk ls H locs hI
          simp only [List.map_cons, am_cv, a3] at k2 ⊢
          exact va_get hex hb hts (am_uw f3) hown hK.1 hP 0 rfl (am_cl13 c2 f3) k f2 (hts _ f1) (fun _ z => z) (v := am_cv bs b v) (by rw [List.getElem?_map, hv]; rfl) hd k2
        · cases hx
      · cases hx
    · cases hx
  · cases hx
theorem sd_putfield (idx : Nat) : am_SD (.putfield idx) := by
  intro p l e R s m args below meth c Q bs b cA D scr M n0 z0 pc len la st h q ls H locs CX hd hx hI hR kk
  obtain ⟨hex, hb, hml, hown, hts, hK, hfr, hlo, hin⟩ := CX
  simp only [am_ex] at hx
  split at hx
  · rename_i ci k v a r hfl
    split at hx
    · rename_i c2 fs hc
      split at hx
      · rename_i hq
        obtain ⟨hl, hci, hk, hft, hpu⟩ := hq
        subst hl; subst hci
        obtain rfl := (Sum.inl.inj (Option.some.inj hx)).symm
        obtain ⟨f1, f2, f3⟩ := am_fl_ok hfl
        obtain ⟨a1, a2, a3, a4⟩ := hI.2.1.cell (a := a) (by rw [hc]; intro n f z; cases z) (by rw [hc]; intro n f z; cases z)
        rw [hc] at a4
        obtain ⟨-, g2, cell, g3, g4, g5, g6⟩ := a4
        obtain ⟨n1, n2⟩ := am_ft_spec bs b hft
        have hcl := am_cl13 c2 f3
        have hap := va_apart (own := am_cn (am_oc M)) hts (am_uw f3) (am_ty c2) (am_ty13 c2 f3) (am_nm13 c2 f3) hK.1 hcl
        obtain ⟨hSl, hfc, kC, hkC, hkind⟩ := hK.1.1 c2 _ hcl
        obtain ⟨cf, kf, fi, f, hi, hsl⟩ := hSl k f2
        have hlay := hts _ (am_uw f3 _ (u_in_lay f2))
        have hst := (u_facts hfc hkC (u_lays hts (am_uw f3) f2) hi).1
        have q4 : ∀ j, j < am_nf c2 → cell.slots[D.2 c2 j]? = some (vp_V (fs.map (am_cv bs b)) j) := fun j hj => by
          have hj' : j < fs.length := by rw [g2]; exact hj
          rw [g6 j fs[j] (List.getElem?_eq_getElem hj')]
          simp [vp_V, hj']
        have fin : ∀ H' : Heap, H'[bs + a]? = some (cell.setSlot (D.2 c2 k) (am_cv bs b v)) → H'.size = H.size → (∀ q, q ≠ bs + a → H'[q]? = H[q]?) → W p l e R s m args below meth c H' (locs ++ [⟨bs + a, D.2 c2 k⟩]) (h.2.1 - n0) (h.2.2 - z0) Q (F0 m (pc + 3) ls (r.map (am_cv bs b))) := by
          intro H' e1 e2 e3
          refine kk ls H' _ ⟨hI.1, hI.2.1.put a1 a2 e2 e3 ?_, fun w hw => ?_, hI.2.2.2⟩
          · refine ⟨f3, by rw [List.length_set]; exact g2, _, e1, g4, g5, fun j w hw => ?_⟩
            have hj : j < am_nf c2 := by rw [← g2, ← List.length_set (as := fs) (i := k) (a := v)]; exact (List.getElem?_eq_some_iff.mp hw).1
            rw [t_set q4 hap f2 (am_cv bs b v) j hj]
            unfold updV
            by_cases hjk : j = k
            · subst hjk
              rw [List.getElem?_set_self hk] at hw
              cases hw
              simp
            · rw [List.getElem?_set_ne (Ne.symm hjk)] at hw
              rw [if_neg hjk]
              simp [vp_V, hw]
          · rcases List.mem_append.mp hw with w1 | w1
            · exact hI.2.2.1 w w1
            · rw [List.mem_singleton.mp w1]
              show bs < bs + a
              omega
        simp only [List.map_cons, am_cv, a3] at fin ⊢
        unfold am_pu at hpu
        unfold u_lay at hlay
        by_cases hfinal : (am_T c2 k).2.2.2 = true
        · rw [if_pos hfinal] at hpu hlay
          simp only [Bool.and_eq_true, decide_eq_true_eq] at hpu
          have hcf : m.cls = cf := by
            obtain ⟨_, _, c', _, _, _, -, -, hf', -, -, -, hown2, -⟩ := Cond.laysFinal_spec hlay
            have e1 : c' = cf := by have := hi.symm.trans hf'; simp at this; exact this.1.symm
            rw [hpu.2] at hown2
            rw [← e1]; exact Option.some.inj (hown.symm.trans hown2)
          have h6 := u_fits hfc hkC hkind (Or.inr hlay) hi (am_ty13 c2 f3 k f2) n1 n2
          refine W.putFinK hex hb hown (hts _ f1) hi hst hcf (hin hpu.1) (by rw [g4]; exact h6) g3 g5 (by rw [hsl]; exact k2_hasslot (q4 k f2)) rfl rfl hd fun H' e1 e2 e3 => ?_
          rw [hsl] at e1 ⊢
          exact fin H' e1 e2 e3
        · rw [if_neg hfinal] at hlay
          have h6 := u_store hfc hkC hkind hlay hi (am_ty13 c2 f3 k f2) n1 n2
          refine W.putK hex hb (f := f) ⟨hown, hts _ f1, ⟨_, _, _, hi⟩, hst⟩ (by rw [g4]; exact h6) g3 g5 (by rw [hsl]; exact k2_hasslot (q4 k f2)) rfl rfl hd fun H' e1 e2 e3 => ?_
          rw [hsl] at e1 ⊢
          exact fin H' e1 e2 e3
      · cases hx
    · cases hx
  · cases hx
theorem sd_iaload : am_SD (.iaload) := by
  intro p l e R s m args below meth c Q bs b cA D scr M n0 z0 pc len la st h q ls H locs CX hd hx hI hR kk
  obtain ⟨hex, hb, hml, hown, hts, hK, hfr, hlo, hin⟩ := CX
  simp only [am_ex] at hx
  split at hx
  · rename_i i a r
    split at hx
    · rename_i t n f hc
      split at hx
      · rename_i hq
        obtain ⟨hl, ht, h0, h1, h2⟩ := hq
        subst hl
        obtain rfl := (Sum.inl.inj (Option.some.inj hx)).symm
        obtain ⟨i1, i2⟩ := am_ix h0 h2
        have k2 := kk ls H locs hI
        rcases ht with ht | ht
        · subst ht
          obtain ⟨a1, a2, a3, a4⟩ := hI.2.1.cell (a := a) (by rw [hc]; intro n f z; cases z) (by rw [hc]; intro n f z; cases z)
          rw [hc] at a4
          simp only [List.map_cons, am_cv, a3] at k2 ⊢
          refine W.iald hex hb a4.2 ((am_t5 hK).1.1 n _) (fun z => by cases z) (by rw [arrV_size, i2]; exact fun z => z.elim i1 (fun y => by omega)) (v := .int (Int32.ofInt (f i.toNat))) ?_ rfl rfl hd k2
          rw [i2, arrV_read _ _ (by omega)]
        · subst ht
          have ha : a = 0 := by
            obtain ⟨w1, w2, w3, w4, w5, w6, w7⟩ := hI.2.1
            rcases Nat.eq_zero_or_pos a with z | z
            · exact z
            · rcases Nat.lt_or_ge a h.2.1 with y | y
              · have := w6 a z y
                rw [hc] at this
                have := this.1
                omega
              · obtain ⟨n', f', e'⟩ := w7 a y
                rw [hc] at e'
                cases e'
          subst ha
          obtain ⟨w1, w2, w3, w4, ⟨f', w5, w5'⟩, w6, w7⟩ := hI.2.1
          rw [hc] at w5
          cases w5
          have e0 : am_ad bs b 0 = b := rfl
          simp only [List.map_cons, am_cv, e0] at k2 ⊢
          refine W.iald hex hb w4 hK.2.2.2.2.1 hK.2.2.2.2.2 (by rw [i2]; exact fun z => z.elim i1 (fun y => by omega)) (v := .int (Int32.ofInt (f i.toNat))) ?_ rfl rfl hd k2
          rw [i2, w5' _ (by omega)]
      · cases hx
    · cases hx
  · cases hx
theorem am_upI {f : Nat → Int} {k : Nat} {x : Int} : updV (fun j => Value.int (Int32.ofInt (f j))) k (.int (Int32.ofInt x)) = fun j => Value.int (Int32.ofInt (if j = k then x else f j)) := by
  funext j
  unfold updV
  by_cases q : j = k <;> simp [q]
theorem sd_iastore : am_SD (.iastore) := by
  intro p l e R s m args below meth c Q bs b cA D scr M n0 z0 pc len la st h q ls H locs CX hd hx hI hR kk
  obtain ⟨hex, hb, hml, hown, hts, hK, hfr, hlo, hin⟩ := CX
  simp only [am_ex] at hx
  split at hx
  · rename_i x i a r
    split at hx
    · rename_i t n f hc
      split at hx
      · rename_i hq
        obtain ⟨hl, ht, h0, h1, h2⟩ := hq
        subst hl; subst ht
        obtain rfl := (Sum.inl.inj (Option.some.inj hx)).symm
        obtain ⟨i1, i2⟩ := am_ix h0 h2
        obtain ⟨a1, a2, a3, a4⟩ := hI.2.1.cell (a := a) (by rw [hc]; intro n f z; cases z) (by rw [hc]; intro n f z; cases z)
        rw [hc] at a4
        simp only [List.map_cons, am_cv, a3]
        refine W.iast hex hb a4.2 ((am_t5 hK).1.1 n _) (fun z => by cases z) (by rw [arrV_size, i2]; exact fun z => z.elim i1 (fun y => by omega)) rfl rfl hd fun H' e1 e2 e3 => ?_
        refine kk ls H' _ ⟨hI.1, hI.2.1.put a1 a2 e2 e3 ⟨Nat.le_of_ble_eq_true rfl, ?_⟩, fun w hw => ?_, hI.2.2.2⟩
        · rw [e1, arrV_store, i2, am_upI]
        · rcases List.mem_append.mp hw with w1 | w1
          · exact hI.2.2.1 w w1
          · rw [List.mem_singleton.mp w1]
            show bs < bs + a
            omega
      · cases hx
    · cases hx
  · cases hx
theorem sd_baload : am_SD (.baload) := by
  intro p l e R s m args below meth c Q bs b cA D scr M n0 z0 pc len la st h q ls H locs CX hd hx hI hR kk
  obtain ⟨hex, hb, hml, hown, hts, hK, hfr, hlo, hin⟩ := CX
  simp only [am_ex] at hx
  split at hx
  · rename_i i a r
    split at hx
    · rename_i t n f hc
      split at hx
      · rename_i hq
        obtain ⟨hl, ht, h0, h1, h2⟩ := hq
        subst hl; subst ht
        obtain rfl := (Sum.inl.inj (Option.some.inj hx)).symm
        obtain ⟨i1, i2⟩ := am_ix h0 h2
        have k2 := kk ls H locs hI
        obtain ⟨a1, a2, a3, a4⟩ := hI.2.1.cell (a := a) (by rw [hc]; intro n f z; cases z) (by rw [hc]; intro n f z; cases z)
        rw [hc] at a4
        simp only [List.map_cons, am_cv, a3] at k2 ⊢
        refine W.zald hex hb a4.2 ((am_t5 hK).2.1.1 n _) (fun z => by cases z) (by rw [arrV_size, i2]; exact fun z => z.elim i1 (fun y => by omega)) (v := .int (Int32.ofInt (f i.toNat))) ?_ rfl rfl hd k2
        rw [i2, arrV_read _ _ (by omega)]
      · cases hx
    · cases hx
  · cases hx
theorem sd_bastore : am_SD (.bastore) := by
  intro p l e R s m args below meth c Q bs b cA D scr M n0 z0 pc len la st h q ls H locs CX hd hx hI hR kk
  obtain ⟨hex, hb, hml, hown, hts, hK, hfr, hlo, hin⟩ := CX
  simp only [am_ex] at hx
  split at hx
  · rename_i x i a r
    split at hx
    · rename_i t n f hc
      split at hx
      · rename_i hq
        obtain ⟨hl, ht, hx01, h0, h1, h2⟩ := hq
        subst hl; subst ht
        obtain rfl := (Sum.inl.inj (Option.some.inj hx)).symm
        obtain ⟨i1, i2⟩ := am_ix h0 h2
        obtain ⟨a1, a2, a3, a4⟩ := hI.2.1.cell (a := a) (by rw [hc]; intro n f z; cases z) (by rw [hc]; intro n f z; cases z)
        rw [hc] at a4
        have hnar : narrow .boolean (.int (Int32.ofInt x)) = .int (Int32.ofInt x) := by
          rcases hx01 with z | z <;> subst z <;> decide +kernel
        simp only [List.map_cons, am_cv, a3]
        refine W.zast hex hb a4.2 ((am_t5 hK).2.1.1 n _) (fun z => by cases z) (by rw [arrV_size, i2]; exact fun z => z.elim i1 (fun y => by omega)) rfl rfl hd fun H' e1 e2 e3 => ?_
        refine kk ls H' _ ⟨hI.1, hI.2.1.put a1 a2 e2 e3 ⟨Nat.le_of_ble_eq_true rfl, ?_⟩, fun w hw => ?_, hI.2.2.2⟩
        · rw [e1, hnar, arrV_store, i2, am_upI]
        · rcases List.mem_append.mp hw with w1 | w1
          · exact hI.2.2.1 w w1
          · rw [List.mem_singleton.mp w1]
            show bs < bs + a
            omega
      · cases hx
    · cases hx
  · cases hx
theorem am_cv_r (bs b : Nat) (r : Option Nat) : am_cv bs b (.inr (.inr (.inl r))) = am_rv bs b r := by cases r <;> rfl
theorem sd_aaload : am_SD (.aaload) := by
  intro p l e R s m args below meth c Q bs b cA D scr M n0 z0 pc len la st h q ls H locs CX hd hx hI hR kk
  obtain ⟨hex, hb, hml, hown, hts, hK, hfr, hlo, hin⟩ := CX
  simp only [am_ex] at hx
  split at hx
  · rename_i i a r
    split at hx
    · rename_i t n f hc
      split at hx
      · rename_i hq
        obtain ⟨hl, h0, h1, h2⟩ := hq
        subst hl
        obtain rfl := (Sum.inl.inj (Option.some.inj hx)).symm
        obtain ⟨i1, i2⟩ := am_ix h0 h2
        have k2 := kk ls H locs hI
        obtain ⟨a1, a2, a3, a4⟩ := hI.2.1.cell (a := a) (by rw [hc]; intro n f z; cases z) (by rw [hc]; intro n f z; cases z)
        rw [hc] at a4
        simp only [List.map_cons, am_cv_r] at k2
        simp only [List.map_cons, am_cv, a3]
        obtain ⟨ht, a4⟩ := a4
        rcases ht with ht | ht <;> subst ht
        · refine W.aald hex hb a4 ((am_t5 hK).2.2.1.1 n _) rfl (fun z => by cases z) (by rw [arrV_size, i2]; exact fun z => z.elim i1 (fun y => by omega)) (v := am_rv bs b (f i.toNat)) ?_ rfl rfl hd k2
          rw [i2, arrV_read _ _ (by omega)]
        · refine W.aald hex hb a4 ((am_t5 hK).2.2.2.1 n _) rfl (fun z => by cases z) (by rw [arrV_size, i2]; exact fun z => z.elim i1 (fun y => by omega)) (v := am_rv bs b (f i.toNat)) ?_ rfl rfl hd k2
          rw [i2, arrV_read _ _ (by omega)]
      · cases hx
    · cases hx
  · cases hx
theorem sd_arraylength : am_SD (.arraylength) := by
  intro p l e R s m args below meth c Q bs b cA D scr M n0 z0 pc len la st h q ls H locs CX hd hx hI hR kk
  obtain ⟨hex, hb, hml, hown, hts, hK, hfr, hlo, hin⟩ := CX
  simp only [am_ex] at hx
  split at hx
  · rename_i a r
    split at hx
    · rename_i t n f hc
      split at hx
      · rename_i hq
        obtain ⟨hl, ht⟩ := hq
        subst hl; subst ht
        obtain rfl := (Sum.inl.inj (Option.some.inj hx)).symm
        have k2 := kk ls H locs hI
        have ha : a = 0 := by
          obtain ⟨w1, w2, w3, w4, w5, w6, w7⟩ := hI.2.1
          rcases Nat.eq_zero_or_pos a with z | z
          · exact z
          · rcases Nat.lt_or_ge a h.2.1 with y | y
            · have := w6 a z y
              rw [hc] at this
              have := this.1
              omega
            · obtain ⟨n', f', e'⟩ := w7 a y
              rw [hc] at e'
              cases e'
        subst ha
        obtain ⟨w1, w2, w3, w4, ⟨f', w5, w5'⟩, w6, w7⟩ := hI.2.1
        rw [hc] at w5
        cases w5
        have e0 : am_ad bs b 0 = b := rfl
        simp only [List.map_cons, am_cv, e0] at k2 ⊢
        refine W.alen (n := Int32.ofInt (scr.slots.size : Int)) hex hb w4 hK.2.2.2.2.1 ?_ rfl rfl hd k2
        first | rfl | exact (Int32.ofInt_natCast _).symm | simp
      · cases hx
    · cases hx
  · cases hx
end
section
/-! Soundness: references stored, cells made, natives -/
theorem am_upR {bs b : Nat} {f : Nat → Option Nat} {k v : Nat} : updV (fun j => am_rv bs b (f j)) k (.ref (am_ad bs b v)) = fun j => am_rv bs b (if j = k then some v else f j) := by
  funext j
  unfold updV
  by_cases q : j = k <;> simp [q, am_rv]
/-- places of castable words -/
theorem am_cst : (lw_tbl[975]? = some (Cond.castable (am_cn 9) RX3) ∧ lw_tbl[976]? = some (Cond.castable (am_cn 0) RX3)) ∧ lw_tbl[977]? = some (Cond.castable (am_cn 1) RX3) ∧ lw_tbl[978]? = some (Cond.castable (am_cn 4) RX3) ∧ lw_tbl[979]? = some (Cond.castable (am_cn 10) RX3) := by
  refine ⟨⟨?_, ?_⟩, ?_, ?_, ?_⟩ <;> decide +kernel
theorem am_asg {cA : Nat → ClassId} {D : va_G} {scr : Cell} {s : State} (hK : am_KW cA D scr s) {c2 : Nat} (h : c2 = 0 ∨ c2 = 1 ∨ c2 = 3 ∨ c2 = 4 ∨ c2 = 9 ∨ c2 = 10) {comp : ClassId} (hc : s.vm.findClass RX3 = some comp) : s.vm.assignable (D.1 c2) comp = true := by
  have key : ∀ i, i ∈ am_NW → lw_tbl[i]? = some (Cond.castable (am_cn c2) RX3) → c2 < 13 → s.vm.assignable (D.1 c2) comp = true := by
    intro i hi hw h13
    obtain ⟨c0, t1, f1, f2, f3⟩ := Cond.castable_spec (va_Nw.use (A := #[]) rfl (hK.2.1 i hi _ hw))
    have hcl := (hK.1.1 c2 _ (am_cl13 c2 h13)).2.1
    cases hcl.symm.trans f1
    cases hc.symm.trans f2
    exact f3
  rcases h with h | h | h | h | h | h <;> subst h
  · exact key 976 (by decide) am_cst.1.2 (by decide)
  · exact key 977 (by decide) am_cst.2.1 (by decide)
  · have hcl := (hK.1.1 3 _ (am_cl13 3 (by decide))).2
    cases hcl.1.symm.trans hc
    exact va_assign hcl
  · exact key 978 (by decide) am_cst.2.2.1 (by decide)
  · exact key 975 (by decide) am_cst.1.1 (by decide)
  · exact key 979 (by decide) am_cst.2.2.2 (by decide)
theorem sd_aastore : am_SD (.aastore) := by
  intro p l e R s m args below meth c Q bs b cA D scr M n0 z0 pc len la st h q ls H locs CX hd hx hI hR kk
  obtain ⟨hex, hb, hml, hown, hts, hK, hfr, hlo, hin⟩ := CX
  simp only [am_ex] at hx
  split at hx
  · rename_i v i a r
    split at hx
    · rename_i t n f c2 fs hc hcv
      split at hx
      · rename_i hq
        obtain ⟨hl, h0, h1, h2, ht⟩ := hq
        subst hl
        obtain rfl := (Sum.inl.inj (Option.some.inj hx)).symm
        obtain ⟨i1, i2⟩ := am_ix h0 h2
        obtain ⟨a1, a2, a3, a4⟩ := hI.2.1.cell (a := a) (by rw [hc]; intro n f z; cases z) (by rw [hc]; intro n f z; cases z)
        obtain ⟨v1, v2, v3, v4⟩ := hI.2.1.cell (a := v) (by rw [hcv]; intro n f z; cases z) (by rw [hcv]; intro n f z; cases z)
        rw [hc] at a4
        rw [hcv] at v4
        obtain ⟨v5, -, cell, g3, g4, g5, -⟩ := v4
        obtain ⟨hKs, hfc, kC, hkC, hkind⟩ := hK.1.1 c2 _ (am_cl13 c2 v5)
        have e4 : am_cv bs b (vR v) = .ref (bs + v) := by show Value.ref (am_ad bs b v) = _; rw [v3]
        have fin : ∀ H' : Heap, H'[bs + a]? = some ((arrV (cA t) n (fun j => am_rv bs b (f j))).setSlot (Int32.ofInt i).toNatClampNeg (.ref (bs + v))) → H'.size = H.size → (∀ q, q ≠ bs + a → H'[q]? = H[q]?) → W p l e R s m args below meth c H' (locs ++ [⟨bs + a, (Int32.ofInt i).toNatClampNeg⟩]) (h.2.1 - n0) (h.2.2 - z0) Q (F0 m (pc + 1) ls (r.map (am_cv bs b))) := by
          intro H' e1 e2 e3
          refine kk ls H' _ ⟨hI.1, hI.2.1.put a1 a2 e2 e3 ⟨a4.1, ?_⟩, fun w hw => ?_, hI.2.2.2⟩
          · rw [e1, arrV_store, i2, ← v3, am_upR]
          · rcases List.mem_append.mp hw with w1 | w1
            · exact hI.2.2.1 w w1
            · rw [List.mem_singleton.mp w1]
              show bs < bs + a
              omega
        simp only [List.map_cons, am_cv, a3, v3]
        rcases ht with ⟨ht, hc5⟩ | ⟨ht, hc3⟩
        · subst ht; subst hc5
          obtain ⟨kA, comp, k1, k2, k3, -⟩ := (am_t5 hK).2.2.1.2
          have hcomp : comp = D.1 5 := Option.some.inj (k3.symm.trans hfc)
          subst hcomp
          exact W.aast hex hb a4.2 (fun q z => by cases z) (fun z => by cases z) k1 k2 rfl hkC ⟨i1, by rw [arrV_size, i2]; omega⟩ g3 (fun q z => by rw [g5] at z; cases z) (by rw [g4]; exact hkC) (by rw [g4]; exact va_assign ⟨hfc, kC, hkC, hkind⟩) rfl rfl hd fin
        · subst ht
          obtain ⟨kA, comp, k1, k2, k3, -⟩ := (am_t5 hK).2.2.2.2
          obtain ⟨kE, hkE, -⟩ := Vm.findClass_spec k3
          exact W.aast hex hb a4.2 (fun q z => by cases z) (fun z => by cases z) k1 k2 rfl hkE ⟨i1, by rw [arrV_size, i2]; omega⟩ g3 (fun q z => by rw [g5] at z; cases z) (by rw [g4]; exact hkC) (by rw [g4]; exact am_asg hK hc3 k3) rfl rfl hd fin
      · cases hx
    · cases hx
  · cases hx
theorem am_arrG : (Cond.arrayClass .int ∈ am_GW) ∧ (Cond.arrayClass .boolean ∈ am_GW) := ⟨am_inG (i := 124) (by decide +kernel) rfl, am_inG (i := 184) (by decide +kernel) rfl⟩
theorem sd_newarray (ty : ArrayType) : am_SD (.newarray ty) := by
  intro p l e R s m args below meth c Q bs b cA D scr M n0 z0 pc len la st h q ls H locs CX hd hx hI hR kk
  obtain ⟨hex, hb, hml, hown, hts, hK, hfr, hlo, hin⟩ := CX
  simp only [am_ex] at hx
  split at hx
  · rename_i n r
    split at hx
    · rename_i hq
      obtain ⟨hl, h0, h1, hty⟩ := hq
      subst hl
      obtain rfl := (Sum.inl.inj (Option.some.inj hx)).symm
      obtain ⟨i1, i2⟩ := am_ix h0 (show n < 2147483648 by omega)
      have hsz := hI.2.1.2.1
      have hpos := hI.2.1.1
      have hn1 := hI.2.2.2
      have hR1 : h.2.1 + 1 - n0 ≤ R.cells := hR.1
      have hR2 : h.2.2 + n.toNat - z0 ≤ R.slots := hR.2
      have ead : am_ad bs b h.2.1 = H.size := by rw [hsz]; simp [am_ad]; omega
      have c1 : h.2.1 - n0 + 1 = h.2.1 + 1 - n0 := by omega
      have c2 : h.2.2 - z0 + n.toNat = h.2.2 + n.toNat - z0 := by omega
      simp only [List.map_cons, am_cv]
      rcases hty with hty | hty <;> subst hty
      · refine va_newaK (atype := .int) hex hb (hts _ am_arrG.1) rfl hd rfl i1 i2 (by show n.toNat * 4 ≤ _; omega) (by rw [c1]; exact hR1) (by rw [c2]; exact hR2) rfl fun H' cA' e1 e2 e3 e4 e5 => ?_
        have hca : cA' = cA 0 := Option.some.inj (e5.symm.trans (am_t5 hK).1.2)
        subst hca
        have k2 := kk ls H' locs ⟨hI.1, hI.2.1.new e2 e3 ⟨Nat.le_of_ble_eq_true rfl, e1⟩, hI.2.2.1, by show n0 ≤ h.2.1 + 1; omega, by show z0 ≤ h.2.2 + n.toNat; omega⟩
        simp only [List.map_cons, am_cv, ead] at k2
        rw [c1, c2]
        exact k2
      · refine va_newaK (atype := .boolean) hex hb (hts _ am_arrG.2) rfl hd rfl i1 i2 (by show n.toNat * 1 ≤ _; omega) (by rw [c1]; exact hR1) (by rw [c2]; exact hR2) rfl fun H' cA' e1 e2 e3 e4 e5 => ?_
        have hca : cA' = cA 1 := Option.some.inj (e5.symm.trans (am_t5 hK).2.1.2)
        subst hca
        have k2 := kk ls H' locs ⟨hI.1, hI.2.1.new e2 e3 ⟨Nat.le_of_ble_eq_true rfl, e1⟩, hI.2.2.1, by show n0 ≤ h.2.1 + 1; omega, by show z0 ≤ h.2.2 + n.toNat; omega⟩
        simp only [List.map_cons, am_cv, ead] at k2
        rw [c1, c2]
        exact k2
    · cases hx
  · cases hx
theorem sd_anewarray (idx : Nat) : am_SD (.anewarray idx) := by
  intro p l e R s m args below meth c Q bs b cA D scr M n0 z0 pc len la st h q ls H locs CX hd hx hI hR kk
  obtain ⟨hex, hb, hml, hown, hts, hK, hfr, hlo, hin⟩ := CX
  simp only [am_ex] at hx
  split at hx
  · rename_i ci n r hnc
    split at hx
    · rename_i hq
      obtain ⟨hl, h0, h1, hty⟩ := hq
      subst hl
      obtain rfl := (Sum.inl.inj (Option.some.inj hx)).symm
      obtain ⟨i1, i2⟩ := am_ix h0 (show n < 2147483648 by omega)
      obtain ⟨f1, f2⟩ := am_nc_ok hnc
      have hsz := hI.2.1.2.1
      have hpos := hI.2.1.1
      have hn1 := hI.2.2.2
      have hR1 : h.2.1 + 1 - n0 ≤ R.cells := hR.1
      have hR2 : h.2.2 + n.toNat - z0 ≤ R.slots := hR.2
      have ead : am_ad bs b h.2.1 = H.size := by rw [hsz]; simp [am_ad]; omega
      have c1 : h.2.1 - n0 + 1 = h.2.1 + 1 - n0 := by omega
      have c2 : h.2.2 - z0 + n.toNat = h.2.2 + n.toNat - z0 := by omega
      simp only [List.map_cons, am_cv]
      rcases hty with hty | hty <;> subst hty
      · refine W.anew hex hb hown (hts _ f1) (va_AO.use hK.2.2.1) rfl hd rfl i1 (by rw [i2]; omega) (by rw [c1]; exact hR1) (by rw [i2, c2]; exact hR2) fun cA' kA comp g1 g2 g3 g4 => ?_
        obtain ⟨kA', comp', k1, k2', k3, k4⟩ := (am_t5 hK).2.2.1.2
        have hca : cA' = cA 2 := Option.some.inj (g1.symm.trans k4)
        subst hca
        have k2 := kk ls (H.push { cls := cA 2, slots := Array.replicate n.toNat .null, vm := .none }) locs ⟨hI.1, hI.2.1.new (by simp) (fun q hq => by rw [Array.getElem?_push, if_neg (Nat.ne_of_lt hq)]) ⟨Or.inl rfl, by rw [Array.getElem?_push_size, arrV_new]; rfl⟩, hI.2.2.1, by show n0 ≤ h.2.1 + 1; omega, by show z0 ≤ h.2.2 + n.toNat; omega⟩
        simp only [List.map_cons, am_cv, ead] at k2
        rw [i2, c1, c2]
        exact k2
      · refine W.anew hex hb hown (hts _ f1) (va_AO.use hK.2.2.2.1) rfl hd rfl i1 (by rw [i2]; omega) (by rw [c1]; exact hR1) (by rw [i2, c2]; exact hR2) fun cA' kA comp g1 g2 g3 g4 => ?_
        obtain ⟨kA', comp', k1, k2', k3, k4⟩ := (am_t5 hK).2.2.2.2
        have hca : cA' = cA 3 := Option.some.inj (g1.symm.trans k4)
        subst hca
        have k2 := kk ls (H.push { cls := cA 3, slots := Array.replicate n.toNat .null, vm := .none }) locs ⟨hI.1, hI.2.1.new (by simp) (fun q hq => by rw [Array.getElem?_push, if_neg (Nat.ne_of_lt hq)]) ⟨Or.inr rfl, by rw [Array.getElem?_push_size, arrV_new]; rfl⟩, hI.2.2.1, by show n0 ≤ h.2.1 + 1; omega, by show z0 ≤ h.2.2 + n.toNat; omega⟩
        simp only [List.map_cons, am_cv, ead] at k2
        rw [i2, c1, c2]
        exact k2
    · cases hx
  · cases hx
def am_tok (ty : FieldType) : Bool := match ty with
  | .int => true
  | .boolean => true
  | .long => true
  | .object _ => true
  | .array _ => true
  | _ => false
theorem am_tok_ok : (List.range 13).all (fun ci => (List.range (am_nf ci)).all (fun k => am_tok (am_ty ci k))) = true := by decide +kernel
theorem am_df_spec (bs b : Nat) {ty : FieldType} (h : am_tok ty = true) : defaultValue ty = am_cv bs b (am_df ty) := by
  cases ty <;> first | rfl | cases h
theorem sd_new (idx : Nat) : am_SD (.new idx) := by
  intro p l e R s m args below meth c Q bs b cA D scr M n0 z0 pc len la st h q ls H locs CX hd hx hI hR kk
  obtain ⟨hex, hb, hml, hown, hts, hK, hfr, hlo, hin⟩ := CX
  simp only [am_ex] at hx
  split at hx
  · rename_i ci hnc
    split at hx
    · rename_i hq
      obtain ⟨hl, h13⟩ := hq
      subst hl
      obtain rfl := (Sum.inl.inj (Option.some.inj hx)).symm
      obtain ⟨f1, f2⟩ := am_nc_ok hnc
      obtain ⟨f3, f4⟩ := am_ins h13
      have hsz := hI.2.1.2.1
      have hpos := hI.2.1.1
      have hn1 := hI.2.2.2
      have hR1 : h.2.1 + 1 - n0 ≤ R.cells := hR.1
      have hR2 : h.2.2 + am_nf ci - z0 ≤ R.slots := hR.2
      have ead : am_ad bs b h.2.1 = H.size := by rw [hsz]; simp [am_ad]; omega
      have c1 : h.2.1 - n0 + 1 = h.2.1 + 1 - n0 := by omega
      have c2 : h.2.2 - z0 + am_nf ci = h.2.2 + am_nf ci - z0 := by omega
      have hKn := hK.1.1 ci _ (am_cl13 ci h13)
      refine W.newcK hex hb hown (hts _ f1) (hts _ f3) (hts _ f4) rfl hd (by rw [c1]; exact hR1) (by rw [c2]; exact hR2) hKn.2.1 rfl fun H' kC hkC e1 e2 e3 => ?_
      have hob := u_born (am_ty ci) hts (am_uw h13) hKn hkC e1 (am_ty13 ci h13)
      obtain ⟨cell, o1, o2, o3, o4⟩ := hob
      have k2 := kk ls H' locs ⟨hI.1, hI.2.1.new e2 e3 ⟨h13, by simp [am_dfs], cell, o1, o2, o3, fun j w hw => ?_⟩, hI.2.2.1, by show n0 ≤ h.2.1 + 1; omega, by show z0 ≤ h.2.2 + am_nf ci; omega⟩
      · simp only [List.map_cons, am_cv, ead] at k2
        rw [c1, c2]
        exact k2
      · have hj : j < am_nf ci := by
          have := (List.getElem?_eq_some_iff.mp hw).1
          simpa [am_dfs] using this
        have hw2 : w = am_df (am_ty ci j) := by
          simp only [am_dfs, List.getElem?_map, List.getElem?_range hj, Option.map_some, Option.some.injEq] at hw
          exact hw.symm
        have ht := List.all_eq_true.mp (List.all_eq_true.mp am_tok_ok ci (List.mem_range.mpr h13)) j (List.mem_range.mpr hj)
        rw [o4 j hj, hw2]
        exact congrArg some (am_df_spec bs b ht)
    · cases hx
  · cases hx
end
section
/-! Soundness: calls. What a call asks of the tables, and what it brings -/
theorem am_NW_ok : am_NW.all (fun i => match lw_tbl[i]? with
  | some (.methodLinkNest _ _ _ _) => true
  | some (.castable _ _) => true
  | _ => false) = true := by decide +kernel
theorem am_KW.moved {cA : Nat → ClassId} {D : va_G} {scr : Cell} {s U : State} (hW : s.WarmedH U.vm) (h : am_KW cA D scr s) : am_KW cA D scr U := by
  obtain ⟨h1, h2, h3, h4, h5, h6⟩ := h
  refine ⟨va_K.moved hW.alike h1, fun i hi w hw => ?_, h3.moved hW.alike, h4.moved hW.alike, State.isArrayOf_alike hW.alike h5, h6⟩
  have hk := List.all_eq_true.mp am_NW_ok i hi
  rw [hw] at hk
  have hz := h2 i hi w hw
  cases w with
  | methodLinkNest a j y q => exact va_Nw.warmM hW hz
  | castable a q => exact va_Nw.warmC hW hz
  | _ => simp at hk
theorem am_KW.same {cA : Nat → ClassId} {D : va_G} {scr : Cell} {u U : State} (hv : u.vm = U.vm) (h : am_KW cA D scr u) : am_KW cA D scr U := by
  obtain ⟨h1, h2, h3, h4, h5, h6⟩ := h
  have hal : u.vm.Alike U.vm := by rw [hv]; exact Vm.Alike.refl _
  refine ⟨va_K.moved hal h1, fun i hi w hw => ?_, h3.moved hal, h4.moved hal, State.isArrayOf_alike hal h5, h6⟩
  have hk := List.all_eq_true.mp am_NW_ok i hi
  rw [hw] at hk
  have hz := h2 i hi w hw
  cases w with
  | methodLinkNest a j y q => exact va_Nw.same rfl hv hz
  | castable a q => exact va_Nw.same rfl hv hz
  | _ => simp at hk
/-- a method's words -/
def am_mw (M : Nat) : List Cond := Cond.code (am_y M) (am_by M) (am_ml M) (am_rt M) :: am_GW
def am_ro (M k n : Nat) : Room := { frames := am_fr M, cells := k, slots := n, locals := am_lo M }
def am_Pc (bs b : Nat) (cA : Nat → ClassId) (D : va_G) (scr : Cell) (as : List am_V) (h : am_H) : Array Value → State → Prop := fun v U => v = (as.map (am_cv bs b)).toArray ∧ am_HW bs b cA D scr h U.heap ∧ am_KW cA D scr U
def am_Qc (bs b : Nat) (cA : Nat → ClassId) (D : va_G) (scr : Cell) (r : Option am_V) (h : am_H) : Array Value → State → Outcome → State → Prop := fun _ _ oc t => oc = .returned (r.map (am_cv bs b)) ∧ am_HW bs b cA D scr h t.heap
/-- the contract of a run of the small machine -/
def am_Met (l : Launch) (bs b : Nat) (cA : Nat → ClassId) (D : va_G) (scr : Cell) (Y : Nat) (as : List am_V) (h : am_H) (r : Option am_V) (h' : am_H) : Prop :=
  Met l (am_y Y) (am_mw Y) (am_ro Y (h'.2.1 - h.2.1) (h'.2.2 - h.2.2)) (am_Pc bs b cA D scr as h) (am_Qc bs b cA D scr r h') (h'.2.1 - h.2.1) (h'.2.2 - h.2.2) (fun q => bs < q)
theorem am_blind {bs b : Nat} {cA : Nat → ClassId} {D : va_G} {scr : Cell} {as : List am_V} {h : am_H} : FrameBlind (am_Pc bs b cA D scr as h) := fun a U g mk q => ⟨q.1, q.2.1, am_KW.same (u := U) rfl q.2.2⟩
theorem am_GGW {Y : Nat} (h : Y < 154) : GoodIn am_GW (am_mw Y) := by
  intro w hw
  rcases List.mem_cons.mp hw with rfl | hw
  · exact ⟨(am_okMs h).1, good_of_word (List.mem_filter.mp (am_okMs h).1).2⟩
  · exact ⟨hw, good_of_word (List.mem_filter.mp hw).2⟩
section Calls
variable {p : Program} {l : Launch} {e : Env} {R : Room} {s : State} {m : MethodId} {args : Array Value} {below : List Frame} {meth : Method} {c : Code} {Q : State → Prop} {bs b : Nat} {cA : Nat → ClassId} {D : va_G} {scr : Cell} {M n0 z0 pc : Nat} {la : List am_V} {h : am_H} {ls : Array Slot} {H : Heap} {locs : List Loc}
/-- from the run of a callee to what follows -/
theorem am_after {st0 rest : List am_V} {as : List am_V} {r : Option am_V} {h' : am_H} (hr1 : h.2.1 ≤ h'.2.1) (hr2 : h.2.2 ≤ h'.2.2) (hI : am_I bs b cA D scr M n0 z0 h H locs la ls)
    (hrun : va_Run p l e R s m args below meth c H locs (h.2.1 - n0) (h.2.2 - z0) (h'.2.1 - h.2.1) (h'.2.2 - h.2.2) (F0 m pc ls (st0.map (am_cv bs b))) (rest.map (am_cv bs b)) (am_Qc bs b cA D scr r h' (as.map (am_cv bs b)).toArray) (fun q => bs < q))
    (kk : ∀ (H' : Heap) (locs' : List Loc), am_I bs b cA D scr M n0 z0 h' H' locs' la ls → W p l e R s m args below meth c H' locs' (h'.2.1 - n0) (h'.2.2 - z0) Q (F0 m (pc + 3) ls ((r.toList ++ rest).map (am_cv bs b)))) :
    W p l e R s m args below meth c H locs (h.2.1 - n0) (h.2.2 - z0) Q (F0 m pc ls (st0.map (am_cv bs b))) := by
  intro T hT X
  obtain ⟨v, st₀, t, T', L, e0, X', hL, e1, e2, ⟨hv, hw⟩, st⟩ := hrun T hT X
  cases hv
  have hn1 := hI.2.2.2
  have c1 : h.2.1 - n0 + (h'.2.1 - h.2.1) = h'.2.1 - n0 := by omega
  have c2 : h.2.2 - z0 + (h'.2.2 - h.2.2) = h'.2.2 - z0 := by omega
  rw [c1, c2] at X'
  have k2 := kk T'.heap (locs ++ L) ⟨hI.1, by rw [e1]; exact hw, fun q hq => by
    rcases List.mem_append.mp hq with z | z
    · exact hI.2.2.1 q z
    · exact hL q z, by omega, by omega⟩
  obtain ⟨t2, a1, b1⟩ := k2 T' rfl X'
  refine ⟨t2, st t2 ?_, b1⟩
  have e3 : (r.map (am_cv bs b)).toList ++ rest.map (am_cv bs b) = (r.toList ++ rest).map (am_cv bs b) := by cases r <;> rfl
  rw [e3]
  exact a1
theorem am_sum {rest : List am_V} (h : (rest.map am_ct).sum ≤ 8) : ((rest.map (am_cv bs b)).map fun v => v.category).sum ≤ 8 := by
  rw [List.map_map]
  have e : ((fun v => Value.category v) ∘ am_cv bs b) = am_ct := funext fun v => am_cvct bs b v
  rw [e]; exact h
/-- what am_call says -/
theorem am_call_spec {Y : Nat} {st : List am_V} {q : Nat × List am_V × List am_V} (hx : am_call M Y st = some (.inr (.inr q))) : q.1 = Y ∧ q.2.1.length = am_na Y ∧ st = q.2.1.reverse ++ q.2.2 ∧ (q.2.2.map am_ct).sum ≤ 8 ∧ q.2.1.all am_ir = true ∧ am_na Y ≤ am_ml Y ∧ am_fr Y + 1 ≤ am_fr M ∧ 8 + (am_ml Y + 11) + am_lo Y ≤ am_lo M ∧ Y < 154 ∧ 1 ≤ am_na Y := by
  unfold am_call at hx
  split at hx
  · rename_i hq
    obtain ⟨h1, h2, h3, h4⟩ := hq
    have := Sum.inr.inj (Sum.inr.inj (Option.some.inj hx))
    subst this
    simp only [am_fit, Bool.and_eq_true, decide_eq_true_eq] at h4
    refine ⟨rfl, by simp [h1], by simp, h3, by rw [List.all_reverse]; exact h2, h4.1.1.1.1, h4.1.1.1.2, h4.1.1.2, h4.1.2, h4.2⟩
  · cases hx
theorem am_call_no {Y : Nat} {st : List am_V} {q : (Nat × List am_V × List am_V × am_H) ⊕ Option am_V} : am_call M Y st ≠ some (match q with | .inl a => .inl a | .inr r => .inr (.inl r)) := by
  unfold am_call
  split
  · intro z; cases q <;> cases z
  · intro z; cases q <;> cases z
end Calls
/-- a step that calls -/
def am_SC (ins : Instr) : Prop := ∀ (p : Program) (l : Launch) (e : Env) (R : Room) (s : State) (m : MethodId) (args : Array Value) (below : List Frame) (meth : Method) (c : Code) (Q : State → Prop) (bs b : Nat) (cA : Nat → ClassId) (D : va_G) (scr : Cell) (M n0 z0 pc len : Nat) (la st : List am_V) (h : am_H) (q : Nat × List am_V × List am_V) (r : Option am_V) (h' : am_H) (ls : Array Slot) (H : Heap) (locs : List Loc),
  am_CX p R s m args meth c cA D scr M → decode (am_by M) pc = .ok (ins, len) → am_ex M pc ins len la st h = some (.inr (.inr q)) → am_I bs b cA D scr M n0 z0 h H locs la ls → h.2.1 ≤ h'.2.1 → h.2.2 ≤ h'.2.2 → h'.2.1 - n0 ≤ R.cells ∧ h'.2.2 - z0 ≤ R.slots →
  am_Met l bs b cA D scr q.1 q.2.1 h r h' →
  (∀ (H' : Heap) (locs' : List Loc), am_I bs b cA D scr M n0 z0 h' H' locs' la ls → W p l e R s m args below meth c H' locs' (h'.2.1 - n0) (h'.2.2 - z0) Q (F0 m (pc + 3) ls ((r.toList ++ q.2.2).map (am_cv bs b)))) →
  W p l e R s m args below meth c H locs (h.2.1 - n0) (h.2.2 - z0) Q (F0 m pc ls (st.map (am_cv bs b)))
end
section
/-! Soundness: the calls, kind by kind -/
section CallK
variable {p : Program} {l : Launch} {e : Env} {R : Room} {s : State} {m : MethodId} {args : Array Value} {below : List Frame} {meth : Method} {c : Code} {Q : State → Prop} {bs b : Nat} {cA : Nat → ClassId} {D : va_G} {scr : Cell} {M n0 z0 pc : Nat} {la : List am_V} {h : am_H} {ls : Array Slot} {H : Heap} {locs : List Loc}
theorem am_hp (hI : am_I bs b cA D scr M n0 z0 h H locs la ls) (hK : am_KW cA D scr s) (as : List am_V) : PreS s H (am_Pc bs b cA D scr as h) (as.map (am_cv bs b)) := ⟨am_blind, fun U hU hW => ⟨rfl, by rw [hU]; exact hI.2.1, hK.moved hW⟩⟩
theorem am_mwe (Y : Nat) : am_mw Y = Cond.code (am_y Y) (am_by Y) (am_ml Y) (am_rt Y) :: am_GW := rfl
theorem am_recvS {Y : Nat} {st : List am_V} {ci : Nat} (hr : am_rcv Y st h = some ci) {as rest : List am_V} (hst : st = as.reverse ++ rest) (hn : as.length = am_na Y) (h1 : 1 ≤ am_na Y) : ∃ a as' fs, as = vR a :: as' ∧ h.1 a = cO ci fs := by
  unfold am_rcv at hr
  split at hr
  · rename_i a ha
    split at hr
    · rename_i c2 fs hc
      cases hr
      cases as with
      | nil => simp at hn; omega
      | cons v as' =>
        refine ⟨a, as', fs, ?_, hc⟩
        have e1 : st[am_na Y - 1]? = some v := by
          rw [hst, ← hn, List.reverse_cons, List.append_assoc]
          simp
        rw [e1] at ha
        cases ha
        rfl
    · cases hr
  · cases hr
theorem am_obj (hI : am_I bs b cA D scr M n0 z0 h H locs la ls) (hK : am_KW cA D scr s) {a ci : Nat} {fs : List am_V} (hc : h.1 a = cO ci fs) : ci < 13 ∧ am_ad bs b a = bs + a ∧ (∃ cellB : Cell, H[am_ad bs b a]? = some cellB ∧ cellB.vm.isStatics = false ∧ s.vm.findClass (am_cn ci) = some cellB.cls) ∧ ClassAt s (am_cn ci) (D.1 ci) := by
  obtain ⟨a1, a2, a3, a4⟩ := hI.2.1.cell (a := a) (by rw [hc]; intro n f z; cases z) (by rw [hc]; intro n f z; cases z)
  rw [hc] at a4
  obtain ⟨g1, g2, cell, g3, g4, g5, g6⟩ := a4
  have hcl := hK.1.1 ci _ (am_cl13 ci g1)
  exact ⟨g1, a3, ⟨cell, by rw [a3]; exact g3, by rw [g5]; rfl, by rw [g4]; exact hcl.2.1⟩, hcl.2⟩
end CallK
set_option maxHeartbeats 1000000 in
theorem sc_invokestatic (idx : Nat) : am_SC (.invokestatic idx) := by
  intro p l e R s m args below meth c Q bs b cA D scr M n0 z0 pc len la st h q r h' ls H locs CX hd hx hI g1 g2 hR hM kk
  obtain ⟨hex, hb, hml, hown, hts, hK, hfr, hlo, hin⟩ := CX
  simp only [am_ex] at hx
  have hn1 := hI.2.2.2
  split at hx
  · rename_i y hst
    split at hx
    · rename_i hl
      subst hl
      obtain ⟨q1, q2, q3⟩ := q
      obtain ⟨rfl, c1, rfl, c3, c4, c5, c6, c7, c8, c9⟩ := am_call_spec hx
      obtain ⟨pl, hok⟩ := am_st_ok hst
      obtain ⟨o1, o2, o3, o4, o5, o6⟩ := am_okMs c8
      simp only [am_okS, am_ok1, Bool.and_eq_true, decide_eq_true_eq] at hok
      obtain ⟨⟨k1, k2⟩, k3⟩ := hok
      refine am_after (as := q2) (rest := q3) (r := r) g1 g2 hI ?_ kk
      refine va_runS (As := q2.map (am_cv bs b)) (n := am_na q1) (bytes := am_by q1) (maxL := am_ml q1) (ret := am_rt q1) ⟨hex, hb, hml, hown, hts⟩ hM ⟨callB_of (am_na q1) hts (am_GGW c8) (am_mwe q1) rfl rfl (hts _ o2) (hts _ (am_pG k1 rfl)) ⟨o4.1, o4.2, by rw [o5, k3]⟩ ⟨?_, ?_⟩, hts _ (am_pG k2 rfl)⟩ (am_hp hI hK q2) rfl (by rw [List.length_map]; exact c1) ?_ ?_ (lv_room (am_sum c3)) hd ?_
      · exact Nat.le_trans c6 hfr
      · exact Nat.le_trans c7 hlo
      · exact hI.1.2.1
      · show List.map (am_cv bs b) _ = _
        rw [List.map_append, List.map_reverse]
      · have := hR; constructor <;> omega
    · cases hx
  · rename_i y hst
    split at hx
    · rename_i hl
      subst hl
      obtain ⟨q1, q2, q3⟩ := q
      obtain ⟨rfl, c1, rfl, c3, c4, c5, c6, c7, c8, c9⟩ := am_call_spec hx
      obtain ⟨pl, hok⟩ := am_st_ok hst
      obtain ⟨o1, o2, o3, o4, o5, o6⟩ := am_okMs c8
      simp only [am_okS, am_ok2, Bool.and_eq_true, decide_eq_true_eq] at hok
      obtain ⟨⟨⟨k1, k0⟩, k2⟩, k3⟩ := hok
      refine am_after (as := q2) (rest := q3) (r := r) g1 g2 hI ?_ kk
      refine va_runSN (As := q2.map (am_cv bs b)) (n := am_na q1) (bytes := am_by q1) (maxL := am_ml q1) (ret := am_rt q1) ⟨hex, hb, hml, hown, hts⟩ hM ⟨va_cnB (am_na q1) hts (am_GGW c8) (am_mwe q1) rfl rfl (hK.2.1 _ k0 _ k1) (hts _ o2) ⟨o4.1, o4.2, by rw [o5, k3]⟩ ⟨?_, ?_⟩, hts _ (am_pG k2 rfl), trivial⟩ (am_hp hI hK q2) rfl (by rw [List.length_map]; exact c1) ?_ ?_ (lv_room (am_sum c3)) hd ?_
      · exact Nat.le_trans c6 hfr
      · exact Nat.le_trans c7 hlo
      · exact hI.1.2.1
      · show List.map (am_cv bs b) _ = _
        rw [List.map_append, List.map_reverse]
      · have := hR; constructor <;> omega
    · cases hx
  · split at hx
    · split at hx
      · split at hx
        · cases hx
        · cases hx
      · cases hx
    · cases hx
  · split at hx
    · split at hx
      · cases hx
      · cases hx
    · cases hx
  · split at hx
    · split at hx
      · cases hx
      · cases hx
    · cases hx
  · cases hx
set_option maxHeartbeats 1000000 in
theorem sc_invokevirtual (idx : Nat) : am_SC (.invokevirtual idx) := by
  intro p l e R s m args below meth c Q bs b cA D scr M n0 z0 pc len la st h q r h' ls H locs CX hd hx hI g1 g2 hR hM kk
  obtain ⟨hex, hb, hml, hown, hts, hK, hfr, hlo, hin⟩ := CX
  simp only [am_ex] at hx
  have hn1 := hI.2.2.2
  split at hx
  · rename_i y hst
    split at hx
    · rename_i hq
      obtain ⟨hl, hrc⟩ := hq
      subst hl
      obtain ⟨q1, q2, q3⟩ := q
      obtain ⟨rfl, c1, c2, c3, c4, c5, c6, c7, c8, c9⟩ := am_call_spec hx
      obtain ⟨a, as', fs, e1, hc⟩ := am_recvS hrc c2 c1 c9
      simp only at e1 c1 c2
      subst e1; subst c2
      obtain ⟨pl, hok⟩ := am_st_ok hst
      obtain ⟨o1, o2, o3, o4, o5, o6⟩ := am_okMs c8
      simp only [am_okS, am_ok0, Bool.and_eq_true, decide_eq_true_eq] at hok
      obtain ⟨⟨⟨k1, k2⟩, k3⟩, k4⟩ := hok
      obtain ⟨-, -, hcell, -⟩ := am_obj hI hK hc
      have hp := am_hp hI hK (vR a :: as')
      refine am_after (as := vR a :: as') (rest := q3) (r := r) g1 g2 hI ?_ kk
      refine va_runV (C := am_cn (am_oc q1)) (b := am_ad bs b a) (As := as'.map (am_cv bs b)) (n := am_np q1) (bytes := am_by q1) (maxL := am_ml q1) (ret := am_rt q1) ⟨hex, hb, hml, hown, hts⟩ hM ⟨callB_of (am_np q1) hts (am_GGW c8) (am_mwe q1) rfl rfl (hts _ o2) (hts _ (am_pG k1 rfl)) ⟨o4.1, o4.2, o5⟩ ⟨?_, ?_⟩, hts _ (am_pG k2 rfl), by rw [← o6]; exact hts _ (am_pG k3 rfl)⟩ ⟨hp.1, hcell, hp.2⟩ rfl ?_ ?_ ?_ (lv_room (am_sum c3)) hd ?_
      · exact Nat.le_trans c6 hfr
      · exact Nat.le_trans c7 hlo
      · rw [List.length_map]; simp at c1; omega
      · exact hI.1.2.1
      · show List.map (am_cv bs b) _ = _
        rw [List.map_append, List.map_reverse, List.map_cons, List.reverse_cons, List.append_assoc]
        rfl
      · have := hR; constructor <;> omega
    · cases hx
  · rename_i y hst
    split at hx
    · rename_i ci hrc
      split at hx
      · rename_i hq
        obtain ⟨hl, hws⟩ := hq
        subst hl
        obtain ⟨q1, q2, q3⟩ := q
        obtain ⟨e0, c1, c2, c3, c4, c5, c6, c7, c8, c9⟩ := am_call_spec hx
        simp only at e0 c1 c2 hM kk
        subst e0
        obtain ⟨pl, hok⟩ := am_st_ok hst
        obtain ⟨o1, o2, o3, o4, o5, o6⟩ := am_okMs c8
        simp only [am_okS, am_ok6, Bool.and_eq_true, decide_eq_true_eq] at hok
        obtain ⟨⟨⟨⟨⟨k1, k2⟩, k3⟩, k4⟩, k5⟩, k6⟩ := hok
        obtain ⟨y1, y2, y3, y4, y5, y6⟩ := am_okMs k5
        have key : ∃ i, am_p pl i = some (.selects (am_cn ci) (am_y y) (am_y (am_wo ci))) ∧ am_p pl (i + 1) = some (.instanceMethod (am_y (am_wo ci))) ∧ am_na (am_wo ci) = am_na y := by
          have hm : ci ∈ am_ws := by simpa using hws
          have hcs : ∃ j, (ci, j) ∈ ([(0, 3), (1, 5), (3, 7), (4, 9), (9, 11), (10, 13)] : List (Nat × Nat)) := by
            have : ci = 0 ∨ ci = 1 ∨ ci = 3 ∨ ci = 4 ∨ ci = 9 ∨ ci = 10 := by simpa [am_ws] using hm
            rcases this with z | z | z | z | z | z <;> subst z
            · exact ⟨3, by decide⟩
            · exact ⟨5, by decide⟩
            · exact ⟨7, by decide⟩
            · exact ⟨9, by decide⟩
            · exact ⟨11, by decide⟩
            · exact ⟨13, by decide⟩
          obtain ⟨j, hj⟩ := hcs
          have h1 := List.all_eq_true.mp k6 (ci, j) hj
          simp only [Bool.and_eq_true, decide_eq_true_eq] at h1
          exact ⟨j, h1.1.1, h1.1.2, h1.2⟩
        obtain ⟨j, j1, j2, j3⟩ := key
        obtain ⟨a, as', fs, e1, hc⟩ := am_recvS hrc c2 (c1.trans j3) (by rw [← j3]; exact c9)
        subst e1; subst c2
        obtain ⟨-, -, hcell, -⟩ := am_obj hI hK hc
        have hp := am_hp hI hK (vR a :: as')
        have hyx : (⟨(am_y y).cls, (am_y y).name, (am_y y).desc⟩ : MethodName) = am_y y := rfl
        have hcU : va_CU R s args (am_cn (am_oc M)) (am_cn ci) (am_y y).cls idx (am_y y) (am_y (am_wo ci)) (am_by (am_wo ci)) (am_ml (am_wo ci)) (am_rt (am_wo ci)) (am_mw (am_wo ci)) (am_ro (am_wo ci) (h'.2.1 - h.2.1) (h'.2.2 - h.2.2)) (h'.2.1 - h.2.1) (h'.2.2 - h.2.2) (am_np y) := by
          refine ⟨⟨rfl, rfl, Nat.le_trans c6 hfr, Nat.le_trans c7 hlo, pay_in hts (am_GGW c8), List.mem_cons_self⟩, hts _ o1, hts _ o2, y4, fun sig hsig => ?_, hts _ (am_pG k1 rfl), hts _ (am_pG k2 rfl), va_Decl.of (hts _ (am_pG k3 rfl)) (hts _ y1), hts _ (am_pG j1 rfl), hts _ (am_pG j2 rfl)⟩
          rw [hsig] at y5
          exact (Option.some.inj y5).symm
        refine am_after (as := vR a :: as') (rest := q3) (r := r) g1 g2 hI ?_ kk
        refine va_runU (C := am_cn ci) (owner := (am_y y).cls) (b := am_ad bs b a) (As := as'.map (am_cv bs b)) (n := am_np y) (bytes := am_by (am_wo ci)) (maxL := am_ml (am_wo ci)) (ret := am_rt (am_wo ci)) ⟨hex, hb, hml, hown, hts⟩ hM hcU ⟨hp.1, hcell, hp.2⟩ rfl ?_ ?_ ?_ (lv_room (am_sum c3)) hd ?_
        · rw [List.length_map]; simp at c1; omega
        · exact hI.1.2.1
        · show List.map (am_cv bs b) _ = _
          rw [List.map_append, List.map_reverse, List.map_cons, List.reverse_cons, List.append_assoc]
          rfl
        · have := hR; constructor <;> omega
      · cases hx
    · cases hx
  · cases hx
set_option maxHeartbeats 1000000 in
theorem sc_invokespecial (idx : Nat) : am_SC (.invokespecial idx) := by
  intro p l e R s m args below meth c Q bs b cA D scr M n0 z0 pc len la st h q r h' ls H locs CX hd hx hI g1 g2 hR hM kk
  obtain ⟨hex, hb, hml, hown, hts, hK, hfr, hlo, hin⟩ := CX
  simp only [am_ex] at hx
  have hn1 := hI.2.2.2
  split at hx
  · rename_i y hst
    split at hx
    · rename_i hq
      obtain ⟨hl, hrc⟩ := hq
      obtain ⟨ci, hrc⟩ := Option.isSome_iff_exists.mp hrc
      subst hl
      obtain ⟨q1, q2, q3⟩ := q
      obtain ⟨rfl, c1, c2, c3, c4, c5, c6, c7, c8, c9⟩ := am_call_spec hx
      obtain ⟨a, as', fs, e1, hc⟩ := am_recvS hrc c2 c1 c9
      simp only at e1 c1 c2
      subst e1; subst c2
      obtain ⟨pl, hok⟩ := am_st_ok hst
      obtain ⟨o1, o2, o3, o4, o5, o6⟩ := am_okMs c8
      simp only [am_okS, am_ok3, Bool.and_eq_true, decide_eq_true_eq] at hok
      obtain ⟨⟨⟨⟨k1, k2⟩, k3⟩, k4⟩, k5⟩ := hok
      have hp := am_hp hI hK (vR a :: as')
      refine am_after (as := vR a :: as') (rest := q3) (r := r) g1 g2 hI ?_ kk
      have hG : am_mw q1 = Cond.code (am_y q1) (am_by q1) (am_ml q1) none :: am_GW := by rw [am_mwe, k5]
      refine va_runI (b := am_ad bs b a) (As := as'.map (am_cv bs b)) (n := am_np q1) (bytes := am_by q1) (maxL := am_ml q1) ⟨hex, hb, hml, hown, hts⟩ hM ⟨callB_of (am_np q1) hts (am_GGW c8) hG rfl rfl (hts _ o2) (hts _ (am_pG k1 rfl)) ⟨o4.1, o4.2, o5⟩ ⟨?_, ?_⟩, k3, hts _ (am_pG k2 rfl)⟩ hp rfl ?_ ?_ ?_ (lv_room (am_sum c3)) hd ?_
      · exact Nat.le_trans c6 hfr
      · exact Nat.le_trans c7 hlo
      · rw [List.length_map]; simp at c1; omega
      · exact hI.1.2.1
      · show List.map (am_cv bs b) _ = _
        rw [List.map_append, List.map_reverse, List.map_cons, List.reverse_cons, List.append_assoc]
        rfl
      · have := hR; constructor <;> omega
    · cases hx
  · rename_i y hst
    split at hx
    · rename_i hq
      obtain ⟨hl, hrc⟩ := hq
      obtain ⟨ci, hrc⟩ := Option.isSome_iff_exists.mp hrc
      subst hl
      obtain ⟨q1, q2, q3⟩ := q
      obtain ⟨rfl, c1, c2, c3, c4, c5, c6, c7, c8, c9⟩ := am_call_spec hx
      obtain ⟨a, as', fs, e1, hc⟩ := am_recvS hrc c2 c1 c9
      simp only at e1 c1 c2
      subst e1; subst c2
      obtain ⟨pl, hok⟩ := am_st_ok hst
      obtain ⟨o1, o2, o3, o4, o5, o6⟩ := am_okMs c8
      simp only [am_okS, am_ok4, Bool.and_eq_true, decide_eq_true_eq] at hok
      obtain ⟨⟨⟨⟨⟨k1, k0⟩, k2⟩, k3⟩, k4⟩, k5⟩ := hok
      have hp := am_hp hI hK (vR a :: as')
      refine am_after (as := vR a :: as') (rest := q3) (r := r) g1 g2 hI ?_ kk
      have hG : am_mw q1 = Cond.code (am_y q1) (am_by q1) (am_ml q1) none :: am_GW := by rw [am_mwe, k5]
      refine va_runIN (b := am_ad bs b a) (As := as'.map (am_cv bs b)) (n := am_np q1) (bytes := am_by q1) (maxL := am_ml q1) ⟨hex, hb, hml, hown, hts⟩ hM ⟨va_cnB (am_np q1) hts (am_GGW c8) hG rfl rfl (hK.2.1 _ k0 _ k1) (hts _ o2) ⟨o4.1, o4.2, o5⟩ ⟨?_, ?_⟩, k3, hts _ (am_pG k2 rfl)⟩ hp rfl ?_ ?_ ?_ (lv_room (am_sum c3)) hd ?_
      · exact Nat.le_trans c6 hfr
      · exact Nat.le_trans c7 hlo
      · rw [List.length_map]; simp at c1; omega
      · exact hI.1.2.1
      · show List.map (am_cv bs b) _ = _
        rw [List.map_append, List.map_reverse, List.map_cons, List.reverse_cons, List.append_assoc]
        rfl
      · have := hR; constructor <;> omega
    · cases hx
  · rename_i y hst
    split at hx
    · rename_i hq
      obtain ⟨hl, hrc⟩ := hq
      obtain ⟨ci, hrc⟩ := Option.isSome_iff_exists.mp hrc
      subst hl
      obtain ⟨q1, q2, q3⟩ := q
      obtain ⟨rfl, c1, c2, c3, c4, c5, c6, c7, c8, c9⟩ := am_call_spec hx
      obtain ⟨a, as', fs, e1, hc⟩ := am_recvS hrc c2 c1 c9
      simp only at e1 c1 c2
      subst e1; subst c2
      obtain ⟨pl, hok⟩ := am_st_ok hst
      obtain ⟨o1, o2, o3, o4, o5, o6⟩ := am_okMs c8
      simp only [am_okS, am_ok5, Bool.and_eq_true, decide_eq_true_eq] at hok
      obtain ⟨⟨⟨⟨⟨k1, k2⟩, k3⟩, k4⟩, k5⟩, k6⟩ := hok
      obtain ⟨-, -, hcell, hat⟩ := am_obj hI hK hc
      have hp := am_hp hI hK (vR a :: as')
      refine am_after (as := vR a :: as') (rest := q3) (r := r) g1 g2 hI ?_ kk
      have hcS : va_CS R s args (am_cn (am_oc M)) idx (am_y q1) (am_by q1) (am_ml q1) (am_rt q1) (am_mw q1) (am_ro q1 (h'.2.1 - h.2.1) (h'.2.2 - h.2.2)) (h'.2.1 - h.2.1) (h'.2.2 - h.2.2) (am_np q1) := by
        refine ⟨⟨rfl, rfl, Nat.le_trans c6 hfr, Nat.le_trans c7 hlo, pay_in hts (am_GGW c8), List.mem_cons_self⟩, hts _ (am_pG k1 rfl), hts _ (am_pG k2 rfl), hts _ (am_pG k3 rfl), hts _ (am_pG k4 rfl), hts _ o2, hts _ o1, k5, fun sig hsig => ?_⟩
        rw [hsig] at o5
        exact (Option.some.inj o5).symm
      refine va_runSU (C := am_cn ci) hat (b := am_ad bs b a) (As := as'.map (am_cv bs b)) (n := am_np q1) (bytes := am_by q1) (maxL := am_ml q1) (ret := am_rt q1) ⟨hex, hb, hml, hown, hts⟩ hM hcS ⟨hp.1, hcell, hp.2⟩ rfl ?_ ?_ ?_ (lv_room (am_sum c3)) hd ?_
      · rw [List.length_map]; simp at c1; omega
      · exact hI.1.2.1
      · show List.map (am_cv bs b) _ = _
        rw [List.map_append, List.map_reverse, List.map_cons, List.reverse_cons, List.append_assoc]
        rfl
      · have := hR; constructor <;> omega
    · cases hx
  · split at hx
    · split at hx
      · cases hx
      · cases hx
    · cases hx
  · cases hx
end
section
/-! Soundness: natives, Object.<init>; then the run as a whole -/
set_option maxHeartbeats 1000000 in
theorem sd_invokestatic (idx : Nat) : am_SD (.invokestatic idx) := by
  intro p l e R s m args below meth c Q bs b cA D scr M n0 z0 pc len la st h q ls H locs CX hd hx hI hR kk
  obtain ⟨hex, hb, hml, hown, hts, hK, hfr, hlo, hin⟩ := CX
  simp only [am_ex] at hx
  split at hx
  · split at hx
    · exact absurd hx (am_call_no (q := .inl q))
    · cases hx
  · split at hx
    · exact absurd hx (am_call_no (q := .inl q))
    · cases hx
  · rename_i y hst
    split at hx
    · rename_i n dp a sp a0
      split at hx
      · rename_i t0 k0 f0 t1 k1 f1 hc0 hc1
        split at hx
        · rename_i hq
          obtain ⟨hl, r0, r1, r2, r3, h0, h1, h2, h3, w1, w2⟩ := hq
          subst hl; subst r0; subst r1; subst r2; subst r3
          obtain rfl := (Sum.inl.inj (Option.some.inj hx)).symm
          obtain ⟨pl, hok⟩ := am_st_ok hst
          simp only [am_okS, am_ok9, Bool.and_eq_true, decide_eq_true_eq] at hok
          obtain ⟨⟨⟨o1, o2⟩, o3⟩, o4⟩ := hok
          obtain ⟨i1, i2⟩ := am_ix h0 h3
          obtain ⟨z1, z2⟩ := am_ix (i := 0) (by omega) (by omega)
          obtain ⟨a1, a2, a3, a4⟩ := hI.2.1.cell (a := a) (by rw [hc1]; intro n f z; cases z) (by rw [hc1]; intro n f z; cases z)
          obtain ⟨b1, b2, b3, b4⟩ := hI.2.1.cell (a := a0) (by rw [hc0]; intro n f z; cases z) (by rw [hc0]; intro n f z; cases z)
          rw [hc1] at a4
          rw [hc0] at b4
          obtain ⟨-, kA, hkA, cm, hkk⟩ := (am_t5 hK).1.1 0 (fun _ => .null)
          simp only [List.map_cons, List.map_nil, am_cv, a3, b3]
          intro T hT X
          have e0 : (Int32.ofInt 0).toInt = 0 := rfl
          have en : (Int32.ofInt n).toInt = n := am_o32 (by omega)
          obtain ⟨vm', X', step⟩ := X.arraycopy hex hown (hts _ (am_pG o1 rfl)) (hts _ (am_pG o2 rfl)) (hts _ (am_pG o3 rfl)) (hts _ (am_pG o4 rfl)) (src := bs + a0) (dst := bs + a) (cs := arrV (cA 0) k0 (fun j => Value.int (Int32.ofInt (f0 j)))) (cd := arrV (cA 0) k1 (fun j => Value.int (Int32.ofInt (f1 j)))) (srcPos := Int32.ofInt 0) (destPos := Int32.ofInt 0) (n := Int32.ofInt n) (by rw [hT]; exact b4.2) (by rw [hT]; exact a4.2)
            (fun _ z => by cases z) (fun _ z => by cases z) (fun z => by cases z) (fun z => by cases z) hkA hkA hkk hkk rfl z1 z1 i1
            (by rw [e0, en, arrV_size]; omega) (by rw [e0, en, arrV_size]; omega)
            (fun vm₁ _ i hi => by
              have ev : (arrV (cA 0) k0 (fun j => Value.int (Int32.ofInt (f0 j)))).slots.getD ((Int32.ofInt 0).toNatClampNeg + i) .null = .int (Int32.ofInt (f0 ((Int32.ofInt 0).toNatClampNeg + i))) := by
                rw [i2] at hi
                rw [Array.getD_eq_getD_getElem?, arrV_read _ _ (by rw [z2]; simp; omega)]
                rfl
              rw [ev]
              exact ⟨rfl, trivial⟩)
            (g := F0 m pc ls [.int (Int32.ofInt n), .int (Int32.ofInt 0), .ref (bs + a), .int (Int32.ofInt 0), .ref (bs + a0)]) rfl (by rw [hml]; exact hI.1.2.1) (rest := []) rfl (by rw [hb]; exact hd) (Nat.le_trans w1 hfr) (by show 2 * 0 + 0 + (nativeFrameWords "java/lang/System" "arraycopy" 5 + 11) ≤ R.locals; have : nativeFrameWords "java/lang/System" "arraycopy" 5 = 7 := (by decide +kernel); omega)
          have e1 : copied (arrV (cA 0) k0 (fun j => Value.int (Int32.ofInt (f0 j)))) (arrV (cA 0) k1 (fun j => Value.int (Int32.ofInt (f1 j)))) (Int32.ofInt 0) (Int32.ofInt 0) (Int32.ofInt n) = arrV (cA 0) k1 (fun j => Value.int (Int32.ofInt (if j < n.toNat then f0 j else f1 j))) := by
            have hv := va_copied (fun z => Value.int z) (cA 0) (cA 0) (n0 := k0) (n1 := k1) (sp := 0) (dp := 0) (n := n.toNat) (fun j => Int32.ofInt (f0 j)) (fun j => Int32.ofInt (f1 j)) (by omega)
            have hv2 : copied (arrV (cA 0) k0 (fun j => Value.int (Int32.ofInt (f0 j)))) (arrV (cA 0) k1 (fun j => Value.int (Int32.ofInt (f1 j)))) (Int32.ofInt 0) (Int32.ofInt 0) (Int32.ofInt n) = (arrV (cA 0) k1 (fun j => Value.int (Int32.ofInt (f1 j)))).storeRun 0 ((arrV (cA 0) k0 (fun j => Value.int (Int32.ofInt (f0 j)))).stretch 0 n.toNat) := by
              show (arrV _ _ _).storeRun (Int32.ofInt 0).toNatClampNeg ((arrV _ _ _).stretch (Int32.ofInt 0).toNatClampNeg (Int32.ofInt n).toNatClampNeg) = _
              rw [i2, z2]; rfl
            rw [hv2, hv]
            congr 1
            funext j
            simp only [va_cpy]
            by_cases hj : j < n.toNat
            · simp [hj]
            · simp [hj]
          rw [e1] at X' step
          have hal : bs + a < T.heap.size := by rw [hT, hI.2.1.2.1]; omega
          obtain ⟨t, y1, y2⟩ := kk ls ((T.setVm vm').setCell (bs + a) (arrV (cA 0) k1 (fun j => Value.int (Int32.ofInt (if j < n.toNat then f0 j else f1 j))))).heap _ ⟨hI.1, hI.2.1.put (c' := cI 0 k1 (fun j => if j < n.toNat then f0 j else f1 j)) a1 a2 (by rw [size_setCell]; show T.heap.size = _; rw [hT]) (fun q hq => by rw [heapAt_setCell_ne _ (Ne.symm hq)]; show T.heap[q]? = _; rw [hT]) ⟨Nat.le_of_ble_eq_true rfl, heapAt_setCell_self _ hal⟩, fun w hw => by
              rcases List.mem_append.mp hw with w1 | w1
              · exact hI.2.2.1 w w1
              · obtain ⟨z, -, hz⟩ := List.mem_map.mp w1
                rw [← hz]
                show bs < bs + a
                omega, hI.2.2.2⟩ _ rfl X'
          exact ⟨t, step t y1, y2⟩
        · cases hx
      · cases hx
    · cases hx
  · rename_i y0 hst
    split at hx
    · rename_i y x r
      split at hx
      · rename_i hq
        obtain ⟨hl, hr, w1, w2, hrx, hry⟩ := hq
        subst hl
        obtain rfl := (Sum.inl.inj (Option.some.inj hx)).symm
        obtain ⟨pl, hok⟩ := am_st_ok hst
        simp only [am_okS, am_ok10, Bool.and_eq_true, decide_eq_true_eq] at hok
        obtain ⟨⟨⟨o1, o2⟩, o3⟩, o4⟩ := hok
        have k2 := kk ls H locs hI
        have hR1 : h.2.1 - n0 ≤ R.cells := hR.1
        have hR2 : h.2.2 - z0 ≤ R.slots := hR.2
        have hsum := am_sum (bs := bs) (b := b) hr
        simp only [List.map_cons, am_cv] at k2 ⊢
        refine va_mmax hex hb (by rw [hml]; exact hI.1.2.1.symm) hown (hts _ (am_pG o1 rfl)) (hts _ (am_pG o2 rfl)) (hts _ (am_pG o3 rfl)) (hts _ (am_pG o4 rfl)) (Nat.le_trans w1 hfr) (by omega) hR1 hR2 hd ?_
        rw [show (if Int32.ofInt x < Int32.ofInt y then Int32.ofInt y else Int32.ofInt x) = Int32.ofInt (if x < y then y else x) by
          by_cases z : x < y
          · rw [if_pos z, if_pos ((am_lt32 hrx hry).mpr z)]
          · rw [if_neg z, if_neg (fun u => z ((am_lt32 hrx hry).mp u))]]
        exact k2
      · cases hx
    · cases hx
  · rename_i y0 hst
    split at hx
    · rename_i y x r
      split at hx
      · rename_i hq
        obtain ⟨hl, hr, w1, w2, hrx, hry⟩ := hq
        subst hl
        obtain rfl := (Sum.inl.inj (Option.some.inj hx)).symm
        obtain ⟨pl, hok⟩ := am_st_ok hst
        simp only [am_okS, am_ok11, Bool.and_eq_true, decide_eq_true_eq] at hok
        obtain ⟨⟨⟨o1, o2⟩, o3⟩, o4⟩ := hok
        have k2 := kk ls H locs hI
        have hR1 : h.2.1 - n0 ≤ R.cells := hR.1
        have hR2 : h.2.2 - z0 ≤ R.slots := hR.2
        have hsum := am_sum (bs := bs) (b := b) hr
        simp only [List.map_cons, am_cv] at k2 ⊢
        refine va_mmin hex hb (by rw [hml]; exact hI.1.2.1.symm) hown (hts _ (am_pG o1 rfl)) (hts _ (am_pG o2 rfl)) (hts _ (am_pG o3 rfl)) (hts _ (am_pG o4 rfl)) (Nat.le_trans w1 hfr) (by omega) hR1 hR2 hd ?_
        rw [show (if Int32.ofInt y < Int32.ofInt x then Int32.ofInt y else Int32.ofInt x) = Int32.ofInt (if y < x then y else x) by
          by_cases z : y < x
          · rw [if_pos z, if_pos ((am_lt32 hry hrx).mpr z)]
          · rw [if_neg z, if_neg (fun u => z ((am_lt32 hry hrx).mp u))]]
        exact k2
      · cases hx
    · cases hx
  · cases hx
theorem sd_invokevirtual (idx : Nat) : am_SD (.invokevirtual idx) := by
  intro p l e R s m args below meth c Q bs b cA D scr M n0 z0 pc len la st h q ls H locs CX hd hx hI hR kk
  simp only [am_ex] at hx
  split at hx
  · split at hx
    · exact absurd hx (am_call_no (q := .inl q))
    · cases hx
  · split at hx
    · split at hx
      · exact absurd hx (am_call_no (q := .inl q))
      · cases hx
    · cases hx
  · cases hx
theorem sd_invokespecial (idx : Nat) : am_SD (.invokespecial idx) := by
  intro p l e R s m args below meth c Q bs b cA D scr M n0 z0 pc len la st h q ls H locs CX hd hx hI hR kk
  obtain ⟨hex, hb, hml, hown, hts, hK, hfr, hlo, hin⟩ := CX
  simp only [am_ex] at hx
  split at hx
  · split at hx
    · exact absurd hx (am_call_no (q := .inl q))
    · cases hx
  · split at hx
    · exact absurd hx (am_call_no (q := .inl q))
    · cases hx
  · split at hx
    · exact absurd hx (am_call_no (q := .inl q))
    · cases hx
  · rename_i y hst
    split at hx
    · rename_i a r
      split at hx
      · rename_i hq
        obtain ⟨hl, hr, w1, w2⟩ := hq
        subst hl
        obtain rfl := (Sum.inl.inj (Option.some.inj hx)).symm
        obtain ⟨pl, hok⟩ := am_st_ok hst
        simp only [am_okS, am_ok8, Bool.and_eq_true, decide_eq_true_eq] at hok
        obtain ⟨⟨o1, o2⟩, o3⟩ := hok
        have hsum := am_sum (bs := bs) (b := b) hr
        simp only [List.map_cons, am_cv]
        exact W.objInit hex hb hown (hts _ (am_pG o1 rfl)) (hts _ (am_pG o2 rfl)) (hts _ (am_pG o3 rfl)) rfl (by rw [hml]; exact hI.1.2.1) rfl hd (Nat.le_trans w1 hfr) (by have e : (F0 m pc ls (Value.ref (am_ad bs b a) :: r.map (am_cv bs b))).monitorRoom = 0 := rfl; rw [e]; omega) (kk ls H locs hI)
      · cases hx
    · cases hx
  · cases hx
end
section
/-! Soundness of a run -/
theorem am_to_h {pc : Nat} {off : Int} {ls st : List am_V} {h : am_H} {q : Nat × List am_V × List am_V × am_H} (hx : am_to pc off ls st h = some (.inl q)) : q.2.2.2 = h := by
  have := (am_to_spec hx).1
  rw [this]
theorem am_to_no {pc : Nat} {off : Int} {ls st : List am_V} {h : am_H} {q : Option am_V ⊕ (Nat × List am_V × List am_V)} : am_to pc off ls st h ≠ some (.inr q) := by
  unfold am_to
  split <;> intro z <;> cases z
set_option maxHeartbeats 4000000 in
theorem am_ex_mono {M pc len : Nat} {ins : Instr} {ls st : List am_V} {h : am_H} {q : Nat × List am_V × List am_V × am_H} (hx : am_ex M pc ins len ls st h = some (.inl q)) : h.2.1 ≤ q.2.2.2.2.1 ∧ h.2.2 ≤ q.2.2.2.2.2 := by
  unfold am_ex at hx
  split at hx
  all_goals (repeat' split at hx)
  all_goals first
    | (cases hx; done)
    | exact absurd hx (am_call_no (q := .inl q))
    | (have e := am_to_h hx; rw [e]; exact ⟨Nat.le_refl _, Nat.le_refl _⟩)
    | (obtain rfl := (Sum.inl.inj (Option.some.inj hx)).symm; exact ⟨Nat.le_refl _, Nat.le_refl _⟩)
    | (obtain rfl := (Sum.inl.inj (Option.some.inj hx)).symm; exact ⟨Nat.le_succ _, Nat.le_add_right _ _⟩)
theorem am_nx_of {M pc : Nat} {ls st : List am_V} {h : am_H} {x : am_N} (hx : am_nx M pc ls st h = some x) : ∃ ins len, decode (am_by M) pc = .ok (ins, len) ∧ am_ex M pc ins len ls st h = some x := by
  unfold am_nx at hx
  split at hx
  · rename_i ins len hd
    exact ⟨ins, len, hd, hx⟩
  · cases hx
theorem am_run_up : ∀ (f M pc : Nat) (ls st : List am_V) (h : am_H) (r : Option am_V) (h' : am_H), am_run f M pc ls st h = some (r, h') → h.2.1 ≤ h'.2.1 ∧ h.2.2 ≤ h'.2.2 := by
  intro f
  induction f with
  | zero => intro M pc ls st h r h' hr; simp [am_run] at hr
  | succ f ih =>
    intro M pc ls st h r h' hr
    rw [am_run] at hr
    cases hn : am_nx M pc ls st h with
    | none => rw [hn] at hr; simp at hr
    | some q =>
      rw [hn] at hr
      rcases q with q | q | q
      · simp only at hr
        obtain ⟨ins, len, hd, hx⟩ := am_nx_of hn
        have h1 := am_ex_mono hx
        have h2 := ih _ _ _ _ _ _ _ hr
        omega
      · simp only [Option.some.injEq, Prod.mk.injEq] at hr
        rw [hr.2]
        exact ⟨Nat.le_refl _, Nat.le_refl _⟩
      · simp only at hr
        cases hc : am_run f q.1 0 (am_il q.1 q.2.1) [] h with
        | none => rw [hc] at hr; simp at hr
        | some S =>
          rw [hc] at hr
          simp only at hr
          have h1 := ih _ _ _ _ _ S.1 S.2 hc
          have h2 := ih _ _ _ _ _ _ _ hr
          omega
set_option maxHeartbeats 4000000 in
theorem am_sd_all {M pc len : Nat} {ins : Instr} {ls st : List am_V} {h : am_H} {q : Nat × List am_V × List am_V × am_H} (hx : am_ex M pc ins len ls st h = some (.inl q)) : am_SD ins := by
  cases ins with
  | iconst i => exact sd_iconst i
  | bipush i => exact sd_bipush i
  | sipush i => exact sd_sipush i
  | lconst i => exact sd_lconst i
  | ldc i => exact sd_ldc i
  | ldc_w i => exact sd_ldc_w i
  | ldc2_w i => exact sd_ldc2_w i
  | iload_n i => exact sd_iload_n i
  | iload i => exact sd_iload i
  | aload_n i => exact sd_aload_n i
  | aload i => exact sd_aload i
  | istore_n i => exact sd_istore_n i
  | istore i => exact sd_istore i
  | astore_n i => exact sd_astore_n i
  | astore i => exact sd_astore i
  | iinc i n => exact sd_iinc i n
  | iadd => exact sd_iadd
  | isub => exact sd_isub
  | imul => exact sd_imul
  | idiv => exact sd_idiv
  | irem => exact sd_irem
  | ineg => exact sd_ineg
  | iand => exact sd_iand
  | ior => exact sd_ior
  | ishl => exact sd_ishl
  | ishr => exact sd_ishr
  | iushr => exact sd_iushr
  | ladd => exact sd_ladd
  | lcmp => exact sd_lcmp
  | dup => exact sd_dup
  | pop => exact sd_pop
  | dup2 => exact sd_dup2
  | ifCond c off => exact sd_ifCond c off
  | if_icmp c off => exact sd_if_icmp c off
  | goto off => exact sd_goto off
  | tableswitch d lo hi offs => exact sd_tableswitch d lo hi offs
  | lookupswitch d ps => exact sd_lookupswitch d ps
  | getfield i => exact sd_getfield i
  | putfield i => exact sd_putfield i
  | iaload => exact sd_iaload
  | iastore => exact sd_iastore
  | baload => exact sd_baload
  | bastore => exact sd_bastore
  | aaload => exact sd_aaload
  | aastore => exact sd_aastore
  | arraylength => exact sd_arraylength
  | newarray t => exact sd_newarray t
  | anewarray i => exact sd_anewarray i
  | new i => exact sd_new i
  | invokestatic i => exact sd_invokestatic i
  | invokevirtual i => exact sd_invokevirtual i
  | invokespecial i => exact sd_invokespecial i
  | ireturn =>
    exfalso
    simp only [am_ex] at hx
    (repeat' split at hx) <;> cases hx
  | lreturn =>
    exfalso
    simp only [am_ex] at hx
    (repeat' split at hx) <;> cases hx
  | return_ =>
    exfalso
    simp only [am_ex] at hx
    (repeat' split at hx) <;> cases hx
  | _ => simp [am_ex] at hx
set_option maxHeartbeats 4000000 in
theorem am_sc_all {M pc len : Nat} {ins : Instr} {ls st : List am_V} {h : am_H} {q : Nat × List am_V × List am_V} (hx : am_ex M pc ins len ls st h = some (.inr (.inr q))) : am_SC ins ∧ am_call M q.1 st = some (.inr (.inr q)) := by
  have key : ∀ {Y : Nat}, am_call M Y st = some (.inr (.inr q)) → am_call M q.1 st = some (.inr (.inr q)) := fun {Y} hc => by
    rw [(am_call_spec hc).1]; exact hc
  unfold am_ex at hx
  split at hx
  all_goals (repeat' split at hx)
  all_goals first
    | (cases hx; done)
    | exact absurd hx am_to_no
    | exact ⟨sc_invokestatic _, key hx⟩
    | exact ⟨sc_invokevirtual _, key hx⟩
    | exact ⟨sc_invokespecial _, key hx⟩
/-- the frame with which a method begins -/
theorem am_sl1 (bs b : Nat) : ∀ (as : List am_V), as.all am_ir = true → lg_sl (as.map (am_cv bs b)) = as.map (fun v => Slot.val (am_cv bs b v))
  | [], _ => rfl
  | v :: as, h => by
    simp only [List.all_cons, Bool.and_eq_true] at h
    have hc : ¬ (am_cv bs b v).category = 2 := by
      rcases v with v | v | v | v
      · simp [am_cv, Value.category]
      · simp [am_ir] at h
      · cases v <;> simp [am_cv, Value.category]
      · simp [am_ir] at h
    have ih := am_sl1 bs b as h.2
    simp only [lg_sl, List.map_cons, List.flatMap_cons] at ih ⊢
    rw [if_neg hc, ih]
    rfl
theorem am_entry (bs b : Nat) {Y : Nat} {as : List am_V} (ha : as.all am_ir = true) (hn : as.length ≤ am_ml Y) : am_LR bs b (am_il Y as) ((lg_sl (as.map (am_cv bs b)) ++ List.replicate (am_ml Y - (lg_sl (as.map (am_cv bs b))).length) Slot.unset).toArray) (am_ml Y) := by
  have e1 := am_sl1 bs b as ha
  have e2 : (lg_sl (as.map (am_cv bs b))).length = as.length := by rw [e1, List.length_map]
  obtain ⟨h1, h2, -⟩ := lv_entry (as.map (am_cv bs b)) (n := am_ml Y) (by rw [e2]; exact hn)
  refine ⟨by simp [am_il]; omega, h1, h2, fun k v hk hv => ?_⟩
  have hlt : k < as.length := by
    rcases Nat.lt_or_ge k as.length with z | z
    · exact z
    · unfold am_il at hk
      rw [List.getElem?_append_right z] at hk
      have := List.eq_of_mem_replicate (List.mem_of_getElem? hk)
      rw [this] at hv
      cases hv
  unfold am_il at hk
  rw [List.getElem?_append_left hlt] at hk
  rw [List.getElem?_toArray, List.getElem?_append_left (by rw [e2]; exact hlt), e1, List.getElem?_map, hk]
  rfl
/-- what stands at a return, so that the run goes on to the end -/
def am_RT (p : Program) (l : Launch) (e : Env) (R : Room) (s : State) (m : MethodId) (args : Array Value) (below : List Frame) (meth : Method) (c : Code) (Q : State → Prop) (bs b : Nat) (cA : Nat → ClassId) (D : va_G) (scr : Cell) (M n0 z0 : Nat) (r : Option am_V) (h : am_H) : Prop :=
  ∀ (pc len : Nat) (ins : Instr) (la st : List am_V) (ls : Array Slot) (H : Heap) (locs : List Loc), decode (am_by M) pc = .ok (ins, len) → am_ex M pc ins len la st h = some (.inr (.inl r)) → am_I bs b cA D scr M n0 z0 h H locs la ls → W p l e R s m args below meth c H locs (h.2.1 - n0) (h.2.2 - z0) Q (F0 m pc ls (st.map (am_cv bs b)))
set_option maxHeartbeats 4000000 in
theorem am_rt_met {p : Program} {l : Launch} {e : Env} {R : Room} {s : State} {m : MethodId} {args : Array Value} {below : List Frame} {meth : Method} {c : Code} {bs b : Nat} {cA : Nat → ClassId} {D : va_G} {scr : Cell} {M n0 z0 : Nat} {r : Option am_V} {h : am_H} (hex : p.tables.exec = Jvm.exec) (hb : c.code = am_by M) (hr : meth.sig.returnType = am_rt M) (hlocks : meth.locks = false) :
    am_RT p l e R s m args below meth c (MQ below (am_Qc bs b cA D scr r h) args s (h.2.1 - n0) (h.2.2 - z0) (fun q => bs < q)) bs b cA D scr M n0 z0 r h := by
  intro pc len ins la st ls H locs hd hx hI
  have hq : ∀ t : State, t.heap = H → s.WarmedH t.vm → am_Qc bs b cA D scr r h args s (.returned (r.map (am_cv bs b))) t := fun t ht _ => ⟨rfl, by rw [ht]; exact hI.2.1⟩
  unfold am_ex at hx
  split at hx
  all_goals (repeat' split at hx)
  all_goals first
    | (cases hx; done)
    | exact absurd hx am_to_no
    | exact absurd hx (am_call_no (q := .inr r))
    | skip
  · rename_i x hz
    obtain rfl := (Sum.inl.inj (Sum.inr.inj (Option.some.inj hx))).symm
    obtain ⟨hl, hz⟩ := hz
    subst hl
    rcases hz with hz | ⟨hz, hx01⟩
    · exact W.zret (ty := .int) hex hb (by rw [hr]; exact hz) rfl hq hI.2.2.1 hd hlocks
    · refine W.zret (ty := .boolean) hex hb (by rw [hr]; exact hz) ?_ hq hI.2.2.1 hd hlocks
      rcases hx01 with z | z <;> subst z <;> decide +kernel
  · rename_i x hz
    obtain rfl := (Sum.inl.inj (Sum.inr.inj (Option.some.inj hx))).symm
    obtain ⟨hl, hz⟩ := hz
    subst hl
    exact W.lret hex hb (by rw [hr]; exact hz) hq hI.2.2.1 hd hlocks
  · rename_i hz
    obtain rfl := (Sum.inl.inj (Sum.inr.inj (Option.some.inj hx))).symm
    obtain ⟨hl, hz⟩ := hz
    subst hl
    exact W.vret hex hb (by rw [hr]; exact hz) hq hI.2.2.1 hd hlocks
set_option maxHeartbeats 4000000 in
/-- THE RUN: what the small machine comes to, the machine comes to -/
theorem am_sound (l : Launch) (bs b : Nat) (cA : Nat → ClassId) (D : va_G) (scr : Cell) : ∀ (f M pc : Nat) (la st : List am_V) (h : am_H) (r : Option am_V) (h' : am_H), am_run f M pc la st h = some (r, h') →
    ∀ (p : Program) (e : Env) (R : Room) (s : State) (m : MethodId) (args : Array Value) (below : List Frame) (meth : Method) (c : Code) (Q : State → Prop) (n0 z0 : Nat) (ls : Array Slot) (H : Heap) (locs : List Loc),
      am_CX p R s m args meth c cA D scr M → am_I bs b cA D scr M n0 z0 h H locs la ls → h'.2.1 - n0 ≤ R.cells ∧ h'.2.2 - z0 ≤ R.slots → am_RT p l e R s m args below meth c Q bs b cA D scr M n0 z0 r h' →
      W p l e R s m args below meth c H locs (h.2.1 - n0) (h.2.2 - z0) Q (F0 m pc ls (st.map (am_cv bs b))) := by
  intro f
  induction f with
  | zero => intro M pc la st h r h' hr; simp [am_run] at hr
  | succ f ih =>
    intro M pc la st h r h' hr p e R s m args below meth c Q n0 z0 ls H locs CX hI hR hT
    rw [am_run] at hr
    cases hn : am_nx M pc la st h with
    | none => rw [hn] at hr; simp at hr
    | some q =>
      rw [hn] at hr
      obtain ⟨ins, len, hd, hx⟩ := am_nx_of hn
      rcases q with q | q | q
      · simp only at hr
        have hup := am_run_up _ _ _ _ _ _ _ _ hr
        refine am_sd_all hx p l e R s m args below meth c Q bs b cA D scr M n0 z0 pc len la st h q ls H locs CX hd hx hI (by omega) (fun ls' H' locs' hI' => ?_)
        exact ih _ _ _ _ _ _ _ hr p e R s m args below meth c Q n0 z0 ls' H' locs' CX hI' hR hT
      · simp only [Option.some.injEq, Prod.mk.injEq] at hr
        obtain ⟨rfl, rfl⟩ := hr
        exact hT pc len ins la st ls H locs hd hx hI
      · simp only at hr
        cases hc : am_run f q.1 0 (am_il q.1 q.2.1) [] h with
        | none => rw [hc] at hr; simp at hr
        | some S =>
          rw [hc] at hr
          simp only at hr
          obtain ⟨r1, h1⟩ := S
          have hup1 := am_run_up _ _ _ _ _ _ _ _ hc
          have hup2 := am_run_up _ _ _ _ _ _ _ _ hr
          simp only at hr hup1 hup2
          obtain ⟨hsc, hcall⟩ := am_sc_all hx
          obtain ⟨-, c1, c2, c3, c4, c5, c6, c7, c8, c9⟩ := am_call_spec hcall
          have hmet : am_Met l bs b cA D scr q.1 q.2.1 h r1 h1 := by
            refine Met.ofW (cc := am_by q.1) (maxL := am_ml q.1) (ret := am_rt q.1) (am_okMs c8).2.2.1 rfl ?_
            intro p e s m args below meth c s₁ B hml hv
            obtain ⟨rfl, hw, hk⟩ := hv
            have hts := atoms_spec (ws := am_mw q.1) B.pre
            have hown : s.vm.findClass (am_y q.1).cls = some m.cls := findClass_of_methodNamed B.named
            rw [(am_okMs c8).2.2.2.2.2] at hown
            have hnm : meth.name = (am_y q.1).name := (name_of_methodNamed B.named B.method).1
            have key := ih _ _ _ _ _ _ _ hc p e (headSpec (am_mw q.1) (am_ro q.1 (h1.2.1 - h.2.1) (h1.2.2 - h.2.2))).room s m (q.2.1.map (am_cv bs b)).toArray below meth c (MQ below (am_Qc bs b cA D scr r1 h1) (q.2.1.map (am_cv bs b)).toArray s (h1.2.1 - h.2.1) (h1.2.2 - h.2.2) (fun q => bs < q)) h.2.1 h.2.2 _ s.heap []
              ⟨B.exec, B.bytes, hml, hown, fun w hw => hts w (List.mem_cons_of_mem _ hw), hk, Nat.le_refl _, Nat.le_refl _, fun z => by rw [hnm]; exact z⟩
              ⟨am_entry bs b c4 (by rw [c1]; exact c5), hw, fun q hq => (by cases hq), Nat.le_refl _, Nat.le_refl _⟩ ⟨Nat.le_refl _, Nat.le_refl _⟩
              (am_rt_met B.exec B.bytes B.returns B.notSynchronized)
            rw [lg_entry_eq]
            simpa only [Nat.sub_self, List.map_nil] using key
          refine hsc p l e R s m args below meth c Q bs b cA D scr M n0 z0 pc len la st h q r1 h1 ls H locs CX hd hx hI hup1.1 hup1.2 (by omega) hmet (fun H' locs' hI' => ?_)
          exact ih _ _ _ _ _ _ _ hr p e R s m args below meth c Q n0 z0 ls H' locs' CX hI' hR hT
end
section
/-! From the small machine's law to the claim -/
def am_h0 (L : Nat) (f : Nat → Int) : am_H := (fun a => if a = 0 then cI 9 L f else cI 8 0 (fun _ => 0), 1, 0)
theorem law_ok (L : Nat) (f : Nat → Int) (hL : L ≤ 2560) (hf : ∀ j, -2147483648 ≤ f j ∧ f j < 2147483648) : ∃ h' : am_H, gv mLaw_law 0 [vR 0, vU, vU, vU] [] (am_h0 L f) = some (some (vI 1), h') ∧ h'.2.1 ≤ 1000 ∧ h'.2.2 ≤ 10000 := sorry
end
section
/-! THE CLAIM OUT OF ONE WALK OF THE LAW'S BODY. Your part is whole_start (and what it stands on); all else here is the same for every law, but numbers. -/
def R_law : String := "CellNeighboursLaw"
def lw_P (b : Addr) (xs : List Int32) (args : Array Value) (s : State) : Prop := args = #[.ref b] ∧ s.IntsAt b xs ∧ xs.length ≤ 2560 ∧ (Jvm.Cond.and given_1 narrow_1).before args s = true
def lw_Q (_ : Array Value) (s : State) (o : Outcome) (t : State) : Prop := o = .returned (some (.int 1)) ∧ Framed s o t [] 600000 7302250
def lw_Z (below : List Frame) (a : Array Value) (s : State) : State → Prop := fun t => ∃ o, t.status = .running ∧ Ended t below o ∧ lw_Q a s o t
/-- the law's own end, with 1 on the stack, nothing written that was there before, its room as the claim has it -/
theorem lw_ret {p : Program} {l : Launch} {e : Env} {s : State} {m : MethodId} {below : List Frame} {meth : Method} {c : Code} {b : Nat} (hx : p.tables.exec = Jvm.exec) (hb : c.code = code) (hr : meth.sig.returnType = ret) (hlocks : meth.locks = false) {pc : Nat} {H : Heap} {ls : Array Slot} (hdg : decode code pc = .ok (.ireturn, 1)) : W p l e room_1 s m #[Value.ref b] below meth c H [] 600000 7302250 (lw_Z below #[Value.ref b] s) (F0 m pc ls [.int 1]) := by
  intro T hT X
  obtain ⟨fs, hret, hrun, hended, hW, hframe⟩ := X.leave (v := some (.int 1)) (hlocks := hlocks) (fun h => by rw [hr] at h; cases h)
  have hmeth' : T.vm.method? m = some meth := X.method'
  refine ⟨T.setFrames fs, ?_, .returned (some (.int 1)), hrun, hended, rfl, ⟨_, rfl⟩, hW, hframe⟩
  jvm_step X.here [X.here.top, hx, hb, hdg, hmeth', hr, ret, narrow_b1]
  (try refine ⟨rfl, ?_⟩); (try refine ⟨rfl, ?_⟩)
  first | (intro acts; rw [hret _ acts rfl rfl rfl]) | rw [hret _ _ rfl rfl rfl]
  exact Steps.refl _
/-- what holds at the law's entry: the machine, the code, the tables' words (any of lw_tbl by 'hts w (by decide +kernel)'), the script of L ints xs at the cell b, what the Statement gives of the start (any of its parts by flat_of_before) -/
def lw_At (p : Program) (s : State) (m : MethodId) (meth : Method) (c : Code) (b L : Nat) (xs : Nat → Int32) : Prop :=
  p.tables.exec = Jvm.exec ∧ c.code = code ∧ meth.sig.returnType = ret ∧ c.maxLocals = 4 ∧ s.vm.findClass R_law = some m.cls ∧ (∀ w ∈ lw_tbl, w.before #[Value.ref b] s = true) ∧ va_X b L xs s s.heap ∧ b < s.heap.size ∧ meth.locks = false ∧ (Jvm.Cond.and given_1 narrow_1).before #[Value.ref b] s = true
theorem am_kw_of {s : State} {args : Array Value} {scr : Cell} (hts : ∀ w ∈ lw_tbl, w.before args s = true) (h1 : s.isArrayOf scr .int) (h2 : scr.vm ≠ .unknown) : ∃ (cA : Nat → ClassId) (D : va_G), am_KW cA D scr s := by
  have hG : ∀ w ∈ am_GW, w.before args s = true := fun w hw => hts w (List.mem_filter.mp hw).1
  have hcl : ∀ ci, ∃ x : ClassId × (Nat → Nat), ci < 13 → u_Kn s (am_cn ci) (am_T ci) (am_nf ci) x.1 x.2 := by
    intro ci
    by_cases hci : ci < 13
    · obtain ⟨c0, iS, hk⟩ := u_known (C := am_cn ci) (T := am_T ci) (N := am_nf ci) hG (am_uw hci) (hG _ (am_ins hci).1)
      exact ⟨(c0, iS), fun _ => hk⟩
    · exact ⟨(0, fun _ => 0), fun z => absurd z hci⟩
  obtain ⟨kI, ckI, compI, i1, i2, i3⟩ := Cond.arrayClass_spec (hG _ am_arrG.1)
  obtain ⟨kZ, ckZ, compZ, z1, z2, z3⟩ := Cond.arrayClass_spec (hG _ am_arrG.2)
  have a5 : Cond.arrayOver (.object RX5) ∈ lw_tbl := List.mem_of_getElem? (i := 166) (by decide +kernel)
  have a3 : Cond.arrayOver (.object RX3) ∈ lw_tbl := List.mem_of_getElem? (i := 223) (by decide +kernel)
  obtain ⟨comp5, c5, k5, s1, s2, s3, s4, s5⟩ := Cond.arrayOver_spec (hts _ a5)
  obtain ⟨comp3, c3, k3, t1, t2, t3, t4, t5⟩ := Cond.arrayOver_spec (hts _ a3)
  refine ⟨fun t => if t = 0 then kI else if t = 1 then kZ else if t = 2 then c5 else c3, (fun ci => (hcl ci).choose.1, fun ci => (hcl ci).choose.2), ⟨fun ci q hq => ?_, fun k q hq => ?_⟩, fun i hi w hw => ?_, va_AO.of (hts _ a5), va_AO.of (hts _ a3), h1, h2⟩
  · have hci : ci < 13 := (List.getElem?_eq_some_iff.mp hq).1
    rw [am_cl13 ci hci] at hq
    cases hq
    exact (hcl ci).choose_spec hci
  · match k, hq with
    | 0, hq => cases hq; exact ⟨fun n z => ⟨fun k h => (by cases h), ckI, i2, compI, i3⟩, i1⟩
    | 1, hq => cases hq; exact ⟨fun n z => ⟨fun k h => (by cases h), ckZ, z2, compZ, z3⟩, z1⟩
    | 2, hq => cases hq; exact ⟨fun n z => ⟨fun k h => (by cases h), k5, s3, comp5, s4⟩, k5, comp5, s3, s4, s1, s5⟩
    | 3, hq => cases hq; exact ⟨fun n z => ⟨fun k h => (by cases h), k3, t3, comp3, t4⟩, k3, comp3, t3, t4, t1, t5⟩
    | n + 4, hq => simp at hq
  · have hk := List.all_eq_true.mp am_NW_ok i hi
    rw [hw] at hk
    have hz := hts w (List.mem_of_getElem? hw)
    cases w with
    | methodLinkNest a j y q => exact va_Nw.of rfl hz
    | castable a q => exact va_Nw.of rfl hz
    | _ => simp at hk
set_option maxHeartbeats 4000000 in
set_option maxRecDepth 100000 in
/-- YOUR PART: from the entry, for every script of at most 2560 ints, the law comes to its end with true ('hflags': the launch's flags, for a law that throws: no stack traces) -/
theorem whole_start {p : Program} {e : Env} {s : State} {m : MethodId} {below : List Frame} {meth : Method} {c : Code} (l : Launch) (hflags : l.flags = flags0) {b L : Nat} {xs : Nat → Int32} (hL : L ≤ 2560) (C0 : lw_At p s m meth c b L xs) : W p l e room_1 s m #[Value.ref b] below meth c s.heap [] 0 0 (lw_Z below #[Value.ref b] s) (entryFrame m ([Value.ref b] : List Value).toArray 4) := by
  obtain ⟨hx, hb, hr, hml, hown, hts, hX, hbl, hlocks, hgv⟩ := id C0
  obtain ⟨scr, x1, x2, x3, x4, x5⟩ := hX
  obtain ⟨cA, D, hK⟩ := am_kw_of hts x2 x3
  obtain ⟨h', hv, hn, hz⟩ := law_ok L (fun j => (xs j).toInt) hL (fun j => am_r32 _)
  obtain ⟨f, hf⟩ := gv_some.mp hv
  have eby : am_by mLaw_law = code := rfl
  have hCX : am_CX p room_1 s m #[Value.ref b] meth c cA D scr mLaw_law := by
    refine ⟨hx, by rw [eby]; exact hb, hml, hown, fun w hw => hts w (List.mem_filter.mp hw).1, hK, Nat.le_of_ble_eq_true rfl, Nat.le_of_ble_eq_true rfl, fun z => absurd z (by decide +kernel)⟩
  have hHW : am_HW (s.heap.size - 1) b cA D scr (am_h0 L (fun j => (xs j).toInt)) s.heap := by
    refine ⟨Nat.le_refl 1, ?_, by omega, x1, ⟨fun j => (xs j).toInt, by rw [x4]; rfl, fun j hj => ?_⟩, fun a h1 h2 => ?_, fun a ha => ?_⟩
    · show s.heap.size = s.heap.size - 1 + 1
      omega
    · rw [x5 j (by rw [← x4]; exact hj), Int32.ofInt_toInt]
    · exact absurd h2 (by show ¬ a < 1; omega)
    · have ha' : 1 ≤ a := ha
      exact ⟨0, fun _ => 0, by show (if a = 0 then _ else _) = _; rw [if_neg (by omega)]⟩
  have hLR := am_entry (s.heap.size - 1) b (Y := mLaw_law) (as := [vR 0]) rfl (Nat.le_of_ble_eq_true rfl)
  rw [lg_entry_eq]
  have key := am_sound l (s.heap.size - 1) b cA D scr f mLaw_law 0 [vR 0, vU, vU, vU] [] (am_h0 L (fun j => (xs j).toInt)) (some (vI 1)) h' hf p e room_1 s m #[Value.ref b] below meth c (lw_Z below #[Value.ref b] s) 1 0 _ s.heap [] hCX ⟨hLR, hHW, fun q hq => (by cases hq), Nat.le_refl _, Nat.le_refl _⟩ ⟨?_, ?_⟩ ?_
  · exact key
  · show h'.2.1 - 1 ≤ 600000
    omega
  · show h'.2.2 - 0 ≤ 7302250
    omega
  · intro pc len ins la st ls H locs hd hxx hI
    refine va_forget (fun q hq => ?_) ?_
    · have := hI.2.2.1 q hq
      omega
    refine W.widen (k := 600000) (n := 7302250) (by omega) (by omega) ?_
    unfold am_ex at hxx
    split at hxx
    all_goals (repeat' split at hxx)
    all_goals first
      | (cases hxx; done)
      | exact absurd hxx am_to_no
      | exact absurd hxx (am_call_no (q := .inr (some (vI 1))))
      | skip
    rename_i x hz
    cases hxx
    obtain ⟨hl, hz⟩ := hz
    subst hl
    exact lw_ret hx hb hr hlocks (by rw [← eby]; exact hd)
-- ===== YOUR PART ENDS =====
set_option maxHeartbeats 4000000 in
theorem lw_walk (l : Launch) (hflags : l.flags = flags0) (b : Addr) (xs : List Int32) : MetFree l x (headSpec (Jvm.Cond.code x code maxLocals ret :: tables_1) room_1) (lw_P b xs) (fun _ _ _ _ _ => True) lw_Q := by
  refine MetFree.of_bodyS (code := code) (maxLocals := maxLocals) (ret := ret) (by decide) ?_ ?_
  · intro args s m h hn
    obtain ⟨meth, c, h1, h2, h3, h4, h5, h6, -, -⟩ := Cond.code_spec hn (atoms_spec (ws := Jvm.Cond.code x code maxLocals ret :: tables_1) h _ List.mem_cons_self)
    exact ⟨meth, c, h1, h2, h3, h4, h5, h6⟩
  · intro p e s m args below meth c s₁ B hml0 hP _
    obtain ⟨rfl, hx, hbd, hgv⟩ := hP
    obtain ⟨scr, harrAt, hlist, hof, hsmall⟩ := hx
    obtain ⟨hcb, hkn, -, -⟩ := State.arrayAt?_spec harrAt
    have hown : s.vm.findClass R_law = some m.cls := findClass_of_methodNamed B.named
    have hts0 : ∀ c ∈ (Jvm.Cond.code x code maxLocals ret :: tables_1), c.before #[Value.ref b] s = true := atoms_spec (ws := Jvm.Cond.code x code maxLocals ret :: tables_1) B.pre
    have hts : ∀ w ∈ lw_tbl, w.before #[Value.ref b] s = true := k2_hts_sels lw_privs (fun w hw => hts0 w (List.mem_cons_of_mem _ hw)) lw_privs_ok
    have hml : c.maxLocals = 4 := B.maxLocals_eq (hts0 _ List.mem_cons_self)
    have X₀ : Stand p l e room_1 s m #[Value.ref b] below meth c s₁ [] 0 0 := Stand.of_body B
    have hh0 : s₁.heap = s.heap := by rw [B.state]; rfl
    have hsz : scr.slots.size = xs.length := by rw [← Array.length_toList, hlist, List.length_map]
    have hval : ∀ j : Nat, j < xs.length → scr.slots[j]? = some (.int (xs.getD j 0)) := fun j hj => by
      rw [← Array.getElem?_toList, hlist]
      simp [hj]
    have hbl : b < s.heap.size := (Array.getElem?_eq_some_iff.mp hcb).1
    have hX : va_X b xs.length (fun j => xs.getD j 0) s s.heap := ⟨scr, hcb, hof, hkn, hsz, hval⟩
    have K : W p l e room_1 s m #[Value.ref b] below meth c s₁.heap [] 0 0 (lw_Z below #[Value.ref b] s) (entryFrame m ([Value.ref b] : List Value).toArray 4) := by
      rw [hh0]
      exact whole_start l hflags hbd ⟨B.exec, B.bytes, B.returns, hml, hown, hts, hX, hbl, B.notSynchronized, hgv⟩
    obtain ⟨t, a1, o, b1, b2, b3⟩ := K s₁ rfl X₀
    exact ⟨t, o, a1, b1, b2, b3⟩
theorem lw_pre_spec {args : Array Value} {s : State} (h : (Jvm.Cond.and given_1 narrow_1).before args s = true) (hr : rest_1_c.before args s = true) : ∃ (b : Addr) (xs : List Int32), lw_P b xs args s := by
  have hs := flat_of_before _ h
  have hq := flat_of_before _ hr
  have hc : (Cond.count 1).before args s = true := hs _ (by decide +kernel)
  have harr : (Cond.arrayOf (.arg 0) .int).before args s = true := hs _ (by decide +kernel)
  have hle : (Cond.le (.length (.arg 0)) (.int 2560)).before args s = true := hs _ (by decide +kernel)
  have hlen : (Cond.isInt (.length (.arg 0))).before args s = true := hq _ (by decide +kernel)
  have hall : (Cond.all (.arg 0) (.isInt (.elem (.arg 0) (.index 0)))).before args s = true := hq _ (by decide +kernel)
  obtain ⟨b, xs, hb, hx⟩ := State.ints_of_pre rfl harr hlen hall
  have hsm : xs.length < 2 ^ 31 := hx.choose_spec.2.2.2
  have hev : (Term.length (.arg 0)).eval args s none [] s = some (.int xs.length.toInt32) := hx.length_eval hb
  have hv := Cond.le_ints hev (show (Term.int 2560).eval args s none [] s = some (.int 2560) from rfl)
  have hd : xs.length.toInt32 ≤ 2560 := by
    simpa [Cond.before, Cond.holds, hv] using hle
  have hN : xs.length ≤ 2560 := (Int32.ofNat_le_ofNat hsm (by decide)).mp (show Int32.ofNat xs.length ≤ Int32.ofNat 2560 from hd)
  exact ⟨b, xs, Cond.one_arg hc (show args[0]? = some (.ref b) from hb), hx, hN, h⟩
theorem lw_comes (l : Launch) (hflags : l.flags = flags0) : Comes l x (Jvm.Cond.code x code maxLocals ret :: tables_1) room_1 (fun tb e args s => Calls_1 tb e args s ∧ rest_1 tb e args s ∧ Pre_1 tb e args s)
    (fun _ _ args s o t => lw_Q args s o t) := by
  intro p e ha hc hk s m args below hf hfit hheap happ hpre
  obtain ⟨b, xs, hP⟩ := lw_pre_spec hpre.2.2 hpre.2.1
  obtain ⟨k, o, h1, h2, h3, hQ⟩ := lw_walk l hflags b xs p e ha hc hk s m args below hf ((Spec.applies_iff_loose hf).mp happ).1 hP trivial
  exact ⟨k, o, h1, h2, h3, hQ⟩
theorem lw_frame {s t : State} {o : Outcome} {args : Array Value} (h : Framed s o t [] 600000 7302250) :
    Framed s o t (fieldLocs frame_1_writes args s ++ arrayLocs frame_1_arrays args s ++ staticLocs frame_1_statics s) 600000 7302250 := h
theorem lw_limb (L : Cond) (hL : ∀ (args : Array Value) (s t : State), L.after args s (.returned (some (.int 1))) t = true) :
    ArmFor flags0 classFile x code maxLocals ret World_1 tables_1 room_1 Calls_1 rest_1 Pre_1
      (fun tb e a s o t => postC L tb e a s o t ∧ Framed s o t (fieldLocs frame_1_writes a s ++ arrayLocs frame_1_arrays a s ++ staticLocs frame_1_statics s) 600000 7302250) := by
  intro l hflags _ _ p e ha hc hk s m args below hf hfit hheap happ hpre
  obtain ⟨k, o, h1, h2, h3, rfl, hF⟩ := lw_comes l hflags p e ha hc hk s m args below hf hfit hheap happ hpre
  exact ⟨k, _, h1, h2, h3, hL args s _, lw_frame hF⟩
theorem i_vc : Claimed_1_1 ∧ Claimed_1_2 := ⟨lw_limb limb_1_1 (fun args s t => by simp [limb_1_1, Cond.after, Cond.holds, Cond.value]), lw_limb limb_1_2 (fun args s t => Cond.after_iff.mpr (by
  first | (rw [show limb_1_2 = Cond.eq .result (.int 1) from rfl, Cond.eq_ints (x := 1) (y := 1) rfl rfl]; simp; done) | (simp [limb_1_2, Cond.value, Term.eval]; done)))⟩
end
