section
-- ===== PART A: goes FIRST, ahead of the names: the tables' words, and 'selects' of the private methods out of them =====
/-- a private method of a class that the tables say can be made, by its rows of tables_1 -/
def lw_okq (q : MethodName × Nat) : Prop := (q.1.cls ≠ "java/lang/invoke/MethodHandle" ∧ q.1.cls ≠ "java/lang/invoke/VarHandle") ∧ Cond.instantiable q.1.cls q.2 ∈ tables_1 ∧ Cond.privateMethod q.1 ∈ tables_1 ∧ Cond.instanceMethod q.1 ∈ tables_1
theorem lw_p0 : lw_okq (⟨"BranchPredictor", "startAnew", "(III)V"⟩, 16) := ⟨⟨by decide +kernel, by decide +kernel⟩, List.mem_of_getElem? (i := 15) (by decide +kernel), List.mem_of_getElem? (i := 121) (by decide +kernel), List.mem_of_getElem? (i := 122) (by decide +kernel)⟩
theorem lw_p1 : lw_okq (⟨"BranchPredictor", "branchAt", "(I)LBranchPredictor$Branch;"⟩, 16) := ⟨⟨by decide +kernel, by decide +kernel⟩, List.mem_of_getElem? (i := 15) (by decide +kernel), List.mem_of_getElem? (i := 226) (by decide +kernel), List.mem_of_getElem? (i := 227) (by decide +kernel)⟩
theorem lw_p2 : lw_okq (⟨"java/lang/Throwable", "fillInStackTrace", "(I)Ljava/lang/Throwable;"⟩, 6) := ⟨⟨by decide +kernel, by decide +kernel⟩, List.mem_of_getElem? (i := 279) (by decide +kernel), List.mem_of_getElem? (i := 277) (by decide +kernel), List.mem_of_getElem? (i := 278) (by decide +kernel)⟩
theorem lw_p3 : lw_okq (⟨"BranchPredictor", "launch", "(I)Z"⟩, 16) := ⟨⟨by decide +kernel, by decide +kernel⟩, List.mem_of_getElem? (i := 15) (by decide +kernel), List.mem_of_getElem? (i := 338) (by decide +kernel), List.mem_of_getElem? (i := 339) (by decide +kernel)⟩
theorem lw_p4 : lw_okq (⟨"BranchPredictor", "loopPrediction", "(IZ)Z"⟩, 16) := ⟨⟨by decide +kernel, by decide +kernel⟩, List.mem_of_getElem? (i := 15) (by decide +kernel), List.mem_of_getElem? (i := 354) (by decide +kernel), List.mem_of_getElem? (i := 355) (by decide +kernel)⟩
theorem lw_p5 : lw_okq (⟨"BranchPredictor", "loopWith", "(I)I"⟩, 16) := ⟨⟨by decide +kernel, by decide +kernel⟩, List.mem_of_getElem? (i := 15) (by decide +kernel), List.mem_of_getElem? (i := 358) (by decide +kernel), List.mem_of_getElem? (i := 359) (by decide +kernel)⟩
theorem lw_p6 : lw_okq (⟨"BranchPredictor", "presumedCount", "(LBranchPredictor$Loop;)I"⟩, 16) := ⟨⟨by decide +kernel, by decide +kernel⟩, List.mem_of_getElem? (i := 15) (by decide +kernel), List.mem_of_getElem? (i := 362) (by decide +kernel), List.mem_of_getElem? (i := 363) (by decide +kernel)⟩
theorem lw_p7 : lw_okq (⟨"BranchPredictor", "appended", "(IZ)I"⟩, 16) := ⟨⟨by decide +kernel, by decide +kernel⟩, List.mem_of_getElem? (i := 15) (by decide +kernel), List.mem_of_getElem? (i := 370) (by decide +kernel), List.mem_of_getElem? (i := 371) (by decide +kernel)⟩
theorem lw_p8 : lw_okq (⟨"BranchPredictor", "requireInFlight", "(I)V"⟩, 16) := ⟨⟨by decide +kernel, by decide +kernel⟩, List.mem_of_getElem? (i := 15) (by decide +kernel), List.mem_of_getElem? (i := 382) (by decide +kernel), List.mem_of_getElem? (i := 383) (by decide +kernel)⟩
theorem lw_p9 : lw_okq (⟨"BranchPredictor", "settle", "(IZ)I"⟩, 16) := ⟨⟨by decide +kernel, by decide +kernel⟩, List.mem_of_getElem? (i := 15) (by decide +kernel), List.mem_of_getElem? (i := 403) (by decide +kernel), List.mem_of_getElem? (i := 404) (by decide +kernel)⟩
theorem lw_p10 : lw_okq (⟨"BranchPredictor", "dropFrom", "(I)I"⟩, 16) := ⟨⟨by decide +kernel, by decide +kernel⟩, List.mem_of_getElem? (i := 15) (by decide +kernel), List.mem_of_getElem? (i := 407) (by decide +kernel), List.mem_of_getElem? (i := 408) (by decide +kernel)⟩
theorem lw_p11 : lw_okq (⟨"BranchPredictor", "retire", "()Z"⟩, 16) := ⟨⟨by decide +kernel, by decide +kernel⟩, List.mem_of_getElem? (i := 15) (by decide +kernel), List.mem_of_getElem? (i := 419) (by decide +kernel), List.mem_of_getElem? (i := 420) (by decide +kernel)⟩
theorem lw_p12 : lw_okq (⟨"BranchPredictor", "countMisses", "(LBranchPredictor$Branch;Z)V"⟩, 16) := ⟨⟨by decide +kernel, by decide +kernel⟩, List.mem_of_getElem? (i := 15) (by decide +kernel), List.mem_of_getElem? (i := 423) (by decide +kernel), List.mem_of_getElem? (i := 424) (by decide +kernel)⟩
theorem lw_p13 : lw_okq (⟨"BranchPredictor", "learnChoice", "(LBranchPredictor$Branch;Z)V"⟩, 16) := ⟨⟨by decide +kernel, by decide +kernel⟩, List.mem_of_getElem? (i := 15) (by decide +kernel), List.mem_of_getElem? (i := 431) (by decide +kernel), List.mem_of_getElem? (i := 432) (by decide +kernel)⟩
theorem lw_p14 : lw_okq (⟨"BranchPredictor", "learnLoop", "(LBranchPredictor$Branch;Z)V"⟩, 16) := ⟨⟨by decide +kernel, by decide +kernel⟩, List.mem_of_getElem? (i := 15) (by decide +kernel), List.mem_of_getElem? (i := 452) (by decide +kernel), List.mem_of_getElem? (i := 453) (by decide +kernel)⟩
theorem lw_p15 : lw_okq (⟨"BranchPredictor", "numberForNewLoop", "()I"⟩, 16) := ⟨⟨by decide +kernel, by decide +kernel⟩, List.mem_of_getElem? (i := 15) (by decide +kernel), List.mem_of_getElem? (i := 461) (by decide +kernel), List.mem_of_getElem? (i := 462) (by decide +kernel)⟩
def lw_privs_1 : List (MethodName × Nat) := [(⟨"BranchPredictor", "startAnew", "(III)V"⟩, 16), (⟨"BranchPredictor", "branchAt", "(I)LBranchPredictor$Branch;"⟩, 16), (⟨"java/lang/Throwable", "fillInStackTrace", "(I)Ljava/lang/Throwable;"⟩, 6), (⟨"BranchPredictor", "launch", "(I)Z"⟩, 16), (⟨"BranchPredictor", "loopPrediction", "(IZ)Z"⟩, 16), (⟨"BranchPredictor", "loopWith", "(I)I"⟩, 16), (⟨"BranchPredictor", "presumedCount", "(LBranchPredictor$Loop;)I"⟩, 16), (⟨"BranchPredictor", "appended", "(IZ)I"⟩, 16), (⟨"BranchPredictor", "requireInFlight", "(I)V"⟩, 16), (⟨"BranchPredictor", "settle", "(IZ)I"⟩, 16), (⟨"BranchPredictor", "dropFrom", "(I)I"⟩, 16), (⟨"BranchPredictor", "retire", "()Z"⟩, 16), (⟨"BranchPredictor", "countMisses", "(LBranchPredictor$Branch;Z)V"⟩, 16), (⟨"BranchPredictor", "learnChoice", "(LBranchPredictor$Branch;Z)V"⟩, 16), (⟨"BranchPredictor", "learnLoop", "(LBranchPredictor$Branch;Z)V"⟩, 16), (⟨"BranchPredictor", "numberForNewLoop", "()I"⟩, 16)]
theorem lw_r1 : ∀ q ∈ lw_privs_1, lw_okq q := List.forall_mem_cons.mpr ⟨lw_p0, List.forall_mem_cons.mpr ⟨lw_p1, List.forall_mem_cons.mpr ⟨lw_p2, List.forall_mem_cons.mpr ⟨lw_p3, List.forall_mem_cons.mpr ⟨lw_p4, List.forall_mem_cons.mpr ⟨lw_p5, List.forall_mem_cons.mpr ⟨lw_p6, List.forall_mem_cons.mpr ⟨lw_p7, List.forall_mem_cons.mpr ⟨lw_p8, List.forall_mem_cons.mpr ⟨lw_p9, List.forall_mem_cons.mpr ⟨lw_p10, List.forall_mem_cons.mpr ⟨lw_p11, List.forall_mem_cons.mpr ⟨lw_p12, List.forall_mem_cons.mpr ⟨lw_p13, List.forall_mem_cons.mpr ⟨lw_p14, List.forall_mem_cons.mpr ⟨lw_p15, fun _ h => absurd h List.not_mem_nil⟩⟩⟩⟩⟩⟩⟩⟩⟩⟩⟩⟩⟩⟩⟩⟩
theorem lw_p16 : lw_okq (⟨"BranchPredictor", "tableWith", "(I)LBranchPredictor$CounterTable;"⟩, 16) := ⟨⟨by decide +kernel, by decide +kernel⟩, List.mem_of_getElem? (i := 15) (by decide +kernel), List.mem_of_getElem? (i := 519) (by decide +kernel), List.mem_of_getElem? (i := 520) (by decide +kernel)⟩
theorem lw_p17 : lw_okq (⟨"BranchPredictorModel", "begin", "(III)V"⟩, 22) := ⟨⟨by decide +kernel, by decide +kernel⟩, List.mem_of_getElem? (i := 548) (by decide +kernel), List.mem_of_getElem? (i := 554) (by decide +kernel), List.mem_of_getElem? (i := 555) (by decide +kernel)⟩
theorem lw_p18 : lw_okq (⟨"BranchPredictorModel", "failed", "(I)Z"⟩, 22) := ⟨⟨by decide +kernel, by decide +kernel⟩, List.mem_of_getElem? (i := 548) (by decide +kernel), List.mem_of_getElem? (i := 634) (by decide +kernel), List.mem_of_getElem? (i := 635) (by decide +kernel)⟩
theorem lw_p19 : lw_okq (⟨"BranchPredictorModel", "add", "(I)Z"⟩, 22) := ⟨⟨by decide +kernel, by decide +kernel⟩, List.mem_of_getElem? (i := 548) (by decide +kernel), List.mem_of_getElem? (i := 643) (by decide +kernel), List.mem_of_getElem? (i := 644) (by decide +kernel)⟩
theorem lw_p20 : lw_okq (⟨"BranchPredictorModel", "plainIndex", "(I)I"⟩, 22) := ⟨⟨by decide +kernel, by decide +kernel⟩, List.mem_of_getElem? (i := 548) (by decide +kernel), List.mem_of_getElem? (i := 647) (by decide +kernel), List.mem_of_getElem? (i := 648) (by decide +kernel)⟩
theorem lw_p21 : lw_okq (⟨"BranchPredictorModel", "says", "(I)Z"⟩, 22) := ⟨⟨by decide +kernel, by decide +kernel⟩, List.mem_of_getElem? (i := 548) (by decide +kernel), List.mem_of_getElem? (i := 651) (by decide +kernel), List.mem_of_getElem? (i := 652) (by decide +kernel)⟩
theorem lw_p22 : lw_okq (⟨"BranchPredictorModel", "globalIndex", "(II)I"⟩, 22) := ⟨⟨by decide +kernel, by decide +kernel⟩, List.mem_of_getElem? (i := 548) (by decide +kernel), List.mem_of_getElem? (i := 655) (by decide +kernel), List.mem_of_getElem? (i := 656) (by decide +kernel)⟩
theorem lw_p23 : lw_okq (⟨"BranchPredictorModel", "choiceIndex", "(I)I"⟩, 22) := ⟨⟨by decide +kernel, by decide +kernel⟩, List.mem_of_getElem? (i := 548) (by decide +kernel), List.mem_of_getElem? (i := 659) (by decide +kernel), List.mem_of_getElem? (i := 660) (by decide +kernel)⟩
theorem lw_p24 : lw_okq (⟨"BranchPredictorModel", "loopOf", "(I)I"⟩, 22) := ⟨⟨by decide +kernel, by decide +kernel⟩, List.mem_of_getElem? (i := 548) (by decide +kernel), List.mem_of_getElem? (i := 663) (by decide +kernel), List.mem_of_getElem? (i := 664) (by decide +kernel)⟩
theorem lw_p25 : lw_okq (⟨"BranchPredictorModel", "presumed", "(I)I"⟩, 22) := ⟨⟨by decide +kernel, by decide +kernel⟩, List.mem_of_getElem? (i := 548) (by decide +kernel), List.mem_of_getElem? (i := 667) (by decide +kernel), List.mem_of_getElem? (i := 668) (by decide +kernel)⟩
theorem lw_p26 : lw_okq (⟨"BranchPredictorModel", "isTaken", "(I)Z"⟩, 22) := ⟨⟨by decide +kernel, by decide +kernel⟩, List.mem_of_getElem? (i := 548) (by decide +kernel), List.mem_of_getElem? (i := 671) (by decide +kernel), List.mem_of_getElem? (i := 672) (by decide +kernel)⟩
theorem lw_p27 : lw_okq (⟨"BranchPredictorModel", "appended", "(IZ)I"⟩, 22) := ⟨⟨by decide +kernel, by decide +kernel⟩, List.mem_of_getElem? (i := 548) (by decide +kernel), List.mem_of_getElem? (i := 675) (by decide +kernel), List.mem_of_getElem? (i := 676) (by decide +kernel)⟩
theorem lw_p28 : lw_okq (⟨"BranchPredictorModel", "isFlying", "(I)Z"⟩, 22) := ⟨⟨by decide +kernel, by decide +kernel⟩, List.mem_of_getElem? (i := 548) (by decide +kernel), List.mem_of_getElem? (i := 683) (by decide +kernel), List.mem_of_getElem? (i := 684) (by decide +kernel)⟩
theorem lw_p29 : lw_okq (⟨"BranchPredictorModel", "fail", "(I)I"⟩, 22) := ⟨⟨by decide +kernel, by decide +kernel⟩, List.mem_of_getElem? (i := 548) (by decide +kernel), List.mem_of_getElem? (i := 687) (by decide +kernel), List.mem_of_getElem? (i := 688) (by decide +kernel)⟩
theorem lw_p30 : lw_okq (⟨"BranchPredictorModel", "settle", "(IZ)I"⟩, 22) := ⟨⟨by decide +kernel, by decide +kernel⟩, List.mem_of_getElem? (i := 548) (by decide +kernel), List.mem_of_getElem? (i := 691) (by decide +kernel), List.mem_of_getElem? (i := 692) (by decide +kernel)⟩
theorem lw_p31 : lw_okq (⟨"BranchPredictorModel", "isWrong", "(I)Z"⟩, 22) := ⟨⟨by decide +kernel, by decide +kernel⟩, List.mem_of_getElem? (i := 548) (by decide +kernel), List.mem_of_getElem? (i := 695) (by decide +kernel), List.mem_of_getElem? (i := 696) (by decide +kernel)⟩
def lw_privs_2 : List (MethodName × Nat) := [(⟨"BranchPredictor", "tableWith", "(I)LBranchPredictor$CounterTable;"⟩, 16), (⟨"BranchPredictorModel", "begin", "(III)V"⟩, 22), (⟨"BranchPredictorModel", "failed", "(I)Z"⟩, 22), (⟨"BranchPredictorModel", "add", "(I)Z"⟩, 22), (⟨"BranchPredictorModel", "plainIndex", "(I)I"⟩, 22), (⟨"BranchPredictorModel", "says", "(I)Z"⟩, 22), (⟨"BranchPredictorModel", "globalIndex", "(II)I"⟩, 22), (⟨"BranchPredictorModel", "choiceIndex", "(I)I"⟩, 22), (⟨"BranchPredictorModel", "loopOf", "(I)I"⟩, 22), (⟨"BranchPredictorModel", "presumed", "(I)I"⟩, 22), (⟨"BranchPredictorModel", "isTaken", "(I)Z"⟩, 22), (⟨"BranchPredictorModel", "appended", "(IZ)I"⟩, 22), (⟨"BranchPredictorModel", "isFlying", "(I)Z"⟩, 22), (⟨"BranchPredictorModel", "fail", "(I)I"⟩, 22), (⟨"BranchPredictorModel", "settle", "(IZ)I"⟩, 22), (⟨"BranchPredictorModel", "isWrong", "(I)Z"⟩, 22)]
theorem lw_r2 : ∀ q ∈ lw_privs_2, lw_okq q := List.forall_mem_cons.mpr ⟨lw_p16, List.forall_mem_cons.mpr ⟨lw_p17, List.forall_mem_cons.mpr ⟨lw_p18, List.forall_mem_cons.mpr ⟨lw_p19, List.forall_mem_cons.mpr ⟨lw_p20, List.forall_mem_cons.mpr ⟨lw_p21, List.forall_mem_cons.mpr ⟨lw_p22, List.forall_mem_cons.mpr ⟨lw_p23, List.forall_mem_cons.mpr ⟨lw_p24, List.forall_mem_cons.mpr ⟨lw_p25, List.forall_mem_cons.mpr ⟨lw_p26, List.forall_mem_cons.mpr ⟨lw_p27, List.forall_mem_cons.mpr ⟨lw_p28, List.forall_mem_cons.mpr ⟨lw_p29, List.forall_mem_cons.mpr ⟨lw_p30, List.forall_mem_cons.mpr ⟨lw_p31, fun _ h => absurd h List.not_mem_nil⟩⟩⟩⟩⟩⟩⟩⟩⟩⟩⟩⟩⟩⟩⟩⟩
theorem lw_p32 : lw_okq (⟨"BranchPredictorModel", "learn", "()Z"⟩, 22) := ⟨⟨by decide +kernel, by decide +kernel⟩, List.mem_of_getElem? (i := 548) (by decide +kernel), List.mem_of_getElem? (i := 703) (by decide +kernel), List.mem_of_getElem? (i := 704) (by decide +kernel)⟩
theorem lw_p33 : lw_okq (⟨"BranchPredictorModel", "change", "(IZ)V"⟩, 22) := ⟨⟨by decide +kernel, by decide +kernel⟩, List.mem_of_getElem? (i := 548) (by decide +kernel), List.mem_of_getElem? (i := 707) (by decide +kernel), List.mem_of_getElem? (i := 708) (by decide +kernel)⟩
theorem lw_p34 : lw_okq (⟨"BranchPredictorModel", "audit", "(IIIZ)V"⟩, 22) := ⟨⟨by decide +kernel, by decide +kernel⟩, List.mem_of_getElem? (i := 548) (by decide +kernel), List.mem_of_getElem? (i := 713) (by decide +kernel), List.mem_of_getElem? (i := 714) (by decide +kernel)⟩
theorem lw_p35 : lw_okq (⟨"BranchPredictorModel", "learnLoop", "(IZZ)V"⟩, 22) := ⟨⟨by decide +kernel, by decide +kernel⟩, List.mem_of_getElem? (i := 548) (by decide +kernel), List.mem_of_getElem? (i := 717) (by decide +kernel), List.mem_of_getElem? (i := 718) (by decide +kernel)⟩
theorem lw_p36 : lw_okq (⟨"BranchPredictorModel", "makeLoop", "(I)V"⟩, 22) := ⟨⟨by decide +kernel, by decide +kernel⟩, List.mem_of_getElem? (i := 548) (by decide +kernel), List.mem_of_getElem? (i := 721) (by decide +kernel), List.mem_of_getElem? (i := 722) (by decide +kernel)⟩
theorem lw_p37 : lw_okq (⟨"BranchPredictorModel", "stateOf", "(I)I"⟩, 22) := ⟨⟨by decide +kernel, by decide +kernel⟩, List.mem_of_getElem? (i := 548) (by decide +kernel), List.mem_of_getElem? (i := 745) (by decide +kernel), List.mem_of_getElem? (i := 746) (by decide +kernel)⟩
theorem lw_p38 : lw_okq (⟨"BranchPredictorModel", "sizeOf", "(I)I"⟩, 22) := ⟨⟨by decide +kernel, by decide +kernel⟩, List.mem_of_getElem? (i := 548) (by decide +kernel), List.mem_of_getElem? (i := 764) (by decide +kernel), List.mem_of_getElem? (i := 765) (by decide +kernel)⟩
theorem lw_p39 : lw_okq (⟨"BranchPredictorModel", "ofLoop", "(II)I"⟩, 22) := ⟨⟨by decide +kernel, by decide +kernel⟩, List.mem_of_getElem? (i := 548) (by decide +kernel), List.mem_of_getElem? (i := 772) (by decide +kernel), List.mem_of_getElem? (i := 773) (by decide +kernel)⟩
def lw_privs_3 : List (MethodName × Nat) := [(⟨"BranchPredictorModel", "learn", "()Z"⟩, 22), (⟨"BranchPredictorModel", "change", "(IZ)V"⟩, 22), (⟨"BranchPredictorModel", "audit", "(IIIZ)V"⟩, 22), (⟨"BranchPredictorModel", "learnLoop", "(IZZ)V"⟩, 22), (⟨"BranchPredictorModel", "makeLoop", "(I)V"⟩, 22), (⟨"BranchPredictorModel", "stateOf", "(I)I"⟩, 22), (⟨"BranchPredictorModel", "sizeOf", "(I)I"⟩, 22), (⟨"BranchPredictorModel", "ofLoop", "(II)I"⟩, 22)]
theorem lw_r3 : ∀ q ∈ lw_privs_3, lw_okq q := List.forall_mem_cons.mpr ⟨lw_p32, List.forall_mem_cons.mpr ⟨lw_p33, List.forall_mem_cons.mpr ⟨lw_p34, List.forall_mem_cons.mpr ⟨lw_p35, List.forall_mem_cons.mpr ⟨lw_p36, List.forall_mem_cons.mpr ⟨lw_p37, List.forall_mem_cons.mpr ⟨lw_p38, List.forall_mem_cons.mpr ⟨lw_p39, fun _ h => absurd h List.not_mem_nil⟩⟩⟩⟩⟩⟩⟩⟩
def lw_privs : List (MethodName × Nat) := lw_privs_1 ++ (lw_privs_2 ++ (lw_privs_3))
def lw_tbl : List Cond := k2_sels lw_privs ++ tables_1
theorem lw_privs_ok : ∀ q ∈ lw_privs, lw_okq q := by
  show ∀ q ∈ lw_privs_1 ++ (lw_privs_2 ++ (lw_privs_3)), lw_okq q
  exact List.forall_mem_append.mpr ⟨lw_r1, List.forall_mem_append.mpr ⟨lw_r2, lw_r3⟩⟩
/-- the streams that the claim lets the run draw from -/
abbrev lw_cs : List Choice := [Jvm.Choice.named "NaN.bits"]
theorem lw_bits : nanBits ∈ lw_cs := by first | decide | exact List.mem_cons_self | simp [lw_cs, nanBits]
-- ===== end of PART A; then your names; then what follows =====
/-! ===== BEGIN words of one list among another's, by their places ===== -/
theorem goodIn_r {big : List Cond} (ws : List Cond) (ps : List Nat) (hp : ws = ps.filterMap (fun i => big[i]?)) (h : ws.all goodWord = true) : GoodIn big ws := by
  intro w hw
  have h1 := List.all_eq_true.mp h w hw
  rw [hp] at hw
  obtain ⟨i, -, hi⟩ := List.mem_filterMap.mp hw
  have hm : w ∈ big := by first | exact List.mem_of_getElem? hi | exact List.getElem?_mem hi
  exact ⟨hm, good_of_word h1⟩
theorem goodIn_app {big a b : List Cond} (ha : GoodIn big a) (hb : GoodIn big b) : GoodIn big (a ++ b) := fun w h => (List.mem_append.mp h).elim (ha w) (hb w)
theorem goodIn_ca {big a b : List Cond} {c : Cond} (ha : GoodIn big (c :: a)) (hb : GoodIn big b) : GoodIn big (c :: (a ++ b)) := fun w h => (List.mem_cons.mp h).elim (fun e => ha w (List.mem_cons.mpr (Or.inl e))) (fun h => (List.mem_append.mp h).elim (fun h => ha w (List.mem_cons.mpr (Or.inr h))) (hb w))
theorem goodIn_sub {big ws : List Cond} (hm : ∀ w ∈ ws, w ∈ big) (h : ws.all goodWord = true) : GoodIn big ws := fun w hw => ⟨hm w hw, good_of_word (List.all_eq_true.mp h w hw)⟩
/-! ===== END ===== -/

/-! ===== BEGIN exceptions that leave a method, and their catching by the caller (launches without stack traces) ===== -/
section VXA
/-! The laws vx_back, vx_callV, vx_callS, vx_callSW, vx_throw0, vx_throwS follow proofs of the library, with one case more: JvmDerived/Free/Laws.lean (Back.of_free), Shelf42/LK1.lean (callV, callS), Shelf/KitTraced.lean (throwNew0V, throwNewS). -/
/-- where a method has thrown q: the class by its name, the cell, what was written, the world -/
def vx_T (XC : String → State → State → Prop) (st : State) (q : Addr) (t : State) (mc ms : Nat) (free : Addr → Prop) : Prop :=
  ∃ (E : String) (ce : Cell) (L : List Loc), XC E st t ∧ t.heap[q]? = some ce ∧ ce.vm = .none ∧ st.vm.findClass E = some ce.cls ∧ st.WarmedH t.vm ∧ st.sameButNew ({ t with vm := st.vm } : State) L mc ms ∧ ∀ z ∈ L, free z.base
def vx_Q (Qc : Array Value → State → Outcome → State → Prop) (XC : String → State → State → Prop) (mc ms : Nat) (free : Addr → Prop) : Array Value → State → Outcome → State → Prop := fun a st o t =>
  (Qc a st o t ∧ ∃ L, FrameEnd st o t L mc ms ∧ ∀ q ∈ L, free q.base) ∨ ∃ q, o = .threw q ∧ vx_T XC st q t mc ms free
/-- a callee that returns or throws -/
def vx_Met (l : Launch) (y : MethodName) (ws : List Cond) (rm : Room) (Pc : Array Value → State → Prop) (Qc : Array Value → State → Outcome → State → Prop) (XC : String → State → State → Prop) (mc ms : Nat) (free : Addr → Prop) : Prop :=
  MetFree l y (headSpec ws rm) Pc (fun _ _ _ _ _ => True) (vx_Q Qc XC mc ms free)
def vx_Post (XC : String → State → State → Prop) (mc ms : Nat) (free : Addr → Prop) : Pt → Array Value → Addr → Pt → Prop := fun A a q B =>
  ∃ (g : JFrame) (mk : MethodId) (t : State) (L : List Loc) (E : String) (ce : Cell), B.U.heap = t.heap ∧ B.U.vm = t.vm ∧ XC E (A.U.calling g mk a) t ∧ t.heap[q]? = some ce ∧ ce.vm = .none ∧ A.U.vm.findClass E = some ce.cls ∧ B.locs = A.locs ++ L ∧ (∀ z ∈ L, free z.base) ∧ B.cells = A.cells + mc ∧ B.slots = A.slots + ms
def vx_Back (l : Launch) (R : Room) (p : Program) (e : Env) (below : List Frame) (s : State) (sargs : Array Value) (y : MethodName) (len W9 : Nat)
    (Pre : Pt → Array Value → Prop) (Post : Pt → Array Value → Option Value → Pt → Prop) (PostX : Pt → Array Value → Addr → Pt → Prop) : Prop :=
  ∀ (m : MethodId) (meth : Method) (c : Code) (A : Pt) (g : JFrame) (ig : Instr) (mk : MethodId) (a : Array Value),
    Stand p l e R s m sargs below meth c A.U A.locs A.cells A.slots → g.method = m → g.locals.size = c.maxLocals → decode c.code g.pc = .ok (ig, len) →
    2 * g.monitorRoom + (g.stack.map fun v => v.category).sum ≤ W9 → A.U.methodNamed? y = some mk → Pre A a →
    (∃ (v : Option Value) (B : Pt), Stand p l e R s m sargs below meth c B.U B.locs B.cells B.slots ∧ Post A a v B ∧
      Steps p.tables e below (doInvoke e (A.U.setTop g) [] mk a).1 (B.U.setTop { g with pc := g.pc + len, stack := v.toList ++ g.stack })) ∨
    (∃ (q : Addr) (B : Pt), Stand p l e R s m sargs below meth c B.U B.locs B.cells B.slots ∧ PostX A a q B ∧
      Steps p.tables e below (doInvoke e (A.U.setTop g) [] mk a).1 ((B.U.setTop g).pushFrame (.throwing q)))
section Payer
variable {l : Launch} {R : Room} {p : Program} {e : Env} {below : List Frame} {s : State} {sargs : Array Value} {y : MethodName} {len W9 : Nat}
theorem vx_back {ws : List Cond} {rm : Room} {Pc : Array Value → State → Prop} {Qc : Array Value → State → Outcome → State → Prop} {XC : String → State → State → Prop} {mc ms : Nat} {free : Addr → Prop} {bytes : ByteArray} {maxL : Nat} {ret : Option FieldType}
    (hM : vx_Met l y ws rm Pc Qc XC mc ms free) (hblind : FrameBlind Pc) (hrc : rm.cells = mc) (hrs : rm.slots = ms)
    (hframes : rm.frames + 1 ≤ R.frames) (hlocals : W9 + (maxL + 11) + rm.locals ≤ R.locals)
    (hws : ∀ w ∈ ws, ∀ a' U, s.WarmedH U.vm → w.before a' U = true) (hcode : Cond.code y bytes maxL ret ∈ ws) (hinit : ∀ a' U, s.WarmedH U.vm → (Cond.initialized y.cls).before a' U = true) :
    vx_Back l R p e below s sargs y len W9 (PreOf R mc ms Pc) (PostOf Qc mc ms free) (vx_Post XC mc ms free) := by
  intro m meth c A g ig mk a X hg hsize hdg hW hn hp
  have h1 : (headSpec ws rm).pre.before a A.U = true := atoms_intro fun w hw => hws w hw _ _ X.warmed
  have h2 : (Cond.code y bytes maxL ret).before a A.U = true := hws _ hcode _ _ X.warmed
  have h3 : (Cond.initialized y.cls).before a A.U = true := hinit _ _ X.warmed
  have h4 : A.cells + (headSpec ws rm).room.cells ≤ R.cells := by rw [show (headSpec ws rm).room.cells = mc from hrc]; exact hp.1
  have h5 : A.slots + (headSpec ws rm).room.slots ≤ R.slots := by rw [show (headSpec ws rm).room.slots = ms from hrs]; exact hp.2.1
  have hPc : Pc a (A.U.calling g mk a) := hblind _ _ _ _ hp.2.2
  obtain ⟨U, Ls, c0, s0⟩ := A
  dsimp only [Pt.U, Pt.locs, Pt.cells, Pt.slots] at h1 h2 h3 h4 h5 X hn hPc ⊢
  obtain ⟨methY, cY, hmY, hcY, -, hlY, -, -, -, -⟩ := Cond.code_spec hn h2
  obtain ⟨kY, hkY, -⟩ := className_of_methodNamed hn
  have hinitY : kY.init = .initialized := Cond.initialized_spec (findClass_of_methodNamed hn) hkY h3
  have h : At U g.method c below := by rw [hg]; exact X.here
  have hlocals9 : W9 + (maxL + 11) + (headSpec ws rm).room.locals ≤ R.locals := hlocals
  have happ : (headSpec ws rm).appliesLoose y e.platform (U.calling g mk a) = true :=
    Spec.appliesLoose_calling (g := g) h hdg hn hkY hinitY
      (X.room_calling (g := g) (R' := (headSpec ws rm).room) hsize hmY hcY hframes (by rw [hlY]; omega) h4 h5) h1
  obtain ⟨mid, hmid⟩ := h.above
  have hfr : (U.setTop g).frames = (.java g :: mid) ++ below := by rw [State.frames_setTop' g h.top, hmid]; rfl
  obtain ⟨o, s₂, hsteps, -, hend, hq⟩ := Steps.callFree hM p X.admits X.cas X.clock (acts := []) hfr happ hPc trivial
  have hq' : vx_Q Qc XC mc ms free a (U.calling g mk a) o s₂ := hq
  rw [State.frames_setTop' g h.top] at hend
  obtain ⟨g₀, hg0⟩ := Option.isSome_iff_exists.mp h.top
  obtain ⟨r, hr⟩ := State.topJava?_eq_some.mp hg0
  have hr' : (({ U with heap := s₂.heap, slotsUsed := s₂.slotsUsed } : State).setVm s₂.vm).frames = .java g₀ :: r := hr
  rcases hq' with ⟨hqc, L, hfe, hL⟩ | ⟨q, rfl, E, ce, L, hx, hce, hcv, hcl, hW₂, hsm, hL⟩
  · obtain ⟨⟨v, rfl⟩, hW₂, e2, q2, q3, q4, q5, q6⟩ := id hfe
    have e3 : s₂ = ({ (U.calling g mk a).setFrames s₂.frames with heap := s₂.heap, slotsUsed := s₂.slotsUsed } : State).setVm s₂.vm := by
      have : s₂ = ({ s₂ with vm := (U.calling g mk a).vm } : State).setVm s₂.vm := rfl
      rw [e2] at this
      exact this
    obtain ⟨c₂, i₂, len₂, hc₂, hd₂, hf₂⟩ := hend
    have hW' : U.WarmedH s₂.vm := hW₂
    have hcc : c₂ = c := by
      have h1 : s₂.code? g.method = U.code? g.method := by
        rw [State.code?_eq, State.code?_eq, hW'.alike.method?]
      exact Option.some.inj (hc₂.symm.trans (h1.trans h.code))
    subst hcc
    have hlen : len₂ = len := by rw [hdg] at hd₂; cases hd₂; rfl
    subst hlen
    have hs₂ : s₂ = (({ U with heap := s₂.heap, slotsUsed := s₂.slotsUsed } : State).setVm s₂.vm).setTop { g with pc := g.pc + len₂, stack := v.toList ++ g.stack } := by
      refine e3.trans ?_
      rw [hf₂, State.calling_eq h.top, State.setFrames_setFrames, State.setTop_of_frames _ hr', hr]
      rfl
    have hsame : U.sameButNew ({ U with heap := s₂.heap, slotsUsed := s₂.slotsUsed } : State) L mc ms := by
      refine ⟨?_, q2, q3, q4, q5, q6⟩
      obtain ⟨t, ht, -⟩ := State.frames_cons hr
      show ({ U with heap := s₂.heap, slotsUsed := s₂.slotsUsed } : State) = { U.setFrames U.frames with heap := s₂.heap, slotsUsed := s₂.slotsUsed }
      rw [State.setFrames_self ht]
    subst hg
    refine Or.inl ⟨v, ⟨(({ U with heap := s₂.heap, slotsUsed := s₂.slotsUsed } : State).setVm s₂.vm), Ls ++ L, c0 + mc, s0 + ms⟩,
      ⟨X.admits, X.cas, X.clock, X.frames, X.room, X.hears, X.method, X.code, (X.here.setHeapUsed s₂.heap s₂.slotsUsed).setVm hW'.alike, X.tail, State.WarmedH.trans X.warmed hW', X.limits, X.bytes, X.same.trans (hsame.setVm s.vm)⟩,
      ⟨g, mk, s₂, L, rfl, rfl, hqc, rfl, hL, rfl, rfl⟩, ?_⟩
    show Steps p.tables e below _ ((({ U with heap := s₂.heap, slotsUsed := s₂.slotsUsed } : State).setVm s₂.vm).setTop { g with pc := g.pc + len₂, stack := v.toList ++ g.stack })
    rw [← hs₂]
    exact hsteps
  · obtain ⟨e2, q2, q3, q4, q5, q6⟩ := id hsm
    have e3 : s₂ = ({ (U.calling g mk a).setFrames s₂.frames with heap := s₂.heap, slotsUsed := s₂.slotsUsed } : State).setVm s₂.vm := by
      have : s₂ = ({ s₂ with vm := (U.calling g mk a).vm } : State).setVm s₂.vm := rfl
      rw [e2] at this
      exact this
    have hf₂ : s₂.frames = .throwing q :: .java g :: U.frames.tail := hend
    have hW' : U.WarmedH s₂.vm := hW₂
    have hs₂ : s₂ = ((({ U with heap := s₂.heap, slotsUsed := s₂.slotsUsed } : State).setVm s₂.vm).setTop g).pushFrame (.throwing q) := by
      refine e3.trans ?_
      rw [hf₂, State.calling_eq h.top, State.setFrames_setFrames, State.pushFrame, State.frames_setTop _ hr', State.setTop_of_frames _ hr', State.setFrames_setFrames, hr]
      rfl
    have hsame : U.sameButNew ({ U with heap := s₂.heap, slotsUsed := s₂.slotsUsed } : State) L mc ms := by
      refine ⟨?_, q2, q3, q4, q5, q6⟩
      obtain ⟨t, ht, -⟩ := State.frames_cons hr
      show ({ U with heap := s₂.heap, slotsUsed := s₂.slotsUsed } : State) = { U.setFrames U.frames with heap := s₂.heap, slotsUsed := s₂.slotsUsed }
      rw [State.setFrames_self ht]
    subst hg
    refine Or.inr ⟨q, ⟨(({ U with heap := s₂.heap, slotsUsed := s₂.slotsUsed } : State).setVm s₂.vm), Ls ++ L, c0 + mc, s0 + ms⟩,
      ⟨X.admits, X.cas, X.clock, X.frames, X.room, X.hears, X.method, X.code, (X.here.setHeapUsed s₂.heap s₂.slotsUsed).setVm hW'.alike, X.tail, State.WarmedH.trans X.warmed hW', X.limits, X.bytes, X.same.trans (hsame.setVm s.vm)⟩,
      ⟨g, mk, s₂, L, E, ce, rfl, rfl, hx, hce, hcv, hcl, rfl, hL, rfl, rfl⟩, ?_⟩
    show Steps p.tables e below _ (((({ U with heap := s₂.heap, slotsUsed := s₂.slotsUsed } : State).setVm s₂.vm).setTop g).pushFrame (.throwing q))
    rw [← hs₂]
    exact hsteps
end Payer
section Calls
variable {p : Program} {l : Launch} {e : Env} {R : Room} {s : State} {m : MethodId} {args : Array Value} {below : List Frame} {meth : Method} {c : Code} {T : State} {locs : List Loc} {cells slots : Nat}
theorem vx_callV (X : Stand p l e R s m args below meth c T locs cells slots) (hexec : p.tables.exec = Jvm.exec) {own C : String} {index : Nat} {y : MethodName} {bytes : ByteArray} {maxL : Nat} {ret : Option FieldType}
    (hown : s.vm.findClass own = some m.cls) (hlink : (Cond.methodLink own index y).before args s = true) (hinst : (Cond.instanceMethod y).before args s = true) (hsel : (Cond.selects C y y).before args s = true)
    (hcode : (Cond.code y bytes maxL ret).before args s = true) (hy : y.cls ≠ "java/lang/invoke/MethodHandle" ∧ y.cls ≠ "java/lang/invoke/VarHandle")
    {W9 : Nat} {Pre : Pt → Array Value → Prop} {Post : Pt → Array Value → Option Value → Pt → Prop} {PostX : Pt → Array Value → Addr → Pt → Prop} (hK : vx_Back l R p e below s args y 3 W9 Pre Post PostX)
    {b : Addr} {cellB : Cell} (hcell : T.heap[b]? = some cellB) (hobj : cellB.vm.isStatics = false) (hcls : s.vm.findClass C = some cellB.cls)
    {g : JFrame} (hg : g.method = m) (hsize : g.locals.size = c.maxLocals) {argsL rest : List Value} (hlen : ∀ sig, parseMethodDescriptor y.desc = some sig → argsL.length = sig.parameters.length)
    (hstack : g.stack = argsL.reverse ++ .ref b :: rest) (hW : 2 * g.monitorRoom + (rest.map fun v => v.category).sum ≤ W9) (hdg : decode c.code g.pc = .ok (.invokevirtual index, 3))
    (hpre : ∀ vm₁, s.WarmedH vm₁ → Pre ⟨T.setVm vm₁, locs, cells, slots⟩ (Value.ref b :: argsL).toArray) :
    (∃ (v : Option Value) (vm₁ : Vm) (B : Pt), s.WarmedH vm₁ ∧ Stand p l e R s m args below meth c B.U B.locs B.cells B.slots ∧ Post ⟨T.setVm vm₁, locs, cells, slots⟩ (Value.ref b :: argsL).toArray v B ∧
      ∀ target, Steps p.tables e below (B.U.setTop { g with pc := g.pc + 3, stack := v.toList ++ rest }) target → Steps p.tables e below (T.setTop g) target) ∨
    (∃ (q : Addr) (vm₁ : Vm) (B : Pt), s.WarmedH vm₁ ∧ Stand p l e R s m args below meth c B.U B.locs B.cells B.slots ∧ PostX ⟨T.setVm vm₁, locs, cells, slots⟩ (Value.ref b :: argsL).toArray q B ∧
      Steps p.tables e below (T.setTop g) ((B.U.setTop { g with stack := rest }).pushFrame (.throwing q))) := by
  obtain ⟨mk, methM, hnamed, hmethM, hstM, habM⟩ := Cond.instanceMethod_spec hinst
  obtain ⟨methM', cM, hmethM', -, -, -, -, -, -, hsigM⟩ := Cond.code_spec hnamed hcode
  cases hmethM.symm.trans hmethM'
  obtain ⟨c2, r2, m2, q1, q2, q3, q4, kP, hkP, hkPi⟩ := Cond.selects_spec hsel
  cases hcls.symm.trans q1
  cases (State.methodFound?_of_named hnamed hy).symm.trans q2
  cases hnamed.symm.trans q3
  have hselP : selectMethod e.platform s.vm cellB.cls mk = .method mk := by rw [Launch.admits_selectMethod X.admits]; exact q4
  obtain ⟨vm₁, X₁, hstep₁⟩ := X.invokevirtual hexec hown hlink hnamed hmethM hstM hkP hkPi hy (a := b) (cell := cellB) hcell
    (fun z h => by rw [h] at hobj; cases hobj) hselP hmethM habM hkP hkPi (g := g) hg (argsL := argsL) (rest := rest) (hlen _ hsigM) hstack hdg
  rcases hK m meth c ⟨T.setVm vm₁, locs, cells, slots⟩ { g with stack := rest } (.invokevirtual index) mk (Value.ref b :: argsL).toArray X₁ hg hsize hdg hW (X₁.named hnamed) (hpre vm₁ X₁.warmed) with ⟨v, B, X', hpost, hsteps⟩ | ⟨q, B, X', hpost, hsteps⟩
  · exact Or.inl ⟨v, vm₁, B, X₁.warmed, X', hpost, fun target h => hstep₁ _ fun acts => by rw [doInvoke_state]; exact hsteps.trans h⟩
  · exact Or.inr ⟨q, vm₁, B, X₁.warmed, X', hpost, hstep₁ _ fun acts => by rw [doInvoke_state]; exact hsteps⟩
theorem vx_callS (X : Stand p l e R s m args below meth c T locs cells slots) (hexec : p.tables.exec = Jvm.exec) {own : String} {index : Nat} {y : MethodName} {bytes : ByteArray} {maxL : Nat} {ret : Option FieldType}
    (hown : s.vm.findClass own = some m.cls) (hlink : (Cond.methodLink own index y).before args s = true) (hstat : (Cond.static y).before args s = true) (hinit : (Cond.initialized y.cls).before args s = true)
    (hcode : (Cond.code y bytes maxL ret).before args s = true) (hy : y.cls ≠ "java/lang/invoke/MethodHandle" ∧ y.cls ≠ "java/lang/invoke/VarHandle")
    {W9 : Nat} {Pre : Pt → Array Value → Prop} {Post : Pt → Array Value → Option Value → Pt → Prop} {PostX : Pt → Array Value → Addr → Pt → Prop} (hK : vx_Back l R p e below s args y 3 W9 Pre Post PostX)
    {g : JFrame} (hg : g.method = m) (hsize : g.locals.size = c.maxLocals) {argsL rest : List Value} (hlen : ∀ sig, parseMethodDescriptor y.desc = some sig → argsL.length = sig.parameters.length)
    (hstack : g.stack = argsL.reverse ++ rest) (hW : 2 * g.monitorRoom + (rest.map fun v => v.category).sum ≤ W9) (hdg : decode c.code g.pc = .ok (.invokestatic index, 3))
    (hpre : ∀ vm₁, s.WarmedH vm₁ → Pre ⟨T.setVm vm₁, locs, cells, slots⟩ argsL.toArray) :
    (∃ (v : Option Value) (vm₁ : Vm) (B : Pt), s.WarmedH vm₁ ∧ Stand p l e R s m args below meth c B.U B.locs B.cells B.slots ∧ Post ⟨T.setVm vm₁, locs, cells, slots⟩ argsL.toArray v B ∧
      ∀ target, Steps p.tables e below (B.U.setTop { g with pc := g.pc + 3, stack := v.toList ++ rest }) target → Steps p.tables e below (T.setTop g) target) ∨
    (∃ (q : Addr) (vm₁ : Vm) (B : Pt), s.WarmedH vm₁ ∧ Stand p l e R s m args below meth c B.U B.locs B.cells B.slots ∧ PostX ⟨T.setVm vm₁, locs, cells, slots⟩ argsL.toArray q B ∧
      Steps p.tables e below (T.setTop g) ((B.U.setTop { g with stack := rest }).pushFrame (.throwing q))) := by
  obtain ⟨mk, hnamed⟩ := Cond.code_named hcode
  obtain ⟨methM, cM, hmethM, -, -, -, -, -, -, hsigM⟩ := Cond.code_spec hnamed hcode
  have hstatic : methM.isStatic = true := Cond.static_spec hnamed hmethM hstat
  obtain ⟨kP, hkP, -⟩ := className_of_methodNamed hnamed
  have hinitP : kP.init = .initialized := Cond.initialized_spec (findClass_of_methodNamed hnamed) hkP hinit
  obtain ⟨vm₁, X₁, hstep₁⟩ := X.invokestatic hexec hown hlink hnamed hmethM hstatic hkP hinitP hy (g := g) hg (argsL := argsL) (rest := rest) (hlen _ hsigM) hstack hdg
  rcases hK m meth c ⟨T.setVm vm₁, locs, cells, slots⟩ { g with stack := rest } (.invokestatic index) mk argsL.toArray X₁ hg hsize hdg hW (X₁.named hnamed) (hpre vm₁ X₁.warmed) with ⟨v, B, X', hpost, hsteps⟩ | ⟨q, B, X', hpost, hsteps⟩
  · exact Or.inl ⟨v, vm₁, B, X₁.warmed, X', hpost, fun target h => hstep₁ _ fun acts => by rw [doInvoke_state]; exact hsteps.trans h⟩
  · exact Or.inr ⟨q, vm₁, B, X₁.warmed, X', hpost, hstep₁ _ fun acts => by rw [doInvoke_state]; exact hsteps⟩
end Calls
theorem vx_cls {s : State} {T : State} {vm₁ : Vm} {E : String} {k : ClassId} (hW : s.WarmedH vm₁) (h : (T.setVm vm₁).vm.findClass E = some k) : s.vm.findClass E = some k := by
  have h1 : vm₁.findClass E = some k := h
  rw [hW.alike.findClass] at h1
  exact h1
/-- the method's frame g, with q thrown over it -/
def vx_W (p : Program) (l : Launch) (e : Env) (R : Room) (s : State) (m : MethodId) (args : Array Value) (below : List Frame) (meth : Method) (c : Code) (H : Heap) (locs : List Loc) (cells slots : Nat) (Q : State → Prop) (g : JFrame) (q : Addr) : Prop :=
  ∀ T : State, T.heap = H → Stand p l e R s m args below meth c T locs cells slots → ∃ t, Steps p.tables e below ((T.setTop g).pushFrame (.throwing q)) t ∧ Q t
def vx_Run (p : Program) (l : Launch) (e : Env) (R : Room) (s : State) (m : MethodId) (args : Array Value) (below : List Frame) (meth : Method) (c : Code) (H : Heap) (locs : List Loc) (cells slots mc ms : Nat) (g : JFrame) (rest : List Value) (Qa : State → Outcome → State → Prop) (XC : String → State → State → Prop) (free : Addr → Prop) : Prop :=
  ∀ T : State, T.heap = H → Stand p l e R s m args below meth c T locs cells slots →
    (∃ (v : Option Value) (st₀ t T' : State) (L : List Loc), st₀.heap = H ∧ Stand p l e R s m args below meth c T' (locs ++ L) (cells + mc) (slots + ms) ∧ (∀ q ∈ L, free q.base) ∧ T'.heap = t.heap ∧ T'.vm = t.vm ∧ Qa st₀ (.returned v) t ∧
      Goes p e below T g T' { g with pc := g.pc + 3, stack := v.toList ++ rest }) ∨
    (∃ (q : Addr) (st₀ t T' : State) (L : List Loc) (E : String) (ce : Cell), st₀.heap = H ∧ Stand p l e R s m args below meth c T' (locs ++ L) (cells + mc) (slots + ms) ∧ (∀ z ∈ L, free z.base) ∧ T'.heap = t.heap ∧ T'.vm = t.vm ∧ XC E st₀ t ∧ t.heap[q]? = some ce ∧ ce.vm = .none ∧ s.vm.findClass E = some ce.cls ∧
      Steps p.tables e below (T.setTop g) ((T'.setTop { g with stack := rest }).pushFrame (.throwing q)))
def vx_X {S : Type} (px : S → Prop) (B : String → S → State → Prop) (A : Nat → Prop) : String → State → State → Prop := fun E st t => ∃ u : S, px u ∧ B E u t ∧ va_F A st t
section Runs
variable {p : Program} {l : Launch} {e : Env} {R : Room} {s : State} {m : MethodId} {args : Array Value} {below : List Frame} {meth : Method} {c : Code} {H : Heap} {locs : List Loc} {cells slots : Nat}
variable {y : MethodName} {bytes cc : ByteArray} {maxL nL mc ms n index : Nat} {ret : Option FieldType} {ws : List Cond} {rm : Room} {Pc : Array Value → State → Prop} {Qc : Array Value → State → Outcome → State → Prop} {XC : String → State → State → Prop} {free : Addr → Prop} {Ts : List Cond} {own C : String} {b : Addr} {As rest : List Value} {g : JFrame}
theorem vx_callBack (cb : CallB R s args own index y bytes maxL ret ws rm mc ms n) (hM : vx_Met l y ws rm Pc Qc XC mc ms free) (hbl : FrameBlind Pc) : vx_Back l R p e below s args y 3 8 (PreOf R mc ms Pc) (PostOf Qc mc ms free) (vx_Post XC mc ms free) := by
  obtain ⟨hrc, hrs, hfr, hlo, hws, hcw, -, hini, -⟩ := cb
  exact vx_back (bytes := bytes) (maxL := maxL) (ret := ret) hM hbl hrc hrs hfr hlo hws hcw (fun a' U hW => word_at hW (Or.inl (by first | rfl | simp [Cond.onTables, Cond.keeps, Cond.steady])) hini)
theorem vx_runV (S : CallFix p m c cc nL s args Ts own) (hM : vx_Met l y ws rm Pc Qc XC mc ms free) (cw : CallW R s args own C index y bytes maxL ret ws rm mc ms n) (hp : PreV s H C b Pc As)
    (hg : g.method = m) (hn : As.length = n) (hsize : g.locals.size = nL) (hstack : g.stack = As.reverse ++ .ref b :: rest) (hW : 2 * g.monitorRoom + (rest.map fun v => v.category).sum ≤ 8) (hdg : decode cc g.pc = .ok (.invokevirtual index, 3)) (hf : cells + mc ≤ R.cells ∧ slots + ms ≤ R.slots) :
    vx_Run p l e R s m args below meth c H locs cells slots mc ms g rest (Qc (Value.ref b :: As).toArray) XC free := by
  have hK : vx_Back l R p e below s args y 3 8 (PreOf R mc ms Pc) (PostOf Qc mc ms free) (vx_Post XC mc ms free) := vx_callBack cw.1 hM hp.1
  obtain ⟨⟨-, -, -, -, -, -, hcode, -, hy, hlen, hl⟩, hin, hse⟩ := cw
  obtain ⟨hx, hb, hml, ho, -⟩ := S
  obtain ⟨-, ⟨cellB, hcB, hoB, hclB⟩, hPc⟩ := hp
  intro T hT X
  rcases vx_callV X hx (C := C) (bytes := bytes) (maxL := maxL) (ret := ret) ho hl hin hse hcode hy hK (by rw [hT]; exact hcB) hoB hclB hg (hsize.trans hml.symm) (argsL := As) (rest := rest) (fun sig h => hn.trans (hlen sig h)) hstack hW (by rw [hb]; exact hdg)
    (fun vm₁ hW₁ => ⟨hf.1, hf.2, hPc (T.setVm vm₁) hT hW₁⟩) with ⟨v, vm₁, ⟨U', l2, c2, s2⟩, hW₁, X', ⟨g', mk, t, L, e1, e2, hq, h1, hL, h2, h3⟩, st⟩ | ⟨q, vm₁, ⟨U', l2, c2, s2⟩, hW₁, X', ⟨g', mk, t, L, E, ce, e1, e2, hq, hce, hcv, hcl, h1, hL, h2, h3⟩, st⟩
  · dsimp only [Pt.U, Pt.locs, Pt.cells, Pt.slots] at X' e1 e2 h1 h2 h3 st
    subst h1; subst h2; subst h3
    exact Or.inl ⟨v, (T.setVm vm₁).calling g' mk (Value.ref b :: As).toArray, t, U', L, hT, X', hL, e1, e2, hq, st⟩
  · dsimp only [Pt.U, Pt.locs, Pt.cells, Pt.slots] at X' e1 e2 h1 h2 h3 st hcl
    subst h1; subst h2; subst h3
    exact Or.inr ⟨q, (T.setVm vm₁).calling g' mk (Value.ref b :: As).toArray, t, U', L, E, ce, hT, X', hL, e1, e2, hq, hce, hcv, vx_cls hW₁ hcl, st⟩
theorem vx_runS (S : CallFix p m c cc nL s args Ts own) (hM : vx_Met l y ws rm Pc Qc XC mc ms free) (cw : CallB R s args own index y bytes maxL ret ws rm mc ms n ∧ (Cond.static y).before args s = true) (hp : PreS s H Pc As)
    (hg : g.method = m) (hn : As.length = n) (hsize : g.locals.size = nL) (hstack : g.stack = As.reverse ++ rest) (hW : 2 * g.monitorRoom + (rest.map fun v => v.category).sum ≤ 8) (hdg : decode cc g.pc = .ok (.invokestatic index, 3)) (hf : cells + mc ≤ R.cells ∧ slots + ms ≤ R.slots) :
    vx_Run p l e R s m args below meth c H locs cells slots mc ms g rest (Qc As.toArray) XC free := by
  have hK : vx_Back l R p e below s args y 3 8 (PreOf R mc ms Pc) (PostOf Qc mc ms free) (vx_Post XC mc ms free) := vx_callBack cw.1 hM hp.1
  obtain ⟨⟨-, -, -, -, -, -, hcode, hini, hy, hlen, hl⟩, hstt⟩ := cw
  obtain ⟨hx, hb, hml, ho, -⟩ := S
  intro T hT X
  rcases vx_callS X hx (bytes := bytes) (maxL := maxL) (ret := ret) ho hl hstt hini hcode hy hK hg (hsize.trans hml.symm) (argsL := As) (rest := rest) (fun sig h => hn.trans (hlen sig h)) hstack hW (by rw [hb]; exact hdg)
    (fun vm₁ hW₁ => ⟨hf.1, hf.2, hp.2 (T.setVm vm₁) hT hW₁⟩) with ⟨v, vm₁, ⟨U', l2, c2, s2⟩, hW₁, X', ⟨g', mk, t, L, e1, e2, hq, h1, hL, h2, h3⟩, st⟩ | ⟨q, vm₁, ⟨U', l2, c2, s2⟩, hW₁, X', ⟨g', mk, t, L, E, ce, e1, e2, hq, hce, hcv, hcl, h1, hL, h2, h3⟩, st⟩
  · dsimp only [Pt.U, Pt.locs, Pt.cells, Pt.slots] at X' e1 e2 h1 h2 h3 st
    subst h1; subst h2; subst h3
    exact Or.inl ⟨v, (T.setVm vm₁).calling g' mk As.toArray, t, U', L, hT, X', hL, e1, e2, hq, st⟩
  · dsimp only [Pt.U, Pt.locs, Pt.cells, Pt.slots] at X' e1 e2 h1 h2 h3 st hcl
    subst h1; subst h2; subst h3
    exact Or.inr ⟨q, (T.setVm vm₁).calling g' mk As.toArray, t, U', L, E, ce, hT, X', hL, e1, e2, hq, hce, hcv, vx_cls hW₁ hcl, st⟩
end Runs
section Rows
variable {p : Program} {l : Launch} {e : Env} {R : Room} {s : State} {m : MethodId} {args : Array Value} {below : List Frame} {meth : Method} {c : Code} {H : Heap} {locs : List Loc} {cells slots : Nat} {Q : State → Prop}
variable {mc ms : Nat} {free : Addr → Prop} {A0 A1 : Nat → Prop} {H0 : Heap} {a : Array Value} {pc : Nat} {ls : Array Slot} {st0 rest : List Value}
theorem vx_keep {st₀ t T' : State} {L : List Loc} (h0 : st₀.heap = H) (e1 : T'.heap = t.heap) (hS : va_S A0 H0 H locs) (hA : ∀ q, q < H.size → A1 q → A0 q) (hf : ∀ q, free q → A0 q) (hL : ∀ q ∈ L, free q.base) (hF : va_F A1 st₀ t) :
    H.size ≤ T'.heap.size ∧ (∀ q : Nat, q < H.size → ¬ A1 q → T'.heap[q]? = H[q]?) ∧ va_S A0 H0 T'.heap (locs ++ L) := by
  obtain ⟨hz, hk⟩ := hF
  rw [h0] at hz hk
  exact ⟨by rw [e1]; exact hz, fun q h1 h2 => by rw [e1]; exact hk q h1 h2,
    ⟨Nat.le_trans hS.1 (by rw [e1]; exact hz), fun q h1 h2 => by rw [e1, hk q (Nat.lt_of_lt_of_le h1 hS.1) (fun z => h2 (hA q (Nat.lt_of_lt_of_le h1 hS.1) z))]; exact hS.2.1 q h1 h2, fun q hq => by
      rcases List.mem_append.mp hq with h | h
      · exact hS.2.2 q h
      · exact hf _ (hL q h)⟩⟩
theorem vx_calli {S SX : Type} {post : Int32 → S → Prop} {px : SX → Prop} {B : S → State → Prop} {BX : String → SX → State → Prop} {AX : Nat → Prop} (hr : vx_Run p l e R s m args below meth c H locs cells slots mc ms (F0 m pc ls st0) rest (va_Qi post B A1 a) (vx_X px BX AX) free) (hS : va_S A0 H0 H locs) (hA : ∀ q, q < H.size → A1 q → A0 q) (hf : ∀ q, free q → A0 q) (hAX : ∀ q, q < H.size → AX q → A0 q)
    (kx : ∀ (E : String) (ce : Cell) (q9 : Addr) (u : SX) (t : State) (H1 : Heap) (locs1 : List Loc), t.heap = H1 → s.vm.Alike t.vm → px u → BX E u t → H.size ≤ H1.size → (∀ q : Nat, q < H.size → ¬ AX q → H1[q]? = H[q]?) → va_S A0 H0 H1 locs1 → H1[q9]? = some ce → ce.vm = .none → s.vm.findClass E = some ce.cls → vx_W p l e R s m args below meth c H1 locs1 (cells + mc) (slots + ms) Q (F0 m pc ls rest) q9)
    (kk : ∀ (r : Int32) (u : S) (t : State) (H1 : Heap) (locs1 : List Loc), t.heap = H1 → s.vm.Alike t.vm → post r u → B u t → H.size ≤ H1.size → (∀ q : Nat, q < H.size → ¬ A1 q → H1[q]? = H[q]?) → va_S A0 H0 H1 locs1 → W p l e R s m args below meth c H1 locs1 (cells + mc) (slots + ms) Q (F0 m (pc + 3) ls (.int r :: rest))) : W p l e R s m args below meth c H locs cells slots Q (F0 m pc ls st0) := by
  intro T hT X
  rcases hr T hT X with ⟨v, st₀, t, T', L, h0, X', hL, e1, e2, ⟨⟨r, u, hv, hp, hb⟩, hF⟩, st⟩ | ⟨q, st₀, t, T', L, E, ce, h0, X', hL, e1, e2, ⟨u, hp, hb, hF⟩, hce, hcv, hcl, st⟩
  · cases hv
    obtain ⟨k1, k2, k3⟩ := vx_keep h0 e1 hS hA hf hL hF
    obtain ⟨t2, a1, b1⟩ := kk r u t T'.heap (locs ++ L) e1.symm (by rw [← e2]; exact X'.warmed.alike) hp hb k1 k2 k3 T' rfl X'
    exact ⟨t2, st t2 a1, b1⟩
  · obtain ⟨k1, k2, k3⟩ := vx_keep h0 e1 hS hAX hf hL hF
    obtain ⟨t2, a1, b1⟩ := kx E ce q u t T'.heap (locs ++ L) e1.symm (by rw [← e2]; exact X'.warmed.alike) hp hb k1 k2 k3 (by rw [e1]; exact hce) hcv hcl T' rfl X'
    exact ⟨t2, st.trans a1, b1⟩
theorem vx_calll {S SX : Type} {post : Int64 → S → Prop} {px : SX → Prop} {B : S → State → Prop} {BX : String → SX → State → Prop} {AX : Nat → Prop} (hr : vx_Run p l e R s m args below meth c H locs cells slots mc ms (F0 m pc ls st0) rest (va_Ql post B A1 a) (vx_X px BX AX) free) (hS : va_S A0 H0 H locs) (hA : ∀ q, q < H.size → A1 q → A0 q) (hf : ∀ q, free q → A0 q) (hAX : ∀ q, q < H.size → AX q → A0 q)
    (kx : ∀ (E : String) (ce : Cell) (q9 : Addr) (u : SX) (t : State) (H1 : Heap) (locs1 : List Loc), t.heap = H1 → s.vm.Alike t.vm → px u → BX E u t → H.size ≤ H1.size → (∀ q : Nat, q < H.size → ¬ AX q → H1[q]? = H[q]?) → va_S A0 H0 H1 locs1 → H1[q9]? = some ce → ce.vm = .none → s.vm.findClass E = some ce.cls → vx_W p l e R s m args below meth c H1 locs1 (cells + mc) (slots + ms) Q (F0 m pc ls rest) q9)
    (kk : ∀ (r : Int64) (u : S) (t : State) (H1 : Heap) (locs1 : List Loc), t.heap = H1 → s.vm.Alike t.vm → post r u → B u t → H.size ≤ H1.size → (∀ q : Nat, q < H.size → ¬ A1 q → H1[q]? = H[q]?) → va_S A0 H0 H1 locs1 → W p l e R s m args below meth c H1 locs1 (cells + mc) (slots + ms) Q (F0 m (pc + 3) ls (.long r :: rest))) : W p l e R s m args below meth c H locs cells slots Q (F0 m pc ls st0) := by
  intro T hT X
  rcases hr T hT X with ⟨v, st₀, t, T', L, h0, X', hL, e1, e2, ⟨⟨r, u, hv, hp, hb⟩, hF⟩, st⟩ | ⟨q, st₀, t, T', L, E, ce, h0, X', hL, e1, e2, ⟨u, hp, hb, hF⟩, hce, hcv, hcl, st⟩
  · cases hv
    obtain ⟨k1, k2, k3⟩ := vx_keep h0 e1 hS hA hf hL hF
    obtain ⟨t2, a1, b1⟩ := kk r u t T'.heap (locs ++ L) e1.symm (by rw [← e2]; exact X'.warmed.alike) hp hb k1 k2 k3 T' rfl X'
    exact ⟨t2, st t2 a1, b1⟩
  · obtain ⟨k1, k2, k3⟩ := vx_keep h0 e1 hS hAX hf hL hF
    obtain ⟨t2, a1, b1⟩ := kx E ce q u t T'.heap (locs ++ L) e1.symm (by rw [← e2]; exact X'.warmed.alike) hp hb k1 k2 k3 (by rw [e1]; exact hce) hcv hcl T' rfl X'
    exact ⟨t2, st.trans a1, b1⟩
theorem vx_callf {S SX : Type} {post : UInt32 → S → Prop} {px : SX → Prop} {B : S → State → Prop} {BX : String → SX → State → Prop} {AX : Nat → Prop} (hr : vx_Run p l e R s m args below meth c H locs cells slots mc ms (F0 m pc ls st0) rest (va_Qf post B A1 a) (vx_X px BX AX) free) (hS : va_S A0 H0 H locs) (hA : ∀ q, q < H.size → A1 q → A0 q) (hf : ∀ q, free q → A0 q) (hAX : ∀ q, q < H.size → AX q → A0 q)
    (kx : ∀ (E : String) (ce : Cell) (q9 : Addr) (u : SX) (t : State) (H1 : Heap) (locs1 : List Loc), t.heap = H1 → s.vm.Alike t.vm → px u → BX E u t → H.size ≤ H1.size → (∀ q : Nat, q < H.size → ¬ AX q → H1[q]? = H[q]?) → va_S A0 H0 H1 locs1 → H1[q9]? = some ce → ce.vm = .none → s.vm.findClass E = some ce.cls → vx_W p l e R s m args below meth c H1 locs1 (cells + mc) (slots + ms) Q (F0 m pc ls rest) q9)
    (kk : ∀ (r : UInt32) (u : S) (t : State) (H1 : Heap) (locs1 : List Loc), t.heap = H1 → s.vm.Alike t.vm → post r u → B u t → H.size ≤ H1.size → (∀ q : Nat, q < H.size → ¬ A1 q → H1[q]? = H[q]?) → va_S A0 H0 H1 locs1 → W p l e R s m args below meth c H1 locs1 (cells + mc) (slots + ms) Q (F0 m (pc + 3) ls (.float r :: rest))) : W p l e R s m args below meth c H locs cells slots Q (F0 m pc ls st0) := by
  intro T hT X
  rcases hr T hT X with ⟨v, st₀, t, T', L, h0, X', hL, e1, e2, ⟨⟨r, u, hv, hp, hb⟩, hF⟩, st⟩ | ⟨q, st₀, t, T', L, E, ce, h0, X', hL, e1, e2, ⟨u, hp, hb, hF⟩, hce, hcv, hcl, st⟩
  · cases hv
    obtain ⟨k1, k2, k3⟩ := vx_keep h0 e1 hS hA hf hL hF
    obtain ⟨t2, a1, b1⟩ := kk r u t T'.heap (locs ++ L) e1.symm (by rw [← e2]; exact X'.warmed.alike) hp hb k1 k2 k3 T' rfl X'
    exact ⟨t2, st t2 a1, b1⟩
  · obtain ⟨k1, k2, k3⟩ := vx_keep h0 e1 hS hAX hf hL hF
    obtain ⟨t2, a1, b1⟩ := kx E ce q u t T'.heap (locs ++ L) e1.symm (by rw [← e2]; exact X'.warmed.alike) hp hb k1 k2 k3 (by rw [e1]; exact hce) hcv hcl T' rfl X'
    exact ⟨t2, st.trans a1, b1⟩
theorem vx_calld {S SX : Type} {post : UInt64 → S → Prop} {px : SX → Prop} {B : S → State → Prop} {BX : String → SX → State → Prop} {AX : Nat → Prop} (hr : vx_Run p l e R s m args below meth c H locs cells slots mc ms (F0 m pc ls st0) rest (va_Qd post B A1 a) (vx_X px BX AX) free) (hS : va_S A0 H0 H locs) (hA : ∀ q, q < H.size → A1 q → A0 q) (hf : ∀ q, free q → A0 q) (hAX : ∀ q, q < H.size → AX q → A0 q)
    (kx : ∀ (E : String) (ce : Cell) (q9 : Addr) (u : SX) (t : State) (H1 : Heap) (locs1 : List Loc), t.heap = H1 → s.vm.Alike t.vm → px u → BX E u t → H.size ≤ H1.size → (∀ q : Nat, q < H.size → ¬ AX q → H1[q]? = H[q]?) → va_S A0 H0 H1 locs1 → H1[q9]? = some ce → ce.vm = .none → s.vm.findClass E = some ce.cls → vx_W p l e R s m args below meth c H1 locs1 (cells + mc) (slots + ms) Q (F0 m pc ls rest) q9)
    (kk : ∀ (r : UInt64) (u : S) (t : State) (H1 : Heap) (locs1 : List Loc), t.heap = H1 → s.vm.Alike t.vm → post r u → B u t → H.size ≤ H1.size → (∀ q : Nat, q < H.size → ¬ A1 q → H1[q]? = H[q]?) → va_S A0 H0 H1 locs1 → W p l e R s m args below meth c H1 locs1 (cells + mc) (slots + ms) Q (F0 m (pc + 3) ls (.double r :: rest))) : W p l e R s m args below meth c H locs cells slots Q (F0 m pc ls st0) := by
  intro T hT X
  rcases hr T hT X with ⟨v, st₀, t, T', L, h0, X', hL, e1, e2, ⟨⟨r, u, hv, hp, hb⟩, hF⟩, st⟩ | ⟨q, st₀, t, T', L, E, ce, h0, X', hL, e1, e2, ⟨u, hp, hb, hF⟩, hce, hcv, hcl, st⟩
  · cases hv
    obtain ⟨k1, k2, k3⟩ := vx_keep h0 e1 hS hA hf hL hF
    obtain ⟨t2, a1, b1⟩ := kk r u t T'.heap (locs ++ L) e1.symm (by rw [← e2]; exact X'.warmed.alike) hp hb k1 k2 k3 T' rfl X'
    exact ⟨t2, st t2 a1, b1⟩
  · obtain ⟨k1, k2, k3⟩ := vx_keep h0 e1 hS hAX hf hL hF
    obtain ⟨t2, a1, b1⟩ := kx E ce q u t T'.heap (locs ++ L) e1.symm (by rw [← e2]; exact X'.warmed.alike) hp hb k1 k2 k3 (by rw [e1]; exact hce) hcv hcl T' rfl X'
    exact ⟨t2, st.trans a1, b1⟩
theorem vx_callv {S SX : Type} {post : S → Prop} {px : SX → Prop} {B : S → State → Prop} {BX : String → SX → State → Prop} {AX : Nat → Prop} (hr : vx_Run p l e R s m args below meth c H locs cells slots mc ms (F0 m pc ls st0) rest (va_Qv post B A1 a) (vx_X px BX AX) free) (hS : va_S A0 H0 H locs) (hA : ∀ q, q < H.size → A1 q → A0 q) (hf : ∀ q, free q → A0 q) (hAX : ∀ q, q < H.size → AX q → A0 q)
    (kx : ∀ (E : String) (ce : Cell) (q9 : Addr) (u : SX) (t : State) (H1 : Heap) (locs1 : List Loc), t.heap = H1 → s.vm.Alike t.vm → px u → BX E u t → H.size ≤ H1.size → (∀ q : Nat, q < H.size → ¬ AX q → H1[q]? = H[q]?) → va_S A0 H0 H1 locs1 → H1[q9]? = some ce → ce.vm = .none → s.vm.findClass E = some ce.cls → vx_W p l e R s m args below meth c H1 locs1 (cells + mc) (slots + ms) Q (F0 m pc ls rest) q9)
    (kk : ∀ (u : S) (t : State) (H1 : Heap) (locs1 : List Loc), t.heap = H1 → s.vm.Alike t.vm → post u → B u t → H.size ≤ H1.size → (∀ q : Nat, q < H.size → ¬ A1 q → H1[q]? = H[q]?) → va_S A0 H0 H1 locs1 → W p l e R s m args below meth c H1 locs1 (cells + mc) (slots + ms) Q (F0 m (pc + 3) ls (rest))) : W p l e R s m args below meth c H locs cells slots Q (F0 m pc ls st0) := by
  intro T hT X
  rcases hr T hT X with ⟨v, st₀, t, T', L, h0, X', hL, e1, e2, ⟨⟨u, hv, hp, hb⟩, hF⟩, st⟩ | ⟨q, st₀, t, T', L, E, ce, h0, X', hL, e1, e2, ⟨u, hp, hb, hF⟩, hce, hcv, hcl, st⟩
  · cases hv
    obtain ⟨k1, k2, k3⟩ := vx_keep h0 e1 hS hA hf hL hF
    obtain ⟨t2, a1, b1⟩ := kk u t T'.heap (locs ++ L) e1.symm (by rw [← e2]; exact X'.warmed.alike) hp hb k1 k2 k3 T' rfl X'
    exact ⟨t2, st t2 a1, b1⟩
  · obtain ⟨k1, k2, k3⟩ := vx_keep h0 e1 hS hAX hf hL hF
    obtain ⟨t2, a1, b1⟩ := kx E ce q u t T'.heap (locs ++ L) e1.symm (by rw [← e2]; exact X'.warmed.alike) hp hb k1 k2 k3 (by rw [e1]; exact hce) hcv hcl T' rfl X'
    exact ⟨t2, st.trans a1, b1⟩
/-- caught by the row x of this method's table; the rows ahead don't take it -/
theorem vx_catch {own name : String} {E : String} {ce : Cell} {q : Addr} (hown : s.vm.findClass own = some m.cls) (pre : List ExceptionTableEntry) (x : ExceptionTableEntry) (suf : List ExceptionTableEntry) (hsplit : c.exceptionTable.toList = pre ++ x :: suf)
    (hpass : ∀ z ∈ pre, covers z pc = false ∨ (z.catchType ≠ 0 ∧ ∃ nm : String, (Cond.classLink own z.catchType nm).before args s = true ∧ va_Nc E nm s)) (hx : covers x pc = true) (h0 : x.catchType ≠ 0)
    (hlink : (Cond.classLink own x.catchType name).before args s = true) (hcast : (Cond.castable E name).before args s = true) (hcell : H[q]? = some ce) (hv : ce.vm = .none) (hcl : s.vm.findClass E = some ce.cls)
    (kk : W p l e R s m args below meth c H locs cells slots Q (F0 m x.handlerPc ls [.ref q])) : vx_W p l e R s m args below meth c H locs cells slots Q (F0 m pc ls rest) q := by
  intro T hT X
  have hpl : e.platform.magicAccessors = ({} : Platform).magicAccessors := by rw [X.admits.platform]
  obtain ⟨c3, c4, hc3, hc4, hasg⟩ := Cond.castable_spec hcast
  cases Option.some.inj (hc3.symm.trans hcl)
  obtain ⟨c5, hc5, hcl5⟩ := Cond.classLink_spec hown hlink e.platform hpl
  cases Option.some.inj (hc4.symm.trans hc5)
  obtain ⟨vm', X', st⟩ := X.thenCaughtThrough q (g := F0 m pc ls rest) rfl (Steps.refl _) (by rw [hT]; exact hcell) (by rw [hv]; rfl) (by obtain ⟨k9, h9, -⟩ := Vm.findClass_spec hcl; exact ⟨k9, h9⟩) pre x suf hsplit
    (fun z hz => by
      rcases hpass z hz with h | ⟨hz0, nm, hl1, hn1⟩
      · exact Or.inl h
      · obtain ⟨c6, hc6, hcl6⟩ := Cond.classLink_spec hown hl1 e.platform hpl
        obtain ⟨a8, b8, h1, h2, h3⟩ := hn1
        cases Option.some.inj (h1.symm.trans hcl)
        cases Option.some.inj (h2.symm.trans hc6)
        exact Or.inr ⟨hz0, _, hcl6, h3⟩) hx (Or.inr ⟨h0, c4, hcl5, hasg⟩)
  obtain ⟨t, a1, b1⟩ := kk (T.setVm vm') hT X'
  exact ⟨t, st.trans a1, b1⟩
end Rows
section Ends
variable {p : Program} {l : Launch} {e : Env} {R : Room} {s : State} {m : MethodId} {args : Array Value} {below : List Frame} {meth : Method} {c : Code} {H : Heap} {locs : List Loc} {cells slots : Nat} {Q : State → Prop}
variable {mc ms : Nat} {free : Addr → Prop} {A0 A1 : Nat → Prop} {H0 : Heap} {a : Array Value} {ls : Array Slot} {st0 rest : List Value}
variable {Qc : Array Value → State → Outcome → State → Prop} {XC : String → State → State → Prop}
/-- what a body that may throw owes at its end -/
def vx_MQ (below : List Frame) (Qc : Array Value → State → Outcome → State → Prop) (XC : String → State → State → Prop) (a : Array Value) (s : State) (mc ms : Nat) (free : Addr → Prop) : State → Prop := fun t =>
  ∃ o, t.status = .running ∧ Ended t below o ∧ vx_Q Qc XC mc ms free a s o t
theorem vx_ret {g : JFrame} {mc ms : Nat} (k : W p l e R s m args below meth c H locs cells slots (MQ below Qc args s mc ms free) g) : W p l e R s m args below meth c H locs cells slots (vx_MQ below Qc XC args s mc ms free) g := by
  intro T hT X
  obtain ⟨t, a1, o, b1, b2, b3, b4⟩ := k T hT X
  exact ⟨t, a1, o, b1, b2, Or.inl ⟨b3, b4⟩⟩
/-- not caught here: it goes on to the caller -/
theorem vx_widen {g : JFrame} {q : Addr} {k n : Nat} (h1 : cells ≤ k) (h2 : slots ≤ n) (kk : vx_W p l e R s m args below meth c H locs k n Q g q) : vx_W p l e R s m args below meth c H locs cells slots Q g q := fun T hT X => kk T hT (stand_widen X h1 h2)
theorem vx_out {pc : Nat} {E : String} {ce : Cell} {q : Addr} {mc ms : Nat} (hout : ∀ x ∈ c.exceptionTable.toList, covers x pc = false) (hlocks : meth.locks = false) (hcell : H[q]? = some ce) (hv : ce.vm = .none) (hcl : s.vm.findClass E = some ce.cls)
    (hx : ∀ t : State, t.heap = H → s.vm.Alike t.vm → XC E s t) (hf : ∀ z ∈ locs, free z.base) (hc : cells ≤ mc) (hs : slots ≤ ms) :
    vx_W p l e R s m args below meth c H locs cells slots (vx_MQ below Qc XC args s mc ms free) (F0 m pc ls rest) q := by
  intro T hT X
  obtain ⟨st1, hrun, hend, hW, hsm⟩ := X.leaveThrown q (g := F0 m pc ls rest) rfl rfl rfl hout hlocks
  have hcell9 : (T.setFrames (.throwing q :: below)).heap[q]? = some ce := by
    show T.heap[q]? = some ce
    rw [hT]; exact hcell
  exact ⟨_, st1, .threw q, hrun, hend, Or.inr ⟨q, rfl, E, ce, locs, hx _ hT hW.alike, hcell9, hv, hcl, hW, hsm.mono hc hs, hf⟩⟩
theorem vx_frame {U : State} {k n : Nat} (h : s.sameButNew ({ U with vm := s.vm } : State) locs k n) : s.heap.size ≤ U.heap.size ∧ ∀ q : Nat, q < s.heap.size → (∀ z ∈ locs, z.base ≠ q) → U.heap[q]? = s.heap[q]? := by
  obtain ⟨-, h2, -, -, -, h6⟩ := h
  refine ⟨h2, fun q hq hz => ?_⟩
  obtain ⟨c9, e1, e2, e3, e4⟩ := h6 q _ (Array.getElem?_eq_getElem hq)
  have hs : c9.slots = (s.heap[q]).slots := Array.ext_getElem? fun i => e4 i fun hm => hz _ hm rfl
  have h9 : c9 = s.heap[q] := by
    rw [hs] at e2
    exact e2
  have e5 : U.heap[q]? = some c9 := e1
  rw [e5, h9, Array.getElem?_eq_getElem hq]
/-- the words of a throw but the four that speak of the heap -/
def vx_no (w : Cond) : Bool := decide (w ≠ .isRef (.static Bundle.tN "UNASSIGNED_STACK" Bundle.steD)) && decide (w ≠ .isRef (.static Bundle.tN "SUPPRESSED_SENTINEL" Bundle.listD)) && decide (w ≠ .laysStatic Bundle.tN "UNASSIGNED_STACK" Bundle.steD) && decide (w ≠ .laysStatic Bundle.tN "SUPPRESSED_SENTINEL" Bundle.listD)
def vx_at0 (own : String) (ic : Nat) (X : String) (names : List String) : List Cond := (Bundle.ownAtoms0 own ic X names).filter vx_no
def vx_atS (own : String) (ic : Nat) (X : String) (names : List String) : List Cond := (Bundle.ownAtoms own ic X names).filter vx_no
/-- a word that the tables alone decide, or a good one -/
def vx_ot (w : Cond) : Bool := w.onTables || goodWord w
theorem vx_ot_at {args a' : Array Value} {s U : State} {w : Cond} (hW : s.WarmedH U.vm) (hvm : s.vm = U.vm) (hg : vx_ot w = true) (h : w.before args s = true) : w.before a' U = true := by
  simp only [vx_ot, Bool.or_eq_true] at hg
  rcases hg with hg | hg
  · exact va_tabs hg hvm h
  · exact word_at hW (good_of_word hg) h
/-- a list's words: the good ones out of the method's own list, the others by premises of their own -/
theorem vx_hat {args : Array Value} {s : State} {L B : List Cond} (h1 : ∀ w ∈ L.filter goodWord, w.before args s = true) (h2 : ∀ w ∈ L.filter (fun w => !goodWord w), w ∈ B) (h3 : ∀ w ∈ B, w.before args s = true) : ∀ w ∈ L, w.before args s = true := by
  intro w hw
  by_cases g : goodWord w = true
  · exact h1 w (List.mem_filter.mpr ⟨hw, g⟩)
  · refine h3 w (h2 w (List.mem_filter.mpr ⟨hw, ?_⟩))
    show (!goodWord w) = true
    cases hgw : goodWord w
    · rfl
    · exact absurd hgw g
theorem vx_c {args : Array Value} {s : State} {w : Cond} {B : List Cond} (h : w.before args s = true) (t : ∀ w ∈ B, w.before args s = true) : ∀ w' ∈ w :: B, w'.before args s = true := fun w' h' => (List.mem_cons.mp h').elim (fun e => by rw [e]; exact h) (t w')
theorem vx_n {args : Array Value} {s : State} : ∀ w ∈ ([] : List Cond), w.before args s = true := fun _ h => nomatch h
theorem vx_own {args : Array Value} {s : State} {L : List Cond} (h1 : ∀ w ∈ L.filter vx_no, w.before args s = true)
    (hU : (Cond.isRef (.static Bundle.tN "UNASSIGNED_STACK" Bundle.steD)).before args s = true) (hN : (Cond.isRef (.static Bundle.tN "SUPPRESSED_SENTINEL" Bundle.listD)).before args s = true)
    (lU : (Cond.laysStatic Bundle.tN "UNASSIGNED_STACK" Bundle.steD).before args s = true) (lN : (Cond.laysStatic Bundle.tN "SUPPRESSED_SENTINEL" Bundle.listD).before args s = true) : ∀ w ∈ L, w.before args s = true := by
  intro w hw
  by_cases e1 : w = .isRef (.static Bundle.tN "UNASSIGNED_STACK" Bundle.steD)
  · rw [e1]; exact hU
  · by_cases e2 : w = .isRef (.static Bundle.tN "SUPPRESSED_SENTINEL" Bundle.listD)
    · rw [e2]; exact hN
    · by_cases e3 : w = .laysStatic Bundle.tN "UNASSIGNED_STACK" Bundle.steD
      · rw [e3]; exact lU
      · by_cases e4 : w = .laysStatic Bundle.tN "SUPPRESSED_SENTINEL" Bundle.listD
        · rw [e4]; exact lN
        · exact h1 w (List.mem_filter.mpr ⟨hw, by unfold vx_no; rw [decide_eq_true e1, decide_eq_true e2, decide_eq_true e3, decide_eq_true e4]; rfl⟩)
/-- where a static field lies, its class's statics cell in H -/
def vx_L (C n d : String) (A : Nat → Prop) (U : State) (H : Heap) : Prop := ∃ (c : ClassId) (k : Class) (i : Nat) (f : Field) (a : Nat) (cell : Cell), U.vm.findClass C = some c ∧ U.fieldFound? C n d = some (c, k, i, f) ∧ f.isStatic = true ∧ k.statics = some a ∧ H[a]? = some cell ∧ cell.vm.isStatics = true ∧ cell.cls = c ∧ f.slot < cell.slots.size ∧ k.staticTypes[f.slot]? = some f.type ∧ ¬ A a
theorem vx_L.moved {C n d : String} {A : Nat → Prop} {u U : State} {H : Heap} (hvm : u.vm.Alike U.vm) (h : vx_L C n d A u H) : vx_L C n d A U H := by
  obtain ⟨c, k, i, f, a, cell, h1, h2, h3, h4, h5, h6, h7, h8, h9, h10⟩ := h
  obtain ⟨k', hi', he⟩ := State.fieldFound?_setVm hvm h2
  exact ⟨c, k', i, f, a, cell, by rw [hvm.findClass]; exact h1, hi', h3, by rw [he]; exact h4, h5, h6, h7, h8, by rw [he]; exact h9, h10⟩
theorem vx_L.kept {C n d : String} {A : Nat → Prop} {U : State} {H H1 : Heap} (h : vx_L C n d A U H) (hq : ∀ a : Nat, a < H.size → ¬ A a → H1[a]? = H[a]?) : vx_L C n d A U H1 := by
  obtain ⟨c, k, i, f, a, cell, h1, h2, h3, h4, h5, h6, h7, h8, h9, h10⟩ := h
  exact ⟨c, k, i, f, a, cell, h1, h2, h3, h4, by rw [hq a (Array.getElem?_eq_some_iff.mp h5).1 h10]; exact h5, h6, h7, h8, h9, h10⟩
theorem vx_L.narrow {C n d : String} {A B : Nat → Prop} {U : State} {H : Heap} (h : vx_L C n d A U H) (hAB : ∀ q, B q → A q) : vx_L C n d B U H := by
  obtain ⟨c, k, i, f, a, cell, h1, h2, h3, h4, h5, h6, h7, h8, h9, h10⟩ := h
  exact ⟨c, k, i, f, a, cell, h1, h2, h3, h4, h5, h6, h7, h8, h9, fun z => h10 (hAB _ z)⟩
theorem vx_L.word {C n d : String} {A : Nat → Prop} {s : State} {args : Array Value} (h : vx_L C n d A s s.heap) : (Cond.laysStatic C n d).before args s = true := by
  obtain ⟨c, k, i, f, a, cell, h1, h2, h3, h4, h5, h6, h7, h8, h9, -⟩ := h
  show (Cond.laysStatic C n d).holds args s none s [] = true
  exact Cond.laysStatic_of h1 h2 h3 h4 h5 h6 h7 h8 h9
/-- .. and what it holds: null or some reference -/
def vx_Zq (C n d : String) (A : Nat → Prop) (U : State) (H : Heap) : Prop := va_Zq C n d A U H ∧ vx_L C n d A U H
theorem vx_Zq.moved {C n d : String} {A : Nat → Prop} {u U : State} {H : Heap} (hvm : u.vm.Alike U.vm) (h : vx_Zq C n d A u H) : vx_Zq C n d A U H := ⟨va_Zq.moved hvm h.1, vx_L.moved hvm h.2⟩
theorem vx_Zq.kept {C n d : String} {A : Nat → Prop} {U : State} {H H1 : Heap} (h : vx_Zq C n d A U H) (hq : ∀ a : Nat, a < H.size → ¬ A a → H1[a]? = H[a]?) : vx_Zq C n d A U H1 := ⟨va_Zq.kept h.1 hq, vx_L.kept h.2 hq⟩
theorem vx_Zq.narrow {C n d : String} {A B : Nat → Prop} {U : State} {H : Heap} (h : vx_Zq C n d A U H) (hAB : ∀ q, B q → A q) : vx_Zq C n d B U H := ⟨va_Zq.narrow h.1 hAB, vx_L.narrow h.2 hAB⟩
theorem vx_Zqof {args : Array Value} {s : State} {C n d : String} {A : Nat → Prop} (hl : (Cond.laysStatic C n d).before args s = true) (hini : (Cond.initialized C).before args s = true) (h : (Cond.isRef (.static C n d)).before args s = true) (hA : ∀ a : Nat, a < s.heap.size → ¬ A a) : vx_Zq C n d A s s.heap := by
  refine ⟨va_Zqof hl hini h hA, ?_⟩
  obtain ⟨c, k, i, f, a, cell, h1, h2, h3, h4, h5, h6, h7, h8, h9⟩ := Cond.laysStatic_spec hl
  exact ⟨c, k, i, f, a, cell, h1, h2, h3, h4, h5, h6, h7, h8, h9, hA a (Array.getElem?_eq_some_iff.mp h5).1⟩
theorem vx_isRef {C n d : String} {v : Value} {A : Nat → Prop} {s : State} {args : Array Value} (h : va_Z C n d v A s s.heap) (hv : v.isRef = true) : (Cond.isRef (.static C n d)).before args s = true := by
  obtain ⟨cf, kf, fi, f, a, cell, h1, h2, h3, h4, h5, h6, h7, -⟩ := h
  have he : (Term.static C n d).eval args s none [] s = some v := by
    simp [Term.eval, State.fieldNamed?, h1, h2, h4, h5, h6, h7]
  simp only [Cond.before, Cond.holds, Cond.value, he]
  cases v <;> simp_all [Value.isRef]
theorem vx_isRefq {C n d : String} {A : Nat → Prop} {s : State} {args : Array Value} (h : va_Zq C n d A s s.heap) : (Cond.isRef (.static C n d)).before args s = true := by
  rcases h with h | ⟨t, h⟩
  · exact vx_isRef h rfl
  · exact vx_isRef h rfl
/-- the same frame, seen from here: as if the method were called anew in this heap -/
theorem vx_rebase {T : State} (X : Stand p l e R s m args below meth c T locs cells slots) {R' : Room} (hf : R'.frames ≤ R.frames) (hl : R'.locals ≤ R.locals) (hc : cells + R'.cells ≤ R.cells) (hs : slots + R'.slots ≤ R.slots) :
    Stand p l e R' ((T.setVm s.vm).setFrames (.invoking m args :: below)) m args below meth c T [] 0 0 := by
  have htop : (T.setVm s.vm).topJava?.isSome := X.here.top
  have hF : ((T.setVm s.vm).setFrames (.invoking m args :: below)).frames = .invoking m args :: below := State.frames_setFrames _ (State.cur_lt_of_top htop)
  obtain ⟨g₀, hg0⟩ := Option.isSome_iff_exists.mp htop
  obtain ⟨r, hr⟩ := State.topJava?_eq_some.mp hg0
  have hl9 : e.platform.stackLimits (T.setVm s.vm).me = e.platform.stackLimits s.me := X.limits
  have hb9 : (T.setVm s.vm).me.stackBytes = s.me.stackBytes := X.bytes
  refine ⟨X.admits, X.cas, X.clock, hF, ?_, X.hears, X.method, X.code, X.here, X.tail, X.warmed, ?_, ?_, ?_⟩
  · have h := X.room
    have hU : ((T.setVm s.vm).setFrames (.invoking m args :: below)).localsInUse = s.localsInUse := by
      rw [State.localsInUse_invoking hF (meth := meth) (c := c) X.method X.code, State.localsInUse_invoking X.frames X.method X.code]
    simp only [State.hasRoom, Bool.and_eq_true, decide_eq_true_eq] at h ⊢
    obtain ⟨⟨⟨⟨h1, h2, h3, h4, h5, h6⟩, h7⟩, h8⟩, h9⟩ := h
    rw [X.frames, List.length_cons] at h2 h3
    have q1 := X.heapSize
    have q2 := X.used
    simp only [hF, hU, List.length_cons, State.stackLimits_setFrames, State.stackBytes_setFrames, hl9, hb9]
    refine ⟨⟨⟨⟨by omega, by omega, by omega, by omega, by omega, h6⟩, ?_⟩, ?_⟩, X.book⟩
    · show T.heap.size + R'.cells ≤ e.platform.maxCells
      omega
    · show T.slotsUsed + R'.slots ≤ e.platform.maxSlots
      omega
  · rw [State.stackLimits_setFrames]; rfl
  · rw [State.stackBytes_setFrames]; rfl
  · refine ⟨?_, Nat.le_refl _, Nat.le_refl _, ?_, ?_, fun a c9 h9 => ⟨c9, h9, rfl, rfl, fun _ _ => rfl⟩⟩
    · obtain ⟨t, ht, -⟩ := State.frames_cons hr
      show T.setVm s.vm = { ((T.setVm s.vm).setFrames (.invoking m args :: below)).setFrames (T.setVm s.vm).frames with heap := T.heap, slotsUsed := T.slotsUsed }
      rw [State.setFrames_setFrames, State.setFrames_self ht]
      rfl
    · show T.slotsUsed = T.slotsUsed + ((T.heap.toList.drop T.heap.size).map (·.slots.size)).sum
      rw [List.drop_eq_nil_of_le (Nat.le_of_eq Array.length_toList)]
      rfl
    · show ((T.heap.toList.drop T.heap.size).map (·.slots.size)).sum ≤ 0
      rw [List.drop_eq_nil_of_le (Nat.le_of_eq Array.length_toList)]
      exact Nat.le_refl _
/-- 'throw new E()': new; dup; invokespecial; athrow -/
theorem vx_throw0 {cc : ByteArray} {pc : Nat} (hexec : p.tables.exec = Jvm.exec) (hb : c.code = cc) (hl : l.stackTraces = false) {own cls : String} {names : List String} {ik ic mc ms : Nat} {A : Nat → Prop}
    (hown : s.vm.findClass own = some m.cls) (hcls : Bundle.fit cls = true) (hnames : ∀ n ∈ names, Bundle.fit n = true)
    (hk : (Cond.classLink own ik cls).before args s = true) (hini : (Cond.initialized cls).before args s = true) (hat : ∀ w ∈ vx_at0 own ic cls names, w.before args s = true)
    (hgood : ∀ w ∈ Cond.classLink own ik cls :: Cond.initialized cls :: vx_at0 own ic cls names, vx_ot w = true)
    (hU : vx_Zq Bundle.tN "UNASSIGNED_STACK" Bundle.steD A s s.heap) (hN : vx_Zq Bundle.tN "SUPPRESSED_SENTINEL" Bundle.listD A s s.heap) (hS : va_S A s.heap H locs) (hsize : ls.size = c.maxLocals)
    (d0 : decode cc pc = .ok (.new ik, 3)) (d3 : decode cc (pc + 3) = .ok (.dup, 1)) (d4 : decode cc (pc + 4) = .ok (.invokespecial ic, 3)) (d7 : decode cc (pc + 7) = .ok (.athrow, 1))
    (hout : ∀ x ∈ c.exceptionTable.toList, covers x (pc + 7) = false)
    (hRframes : names.length + 3 < R.frames) (hRlocals : (rest.map fun v => v.category).sum + (13 * (names.length + 1) + 42) ≤ R.locals) (hRcells : cells + 1 ≤ R.cells) (hRslots : slots + 6 ≤ R.slots) (hlocks : meth.locks = false)
    (hx : ∀ t : State, s.vm.Alike t.vm → H.size ≤ t.heap.size → (∀ q : Nat, q < H.size → t.heap[q]? = H[q]?) → XC cls s t)
    (hf : ∀ z ∈ locs, free z.base) (hc : cells + 1 ≤ mc) (hs : slots + 6 ≤ ms) :
    W p l e R s m args below meth c H locs cells slots (vx_MQ below Qc XC args s mc ms free) (F0 m pc ls rest) := by
  intro T hT X
  have htr : e.platform.stackTraces = false := (show e.platform.stackTraces = l.stackTraces by rw [X.admits.platform]).trans hl
  have Y := vx_rebase X (R' := { frames := R.frames, locals := R.locals, cells := 1, slots := 6 }) (Nat.le_refl _) (Nat.le_refl _) hRcells hRslots
  obtain ⟨s', hA⟩ : ∃ z, z = (T.setVm s.vm).setFrames (.invoking m args :: below) := ⟨_, rfl⟩
  rw [← hA] at Y
  have hvm : s'.vm = s.vm := by rw [hA]; rfl
  have hhp : s'.heap = H := by rw [hA]; exact hT
  have hW0 : s.WarmedH s'.vm := by rw [hvm]; exact State.WarmedH.refl s
  have hat' : ∀ w ∈ vx_at0 own ic cls names, w.before args s' = true := fun w hw => vx_ot_at hW0 hvm.symm (hgood w (List.mem_cons_of_mem _ (List.mem_cons_of_mem _ hw))) (hat w hw)
  have hk' : (Cond.classLink own ik cls).before args s' = true := vx_ot_at hW0 hvm.symm (hgood _ List.mem_cons_self) hk
  have hini' : (Cond.initialized cls).before args s' = true := vx_ot_at hW0 hvm.symm (hgood _ (List.mem_cons_of_mem _ List.mem_cons_self)) hini
  have hU' : vx_Zq Bundle.tN "UNASSIGNED_STACK" Bundle.steD A s' s'.heap := by rw [hhp]; exact vx_Zq.moved hW0.alike (hU.kept hS.2.1)
  have hN' : vx_Zq Bundle.tN "SUPPRESSED_SENTINEL" Bundle.listD A s' s'.heap := by rw [hhp]; exact vx_Zq.moved hW0.alike (hN.kept hS.2.1)
  have h : ∀ w ∈ Bundle.ownAtoms0 own ic cls names, w.before args s' = true := vx_own hat' (vx_isRefq hU'.1) (vx_isRefq hN'.1) hU'.2.word hN'.2.word
  have hown' : s'.vm.findClass own = some m.cls := by rw [hvm]; exact hown
  have hins : (Cond.instantiable cls 6).before args s' = true := h _ (by simp [Bundle.ownAtoms0])
  obtain ⟨vm₁, cX, kX, hfX, hkX, -, -, X₁, st1⟩ := Y.newCold hexec (own := own) (C := cls) (index := ik) (n := 6) hown' hk' hins hini'
    (g := F0 m pc ls rest) rfl (by rw [hb]; exact d0) (Nat.le_refl _) (Nat.le_refl _)
  generalize hT1 : (T.setVm vm₁).pushCell { cls := cX, slots := kX.instanceTypes.map defaultValue, vm := .none } = T1 at X₁ st1
  have hcat : (Value.ref T.heap.size).category = 1 := rfl
  have hcellA : T1.heap[T.heap.size]? = some (freshCell cX kX) := by rw [← hT1]; exact State.heap_pushCell_size _ _
  have d3' : decode c.code (pc + 3) = .ok (.dup, 1) := by rw [hb]; exact d3
  obtain ⟨U, hsteps, hrun, hend, hW, hsame, ce, hce, hO⟩ := X₁.ctorThrow0 hexec htr (own := own) (cls := cls) (names := names) (ic := ic) hown' hcls hnames h (fun x hx => nomatch hx) hfX hkX hcellA (by rw [hhp, hT]; exact Nat.le_refl _)
    (g := { method := m, pc := pc + 4, locals := ls, stack := .ref T.heap.size :: .ref T.heap.size :: rest, locked := none }) rfl hsize rfl rfl (rest := rest) rfl
    (by rw [hb]; exact d4) (by rw [hb]; exact d7) hout hRframes (by simp only [List.map_cons, List.sum_cons, hcat]; omega) hlocks
  obtain ⟨f1, f2⟩ := vx_frame hsame
  rw [hhp] at f1 f2
  have hWs : s.WarmedH U.vm := State.WarmedH.trans hW0 hW
  have hcl : s.vm.findClass cls = some ce.cls := by
    have h9 := hO.cls
    rw [hvm] at h9
    exact h9
  have hall : s.sameButNew ({ U with vm := s.vm } : State) locs mc ms := by
    subst hA
    obtain ⟨e1, e2⟩ := hsame
    rw [State.setFrames_setFrames] at e1
    have h2 : (T.setVm s.vm).sameButNew ({ U with vm := s.vm } : State) [] (0 + 1) (0 + 6) := ⟨e1, e2⟩
    have h3 := X.same.trans h2
    rw [List.append_nil] at h3
    exact h3.mono hc hs
  refine ⟨U, ?_, .threw T.heap.size, hrun, hend, Or.inr ⟨T.heap.size, rfl, cls, ce, locs, hx U hWs.alike f1 (fun q hq => f2 q hq (fun z hz => nomatch hz)), hce, hO.vm, hcl, hWs, hall, hf⟩⟩
  refine st1 _ ?_
  show Steps p.tables e below (T1.setTop { method := m, pc := pc + 3, locals := ls, stack := .ref T.heap.size :: rest, locked := none }) _
  jvm_step X₁.here [X₁.here.top, hexec, d3', Value.category]
  exact hsteps
/-- 'throw new E("text")': new; dup; ldc; invokespecial; athrow -/
theorem vx_throwS {cc : ByteArray} {pc : Nat} (hexec : p.tables.exec = Jvm.exec) (hb : c.code = cc) (hl : l.stackTraces = false) {own cls text : String} {names : List String} {ik is ic mc ms sa : Nat} {A : Nat → Prop}
    (hown : s.vm.findClass own = some m.cls) (hcls : Bundle.fit cls = true) (hnames : ∀ n ∈ names, Bundle.fit n = true)
    (hk : (Cond.classLink own ik cls).before args s = true) (hini : (Cond.initialized cls).before args s = true) (hstr : vk_R own is text sa s) (hat : ∀ w ∈ vx_atS own ic cls names, w.before args s = true)
    (hgood : ∀ w ∈ Cond.classLink own ik cls :: Cond.initialized cls :: vx_atS own ic cls names, vx_ot w = true)
    (hU : vx_Zq Bundle.tN "UNASSIGNED_STACK" Bundle.steD A s s.heap) (hN : vx_Zq Bundle.tN "SUPPRESSED_SENTINEL" Bundle.listD A s s.heap) (hS : va_S A s.heap H locs) (hsize : ls.size = c.maxLocals)
    (d0 : decode cc pc = .ok (.new ik, 3)) (d3 : decode cc (pc + 3) = .ok (.dup, 1)) (d4 : decode cc (pc + 4) = .ok (.ldc is, 2)) (d6 : decode cc (pc + 6) = .ok (.invokespecial ic, 3)) (d9 : decode cc (pc + 9) = .ok (.athrow, 1))
    (hout : ∀ x ∈ c.exceptionTable.toList, covers x (pc + 9) = false)
    (hRframes : names.length + 3 < R.frames) (hRlocals : (rest.map fun v => v.category).sum + (13 * (names.length + 1) + 43) ≤ R.locals) (hRcells : cells + 1 ≤ R.cells) (hRslots : slots + 6 ≤ R.slots) (hlocks : meth.locks = false)
    (hx : ∀ t : State, s.vm.Alike t.vm → H.size ≤ t.heap.size → (∀ q : Nat, q < H.size → t.heap[q]? = H[q]?) → XC cls s t)
    (hf : ∀ z ∈ locs, free z.base) (hc : cells + 1 ≤ mc) (hs : slots + 6 ≤ ms) :
    W p l e R s m args below meth c H locs cells slots (vx_MQ below Qc XC args s mc ms free) (F0 m pc ls rest) := by
  intro T hT X
  have htr : e.platform.stackTraces = false := (show e.platform.stackTraces = l.stackTraces by rw [X.admits.platform]).trans hl
  have Y := vx_rebase X (R' := { frames := R.frames, locals := R.locals, cells := 1, slots := 6 }) (Nat.le_refl _) (Nat.le_refl _) hRcells hRslots
  obtain ⟨s', hA⟩ : ∃ z, z = (T.setVm s.vm).setFrames (.invoking m args :: below) := ⟨_, rfl⟩
  rw [← hA] at Y
  have hvm : s'.vm = s.vm := by rw [hA]; rfl
  have hhp : s'.heap = H := by rw [hA]; exact hT
  have hW0 : s.WarmedH s'.vm := by rw [hvm]; exact State.WarmedH.refl s
  have hat' : ∀ w ∈ vx_atS own ic cls names, w.before args s' = true := fun w hw => vx_ot_at hW0 hvm.symm (hgood w (List.mem_cons_of_mem _ (List.mem_cons_of_mem _ hw))) (hat w hw)
  have hk' : (Cond.classLink own ik cls).before args s' = true := vx_ot_at hW0 hvm.symm (hgood _ List.mem_cons_self) hk
  have hini' : (Cond.initialized cls).before args s' = true := vx_ot_at hW0 hvm.symm (hgood _ (List.mem_cons_of_mem _ List.mem_cons_self)) hini
  have hU' : vx_Zq Bundle.tN "UNASSIGNED_STACK" Bundle.steD A s' s'.heap := by rw [hhp]; exact vx_Zq.moved hW0.alike (hU.kept hS.2.1)
  have hN' : vx_Zq Bundle.tN "SUPPRESSED_SENTINEL" Bundle.listD A s' s'.heap := by rw [hhp]; exact vx_Zq.moved hW0.alike (hN.kept hS.2.1)
  have h : ∀ w ∈ Bundle.ownAtoms own ic cls names, w.before args s' = true := vx_own hat' (vx_isRefq hU'.1) (vx_isRefq hN'.1) hU'.2.word hN'.2.word
  have hown' : s'.vm.findClass own = some m.cls := by rw [hvm]; exact hown
  have hins : (Cond.instantiable cls 6).before args s' = true := h _ (by simp [Bundle.ownAtoms])
  obtain ⟨vm₁, cX, kX, hfX, hkX, -, -, X₁, st1⟩ := Y.newCold hexec (own := own) (C := cls) (index := ik) (n := 6) hown' hk' hins hini'
    (g := F0 m pc ls rest) rfl (by rw [hb]; exact d0) (Nat.le_refl _) (Nat.le_refl _)
  generalize hT1 : (T.setVm vm₁).pushCell { cls := cX, slots := kX.instanceTypes.map defaultValue, vm := .none } = T1 at X₁ st1
  have hcat : (Value.ref T.heap.size).category = 1 := rfl
  have hcellA : T1.heap[T.heap.size]? = some (freshCell cX kX) := by rw [← hT1]; exact State.heap_pushCell_size _ _
  have d3' : decode c.code (pc + 3) = .ok (.dup, 1) := by rw [hb]; exact d3
  have d4' : decode c.code (pc + 4) = .ok (.ldc is, 2) := by rw [hb]; exact d4
  have hstr' : vk_R own is text sa s' := vk_R.warm hW0 hstr
  obtain ⟨U, hsteps, hrun, hend, hW, hsame, ce, hce, hO⟩ := X₁.ctorThrowS hexec htr (own := own) (cls := cls) (names := names) (ic := ic) hown' hcls hnames h (fun x hx => nomatch hx) hfX hkX hcellA (by rw [hhp, hT]; exact Nat.le_refl _) (msg := .ref sa) rfl
    (g := { method := m, pc := pc + 6, locals := ls, stack := .ref sa :: .ref T.heap.size :: .ref T.heap.size :: rest, locked := none }) rfl hsize rfl rfl (rest := rest) rfl
    (by rw [hb]; exact d6) (by rw [hb]; exact d9) hout hRframes (by simp only [List.map_cons, List.sum_cons, hcat]; omega) hlocks
  obtain ⟨f1, f2⟩ := vx_frame hsame
  rw [hhp] at f1 f2
  have hWs : s.WarmedH U.vm := State.WarmedH.trans hW0 hW
  have hcl : s.vm.findClass cls = some ce.cls := by
    have h9 := hO.cls
    rw [hvm] at h9
    exact h9
  have hall : s.sameButNew ({ U with vm := s.vm } : State) locs mc ms := by
    subst hA
    obtain ⟨e1, e2⟩ := hsame
    rw [State.setFrames_setFrames] at e1
    have h2 : (T.setVm s.vm).sameButNew ({ U with vm := s.vm } : State) [] (0 + 1) (0 + 6) := ⟨e1, e2⟩
    have h3 := X.same.trans h2
    rw [List.append_nil] at h3
    exact h3.mono hc hs
  refine ⟨U, ?_, .threw T.heap.size, hrun, hend, Or.inr ⟨T.heap.size, rfl, cls, ce, locs, hx U hWs.alike f1 (fun q hq => f2 q hq (fun z hz => nomatch hz)), hce, hO.vm, hcl, hWs, hall, hf⟩⟩
  refine st1 _ ?_
  show Steps p.tables e below (T1.setTop { method := m, pc := pc + 3, locals := ls, stack := .ref T.heap.size :: rest, locked := none }) _
  jvm_step X₁.here [X₁.here.top, hexec, d3', Value.category]
  exact X₁.ldcString hexec (own := own) (text := text) (index := is) (a := sa) hown' hstr'.1 hstr'.2
    (g := { method := m, pc := pc + 4, locals := ls, stack := .ref T.heap.size :: .ref T.heap.size :: rest, locked := none }) rfl d4' _ hsteps
/-- 'throw new E("text")', the text by a wide index -/
theorem vx_throwSW {cc : ByteArray} {pc : Nat} (hexec : p.tables.exec = Jvm.exec) (hb : c.code = cc) (hl : l.stackTraces = false) {own cls text : String} {names : List String} {ik is ic mc ms sa : Nat} {A : Nat → Prop}
    (hown : s.vm.findClass own = some m.cls) (hcls : Bundle.fit cls = true) (hnames : ∀ n ∈ names, Bundle.fit n = true)
    (hk : (Cond.classLink own ik cls).before args s = true) (hini : (Cond.initialized cls).before args s = true) (hstr : vk_R own is text sa s) (hat : ∀ w ∈ vx_atS own ic cls names, w.before args s = true)
    (hgood : ∀ w ∈ Cond.classLink own ik cls :: Cond.initialized cls :: vx_atS own ic cls names, vx_ot w = true)
    (hU : vx_Zq Bundle.tN "UNASSIGNED_STACK" Bundle.steD A s s.heap) (hN : vx_Zq Bundle.tN "SUPPRESSED_SENTINEL" Bundle.listD A s s.heap) (hS : va_S A s.heap H locs) (hsize : ls.size = c.maxLocals)
    (d0 : decode cc pc = .ok (.new ik, 3)) (d3 : decode cc (pc + 3) = .ok (.dup, 1)) (d4 : decode cc (pc + 4) = .ok (.ldc_w is, 3)) (d7 : decode cc (pc + 7) = .ok (.invokespecial ic, 3)) (d10 : decode cc (pc + 10) = .ok (.athrow, 1))
    (hout : ∀ x ∈ c.exceptionTable.toList, covers x (pc + 10) = false)
    (hRframes : names.length + 3 < R.frames) (hRlocals : (rest.map fun v => v.category).sum + (13 * (names.length + 1) + 43) ≤ R.locals) (hRcells : cells + 1 ≤ R.cells) (hRslots : slots + 6 ≤ R.slots) (hlocks : meth.locks = false)
    (hx : ∀ t : State, s.vm.Alike t.vm → H.size ≤ t.heap.size → (∀ q : Nat, q < H.size → t.heap[q]? = H[q]?) → XC cls s t)
    (hf : ∀ z ∈ locs, free z.base) (hc : cells + 1 ≤ mc) (hs : slots + 6 ≤ ms) :
    W p l e R s m args below meth c H locs cells slots (vx_MQ below Qc XC args s mc ms free) (F0 m pc ls rest) := by
  intro T hT X
  have htr : e.platform.stackTraces = false := (show e.platform.stackTraces = l.stackTraces by rw [X.admits.platform]).trans hl
  have Y := vx_rebase X (R' := { frames := R.frames, locals := R.locals, cells := 1, slots := 6 }) (Nat.le_refl _) (Nat.le_refl _) hRcells hRslots
  obtain ⟨s', hA⟩ : ∃ z, z = (T.setVm s.vm).setFrames (.invoking m args :: below) := ⟨_, rfl⟩
  rw [← hA] at Y
  have hvm : s'.vm = s.vm := by rw [hA]; rfl
  have hhp : s'.heap = H := by rw [hA]; exact hT
  have hW0 : s.WarmedH s'.vm := by rw [hvm]; exact State.WarmedH.refl s
  have hat' : ∀ w ∈ vx_atS own ic cls names, w.before args s' = true := fun w hw => vx_ot_at hW0 hvm.symm (hgood w (List.mem_cons_of_mem _ (List.mem_cons_of_mem _ hw))) (hat w hw)
  have hk' : (Cond.classLink own ik cls).before args s' = true := vx_ot_at hW0 hvm.symm (hgood _ List.mem_cons_self) hk
  have hini' : (Cond.initialized cls).before args s' = true := vx_ot_at hW0 hvm.symm (hgood _ (List.mem_cons_of_mem _ List.mem_cons_self)) hini
  have hU' : vx_Zq Bundle.tN "UNASSIGNED_STACK" Bundle.steD A s' s'.heap := by rw [hhp]; exact vx_Zq.moved hW0.alike (hU.kept hS.2.1)
  have hN' : vx_Zq Bundle.tN "SUPPRESSED_SENTINEL" Bundle.listD A s' s'.heap := by rw [hhp]; exact vx_Zq.moved hW0.alike (hN.kept hS.2.1)
  have h : ∀ w ∈ Bundle.ownAtoms own ic cls names, w.before args s' = true := vx_own hat' (vx_isRefq hU'.1) (vx_isRefq hN'.1) hU'.2.word hN'.2.word
  have hown' : s'.vm.findClass own = some m.cls := by rw [hvm]; exact hown
  have hins : (Cond.instantiable cls 6).before args s' = true := h _ (by simp [Bundle.ownAtoms])
  obtain ⟨vm₁, cX, kX, hfX, hkX, -, -, X₁, st1⟩ := Y.newCold hexec (own := own) (C := cls) (index := ik) (n := 6) hown' hk' hins hini'
    (g := F0 m pc ls rest) rfl (by rw [hb]; exact d0) (Nat.le_refl _) (Nat.le_refl _)
  generalize hT1 : (T.setVm vm₁).pushCell { cls := cX, slots := kX.instanceTypes.map defaultValue, vm := .none } = T1 at X₁ st1
  have hcat : (Value.ref T.heap.size).category = 1 := rfl
  have hcellA : T1.heap[T.heap.size]? = some (freshCell cX kX) := by rw [← hT1]; exact State.heap_pushCell_size _ _
  have d3' : decode c.code (pc + 3) = .ok (.dup, 1) := by rw [hb]; exact d3
  have d4' : decode c.code (pc + 4) = .ok (.ldc_w is, 3) := by rw [hb]; exact d4
  have hstr' : vk_R own is text sa s' := vk_R.warm hW0 hstr
  obtain ⟨U, hsteps, hrun, hend, hW, hsame, ce, hce, hO⟩ := X₁.ctorThrowS hexec htr (own := own) (cls := cls) (names := names) (ic := ic) hown' hcls hnames h (fun x hx => nomatch hx) hfX hkX hcellA (by rw [hhp, hT]; exact Nat.le_refl _) (msg := .ref sa) rfl
    (g := { method := m, pc := pc + 7, locals := ls, stack := .ref sa :: .ref T.heap.size :: .ref T.heap.size :: rest, locked := none }) rfl hsize rfl rfl (rest := rest) rfl
    (by rw [hb]; exact d7) (by rw [hb]; exact d10) hout hRframes (by simp only [List.map_cons, List.sum_cons, hcat]; omega) hlocks
  obtain ⟨f1, f2⟩ := vx_frame hsame
  rw [hhp] at f1 f2
  have hWs : s.WarmedH U.vm := State.WarmedH.trans hW0 hW
  have hcl : s.vm.findClass cls = some ce.cls := by
    have h9 := hO.cls
    rw [hvm] at h9
    exact h9
  have hall : s.sameButNew ({ U with vm := s.vm } : State) locs mc ms := by
    subst hA
    obtain ⟨e1, e2⟩ := hsame
    rw [State.setFrames_setFrames] at e1
    have h2 : (T.setVm s.vm).sameButNew ({ U with vm := s.vm } : State) [] (0 + 1) (0 + 6) := ⟨e1, e2⟩
    have h3 := X.same.trans h2
    rw [List.append_nil] at h3
    exact h3.mono hc hs
  refine ⟨U, ?_, .threw T.heap.size, hrun, hend, Or.inr ⟨T.heap.size, rfl, cls, ce, locs, hx U hWs.alike f1 (fun q hq => f2 q hq (fun z hz => nomatch hz)), hce, hO.vm, hcl, hWs, hall, hf⟩⟩
  refine st1 _ ?_
  show Steps p.tables e below (T1.setTop { method := m, pc := pc + 3, locals := ls, stack := .ref T.heap.size :: rest, locked := none }) _
  jvm_step X₁.here [X₁.here.top, hexec, d3', Value.category]
  exact X₁.ldcStringW hexec (own := own) (text := text) (index := is) (a := sa) hown' hstr'.1 hstr'.2
    (g := { method := m, pc := pc + 4, locals := ls, stack := .ref T.heap.size :: .ref T.heap.size :: rest, locked := none }) rfl d4' _ hsteps
end Ends
section Bodies
variable {l : Launch}
theorem vx_ofW {y : MethodName} {ws ws' : List Cond} {rm : Room} {Pc : Array Value → State → Prop} {Qc : Array Value → State → Outcome → State → Prop} {XC : String → State → State → Prop} {mc ms : Nat} {free : Addr → Prop} {cc : ByteArray} {maxL : Nat} {ret : Option FieldType}
    (hy : plainName y.cls = true) (hw : ws = Cond.code y cc maxL ret :: ws')
    (body : ∀ p e s m args below meth c s₁, BodyLoose p l y (headSpec ws rm) cc maxL ret e s m args below meth c s₁ → c.maxLocals = maxL → (∀ x ∈ c.exceptionTable.toList, False) → Pc args s →
      W p l e (headSpec ws rm).room s m args below meth c s.heap [] 0 0 (vx_MQ below Qc XC args s mc ms free) (entryFrame m args maxL)) : vx_Met l y ws rm Pc Qc XC mc ms free := by
  refine MetFree.of_bodyS (code := cc) (maxLocals := maxL) (ret := ret) hy ?_ ?_
  · intro args s m h hn
    obtain ⟨meth, c, h1, h2, h3, h4, h5, h6, -, -⟩ := Cond.code_spec hn (atoms_spec (ws := ws) h _ (by rw [hw]; exact List.mem_cons_self))
    exact ⟨meth, c, h1, h2, h3, h4, h5, h6⟩
  · intro p e s m args below meth c s₁ B hml hP _
    have hh0 : s₁.heap = s.heap := by rw [B.state]; rfl
    have ht : ∀ x ∈ c.exceptionTable.toList, False := by
      obtain ⟨meth9, c9, h1, h2, -, -, -, -, h7, -⟩ := Cond.code_spec B.named (atoms_spec (ws := ws) B.pre _ (by rw [hw]; exact List.mem_cons_self))
      cases Option.some.inj (h1.symm.trans B.method)
      cases Option.some.inj (h2.symm.trans (Stand.of_body B).code)
      intro x hx
      rw [Array.isEmpty_iff.mp h7] at hx
      cases hx
    obtain ⟨t, a1, o, b1, b2, b3⟩ := body p e s m args below meth c s₁ B hml ht hP s₁ hh0 (Stand.of_body B)
    exact ⟨t, o, a1, b1, b2, b3⟩
/-- the table of a body with handlers -/
theorem vx_table {p : Program} {x y : MethodName} {S : Spec} {cc bytes : ByteArray} {maxL maxL' : Nat} {ret ret' : Option FieldType} {e : Env} {s s₁ : State} {m : MethodId} {args : Array Value} {below : List Frame} {meth : Method} {c : Code} {hh : List (Nat × Nat × Nat × Nat)}
    (B : BodyLoose p l y S cc maxL ret e s m args below meth c s₁) (h : (Cond.codeWith y bytes maxL' ret' hh).before args s = true) : c.exceptionTable.toList = tableOf hh := by
  obtain ⟨m9, meth9, c9, hn9, h1, h2, -, -, h6, -⟩ := Cond.codeWith_spec h
  cases Option.some.inj (hn9.symm.trans B.named)
  cases Option.some.inj (h1.symm.trans B.method)
  cases Option.some.inj (h2.symm.trans (Stand.of_body B).code)
  rw [← h6, table_eq]
end Bodies
end VXA
/-! ===== END ===== -/
/-! ===== BEGIN a static call of a method with an exception table ===== -/
section VXS
variable {p : Program} {l : Launch} {e : Env} {R : Room} {s : State} {m : MethodId} {args : Array Value} {below : List Frame} {meth : Method} {c : Code} {T : State} {H : Heap} {locs : List Loc} {cells slots : Nat}
abbrev vx_CSW (R : Room) (s : State) (args : Array Value) (own : String) (index : Nat) (y : MethodName) (bytes : ByteArray) (maxL : Nat) (ret : Option FieldType) (hh : List (Nat × Nat × Nat × Nat)) (ws : List Cond) (rm : Room) (mc ms n : Nat) : Prop :=
  (rm.cells = mc ∧ rm.slots = ms ∧ rm.frames + 1 ≤ R.frames ∧ 8 + (maxL + 11) + rm.locals ≤ R.locals ∧ (∀ w ∈ ws, ∀ (a' : Array Value) (U : State), s.WarmedH U.vm → w.before a' U = true) ∧ Cond.codeWith y bytes maxL ret hh ∈ ws) ∧
  (Cond.codeWith y bytes maxL ret hh).before args s = true ∧ (Cond.initialized y.cls).before args s = true ∧ (y.cls ≠ "java/lang/invoke/MethodHandle" ∧ y.cls ≠ "java/lang/invoke/VarHandle") ∧
  (∀ sig, parseMethodDescriptor y.desc = some sig → n = sig.parameters.length) ∧ (Cond.methodLink own index y).before args s = true ∧ (Cond.static y).before args s = true
theorem vx_cwSW {own : String} {index maxL mc ms : Nat} {y : MethodName} {bytes : ByteArray} {ret : Option FieldType} {hh : List (Nat × Nat × Nat × Nat)} {Ts ws ws' : List Cond} {rm : Room} (n : Nat) (ht : ∀ w ∈ Ts, w.before args s = true) (hT : GoodIn Ts (va_wsS own index y ws)) (hw : ws = Cond.codeWith y bytes maxL ret hh :: ws') (hrc : rm.cells = mc) (hrs : rm.slots = ms)
    (hd : y.cls ≠ "java/lang/invoke/MethodHandle" ∧ y.cls ≠ "java/lang/invoke/VarHandle" ∧ (parseMethodDescriptor y.desc).map (fun d => d.parameters.length) = some n) (hR : rm.frames + 1 ≤ R.frames ∧ 8 + (maxL + 11) + rm.locals ≤ R.locals) :
    vx_CSW R s args own index y bytes maxL ret hh ws rm mc ms n := by
  have ok : ∀ w ∈ va_wsS own index y ws, w.before args s = true := fun w h => ht w (hT w h).1
  have hG : GoodIn Ts ws := fun w h => hT w (by unfold va_wsS; exact List.mem_append_right _ h)
  have hc : Cond.codeWith y bytes maxL ret hh ∈ ws := by rw [hw]; exact List.mem_cons_self
  refine ⟨⟨hrc, hrs, hR.1, hR.2, pay_in ht hG, hc⟩, ht _ (hG _ hc).1, ok _ (by simp [va_wsS]), ⟨hd.1, hd.2.1⟩, fun sig h => ?_, ok _ (by simp [va_wsS]), ok _ (by simp [va_wsS])⟩
  have h2 := hd.2.2
  rw [h] at h2
  exact (Option.some.inj h2).symm
theorem vx_callSW (X : Stand p l e R s m args below meth c T locs cells slots) (hexec : p.tables.exec = Jvm.exec) {own : String} {index : Nat} {y : MethodName} {bytes : ByteArray} {maxL : Nat} {ret : Option FieldType} {hh : List (Nat × Nat × Nat × Nat)}
    (hown : s.vm.findClass own = some m.cls) (hlink : (Cond.methodLink own index y).before args s = true) (hstat : (Cond.static y).before args s = true) (hinit : (Cond.initialized y.cls).before args s = true)
    (hcode : (Cond.codeWith y bytes maxL ret hh).before args s = true) (hy : y.cls ≠ "java/lang/invoke/MethodHandle" ∧ y.cls ≠ "java/lang/invoke/VarHandle")
    {W9 : Nat} {Pre : Pt → Array Value → Prop} {Post : Pt → Array Value → Option Value → Pt → Prop} (hK : Back l R p e below s args y 3 W9 Pre Post)
    {g : JFrame} (hg : g.method = m) (hsize : g.locals.size = c.maxLocals) {argsL rest : List Value} (hlen : ∀ sig, parseMethodDescriptor y.desc = some sig → argsL.length = sig.parameters.length)
    (hstack : g.stack = argsL.reverse ++ rest) (hW : 2 * g.monitorRoom + (rest.map fun v => v.category).sum ≤ W9) (hdg : decode c.code g.pc = .ok (.invokestatic index, 3))
    (hpre : ∀ vm₁, s.WarmedH vm₁ → Pre ⟨T.setVm vm₁, locs, cells, slots⟩ argsL.toArray) :
    ∃ (v : Option Value) (vm₁ : Vm) (B : Pt), s.WarmedH vm₁ ∧ Stand p l e R s m args below meth c B.U B.locs B.cells B.slots ∧ Post ⟨T.setVm vm₁, locs, cells, slots⟩ argsL.toArray v B ∧
      ∀ target, Steps p.tables e below (B.U.setTop { g with pc := g.pc + 3, stack := v.toList ++ rest }) target → Steps p.tables e below (T.setTop g) target := by
  obtain ⟨mk, methM, cM, hnamed, hmethM, -, -, -, -, -, -, hsigM⟩ := Cond.codeWith_spec hcode
  have hstatic : methM.isStatic = true := Cond.static_spec hnamed hmethM hstat
  obtain ⟨kP, hkP, -⟩ := className_of_methodNamed hnamed
  have hinitP : kP.init = .initialized := Cond.initialized_spec (findClass_of_methodNamed hnamed) hkP hinit
  obtain ⟨vm₁, X₁, hstep₁⟩ := X.invokestatic hexec hown hlink hnamed hmethM hstatic hkP hinitP hy (g := g) hg (argsL := argsL) (rest := rest) (hlen _ hsigM) hstack hdg
  obtain ⟨v, B, X', hpost, hsteps⟩ := hK m meth c ⟨T.setVm vm₁, locs, cells, slots⟩ { g with stack := rest } (.invokestatic index) mk argsL.toArray X₁ hg hsize hdg hW (X₁.named hnamed) (hpre vm₁ X₁.warmed)
  exact ⟨v, vm₁, B, X₁.warmed, X', hpost, fun target h => hstep₁ _ fun acts => by rw [doInvoke_state]; exact hsteps.trans h⟩
theorem vx_runSW {y : MethodName} {bytes cc : ByteArray} {maxL nL mc ms n index : Nat} {ret : Option FieldType} {hh : List (Nat × Nat × Nat × Nat)} {ws : List Cond} {rm : Room} {Pc : Array Value → State → Prop} {Qc : Array Value → State → Outcome → State → Prop} {free : Addr → Prop} {Ts : List Cond} {own : String} {As rest : List Value} {g : JFrame}
    (S : CallFix p m c cc nL s args Ts own) (hM : Met l y ws rm Pc Qc mc ms free) (cw : vx_CSW R s args own index y bytes maxL ret hh ws rm mc ms n) (hp : PreS s H Pc As)
    (hg : g.method = m) (hn : As.length = n) (hsize : g.locals.size = nL) (hstack : g.stack = As.reverse ++ rest) (hW : 2 * g.monitorRoom + (rest.map fun v => v.category).sum ≤ 8) (hdg : decode cc g.pc = .ok (.invokestatic index, 3)) (hf : cells + mc ≤ R.cells ∧ slots + ms ≤ R.slots) :
    va_Run p l e R s m args below meth c H locs cells slots mc ms g rest (Qc As.toArray) (free) := by
  obtain ⟨⟨hrc, hrs, hfr, hlo, hws, hcw⟩, hcode, hini, hy, hlen, hl, hstt⟩ := cw
  have hK : Back l R p e below s args y 3 8 (PreOf R mc ms Pc) (PostOf Qc mc ms free) := va_backW (hh := hh) (bytes := bytes) (maxL := maxL) (ret := ret) hM hp.1 hrc hrs hfr hlo hws hcw (fun a' U hW => word_at hW (Or.inl (by first | rfl | simp [Cond.onTables, Cond.keeps, Cond.steady])) hini)
  obtain ⟨hx, hb, hml, ho, -⟩ := S
  intro T hT X
  obtain ⟨v, vm₁, ⟨U', l2, c2, s2⟩, hW₁, X', ⟨g', mk, t, L, e1, e2, hq, h1, hL, h2, h3⟩, st⟩ := vx_callSW X hx (hh := hh) (bytes := bytes) (maxL := maxL) (ret := ret) ho hl hstt hini hcode hy hK hg (hsize.trans hml.symm) (argsL := As) (rest := rest) (fun sig h => hn.trans (hlen sig h)) hstack hW (by rw [hb]; exact hdg)
    (fun vm₁ hW₁ => ⟨hf.1, hf.2, hp.2 (T.setVm vm₁) hT hW₁⟩)
  dsimp only [Pt.U, Pt.locs, Pt.cells, Pt.slots] at X' e1 e2 h1 h2 h3 st
  subst h1; subst h2; subst h3
  exact ⟨v, (T.setVm vm₁).calling g' mk As.toArray, t, U', L, hT, X', hL, e1, e2, hq, st⟩
/-- not caught here, past rows that name other classes: it goes on to the caller -/
theorem vx_outP {p : Program} {l : Launch} {e : Env} {R : Room} {s : State} {m : MethodId} {args : Array Value} {below : List Frame} {meth : Method} {c : Code} {H : Heap} {locs : List Loc} {cells slots : Nat} {free : Addr → Prop} {ls : Array Slot} {rest : List Value} {Qc : Array Value → State → Outcome → State → Prop} {XC : String → State → State → Prop}
    {pc : Nat} {own E : String} {ce : Cell} {q : Addr} {mc ms : Nat} (hown : s.vm.findClass own = some m.cls) (hlocks : meth.locks = false)
    (hpass : ∀ z ∈ c.exceptionTable.toList, covers z pc = false ∨ (z.catchType ≠ 0 ∧ ∃ nm : String, (Cond.classLink own z.catchType nm).before args s = true ∧ va_Nc E nm s)) (hcell : H[q]? = some ce) (hv : ce.vm = .none) (hcl : s.vm.findClass E = some ce.cls)
    (hx : ∀ t : State, t.heap = H → s.vm.Alike t.vm → XC E s t) (hf : ∀ z ∈ locs, free z.base) (hc : cells ≤ mc) (hs : slots ≤ ms) :
    vx_W p l e R s m args below meth c H locs cells slots (vx_MQ below Qc XC args s mc ms free) (F0 m pc ls rest) q := by
  intro T hT X
  have hpl : e.platform.magicAccessors = ({} : Platform).magicAccessors := by rw [X.admits.platform]
  obtain ⟨vm', hW', X', st⟩ := X.outThrough hlocks q (g := F0 m pc ls rest) rfl rfl rfl (cell := ce) (by rw [hT]; exact hcell) (by rw [hv]; rfl)
    (by obtain ⟨k9, h9, -⟩ := Vm.findClass_spec hcl; exact ⟨k9, h9⟩) (fun z hz => by
      rcases hpass z hz with h | ⟨hz0, nm, hl1, hn1⟩
      · exact Or.inl h
      · obtain ⟨c6, hc6, hcl6⟩ := Cond.classLink_spec hown hl1 e.platform hpl
        obtain ⟨a8, b8, h1, h2, h3⟩ := hn1
        cases Option.some.inj (h1.symm.trans hcl)
        cases Option.some.inj (h2.symm.trans hc6)
        exact Or.inr ⟨hz0, _, hcl6, h3⟩)
  obtain ⟨g₀, hfr⟩ := X'.frames_eq
  have hcell9 : ((T.setVm vm').setFrames (.throwing q :: below)).heap[q]? = some ce := by
    show T.heap[q]? = some ce
    rw [hT]; exact hcell
  have hend : Ended ((T.setVm vm').setFrames (.throwing q :: below)) below (.threw q) := State.frames_setFrames _ (State.cur_lt_of_frames hfr)
  refine ⟨(T.setVm vm').setFrames (.throwing q :: below), ?_, .threw q, X'.here.running, hend, Or.inr ⟨q, rfl, E, ce, locs, hx _ hT (X'.ends _).1.alike, hcell9, hv, hcl, (X'.ends _).1, (X'.ends _).2.mono hc hs, hf⟩⟩
  rw [X.pushThrowing_eq]
  exact st
/-- a thing of a world lies in the heap -/
theorem vx_lt {D : va_G} {cl : List vw_C} {ws : va_W} {H1 : Heap} (h : va_P D cl ws H1) {k : Nat} {q : Nat × va_E} (hk : ws[k]? = some q) : q.1 < H1.size := (h k q hk).lt
end VXS
/-! ===== END ===== -/
/-! ===== BEGIN methods with a table of their own: called by a name, returning or throwing ===== -/
section VXH
/-! vx_backW, vx_callVX, vx_callSX, vx_callVW, vx_runVW, vx_runVX, vx_runSX, vx_ofWH follow the same proofs as their sisters above (Free/Laws.lean, Shelf42/LK1.lean); vx_outP calls Shelf42/NT130.lean (outThrough). -/
section
variable {l : Launch} {R : Room} {p : Program} {e : Env} {below : List Frame} {s : State} {sargs : Array Value} {y : MethodName} {len W9 : Nat}
theorem vx_backW {ws : List Cond} {rm : Room} {Pc : Array Value → State → Prop} {Qc : Array Value → State → Outcome → State → Prop} {XC : String → State → State → Prop} {mc ms : Nat} {free : Addr → Prop} {bytes : ByteArray} {maxL : Nat} {ret : Option FieldType} {hh : List (Nat × Nat × Nat × Nat)}
    (hM : vx_Met l y ws rm Pc Qc XC mc ms free) (hblind : FrameBlind Pc) (hrc : rm.cells = mc) (hrs : rm.slots = ms)
    (hframes : rm.frames + 1 ≤ R.frames) (hlocals : W9 + (maxL + 11) + rm.locals ≤ R.locals)
    (hws : ∀ w ∈ ws, ∀ a' U, s.WarmedH U.vm → w.before a' U = true) (hcode : Cond.codeWith y bytes maxL ret hh ∈ ws) (hinit : ∀ a' U, s.WarmedH U.vm → (Cond.initialized y.cls).before a' U = true) :
    vx_Back l R p e below s sargs y len W9 (PreOf R mc ms Pc) (PostOf Qc mc ms free) (vx_Post XC mc ms free) := by
  intro m meth c A g ig mk a X hg hsize hdg hW hn hp
  have h1 : (headSpec ws rm).pre.before a A.U = true := atoms_intro fun w hw => hws w hw _ _ X.warmed
  have h2 : (Cond.codeWith y bytes maxL ret hh).before a A.U = true := hws _ hcode _ _ X.warmed
  have h3 : (Cond.initialized y.cls).before a A.U = true := hinit _ _ X.warmed
  have h4 : A.cells + (headSpec ws rm).room.cells ≤ R.cells := by rw [show (headSpec ws rm).room.cells = mc from hrc]; exact hp.1
  have h5 : A.slots + (headSpec ws rm).room.slots ≤ R.slots := by rw [show (headSpec ws rm).room.slots = ms from hrs]; exact hp.2.1
  have hPc : Pc a (A.U.calling g mk a) := hblind _ _ _ _ hp.2.2
  obtain ⟨U, Ls, c0, s0⟩ := A
  dsimp only [Pt.U, Pt.locs, Pt.cells, Pt.slots] at h1 h2 h3 h4 h5 X hn hPc ⊢
  obtain ⟨m9, methY, cY, hn9, hmY, hcY, -, hlY, -⟩ := Cond.codeWith_spec h2
  cases Option.some.inj (hn9.symm.trans hn)
  obtain ⟨kY, hkY, -⟩ := className_of_methodNamed hn
  have hinitY : kY.init = .initialized := Cond.initialized_spec (findClass_of_methodNamed hn) hkY h3
  have h : At U g.method c below := by rw [hg]; exact X.here
  have hlocals9 : W9 + (maxL + 11) + (headSpec ws rm).room.locals ≤ R.locals := hlocals
  have happ : (headSpec ws rm).appliesLoose y e.platform (U.calling g mk a) = true :=
    Spec.appliesLoose_calling (g := g) h hdg hn hkY hinitY
      (X.room_calling (g := g) (R' := (headSpec ws rm).room) hsize hmY hcY hframes (by rw [hlY]; omega) h4 h5) h1
  obtain ⟨mid, hmid⟩ := h.above
  have hfr : (U.setTop g).frames = (.java g :: mid) ++ below := by rw [State.frames_setTop' g h.top, hmid]; rfl
  obtain ⟨o, s₂, hsteps, -, hend, hq⟩ := Steps.callFree hM p X.admits X.cas X.clock (acts := []) hfr happ hPc trivial
  have hq' : vx_Q Qc XC mc ms free a (U.calling g mk a) o s₂ := hq
  rw [State.frames_setTop' g h.top] at hend
  obtain ⟨g₀, hg0⟩ := Option.isSome_iff_exists.mp h.top
  obtain ⟨r, hr⟩ := State.topJava?_eq_some.mp hg0
  have hr' : (({ U with heap := s₂.heap, slotsUsed := s₂.slotsUsed } : State).setVm s₂.vm).frames = .java g₀ :: r := hr
  rcases hq' with ⟨hqc, L, hfe, hL⟩ | ⟨q, rfl, E, ce, L, hx, hce, hcv, hcl, hW₂, hsm, hL⟩
  · obtain ⟨⟨v, rfl⟩, hW₂, e2, q2, q3, q4, q5, q6⟩ := id hfe
    have e3 : s₂ = ({ (U.calling g mk a).setFrames s₂.frames with heap := s₂.heap, slotsUsed := s₂.slotsUsed } : State).setVm s₂.vm := by
      have : s₂ = ({ s₂ with vm := (U.calling g mk a).vm } : State).setVm s₂.vm := rfl
      rw [e2] at this
      exact this
    obtain ⟨c₂, i₂, len₂, hc₂, hd₂, hf₂⟩ := hend
    have hW' : U.WarmedH s₂.vm := hW₂
    have hcc : c₂ = c := by
      have h1 : s₂.code? g.method = U.code? g.method := by
        rw [State.code?_eq, State.code?_eq, hW'.alike.method?]
      exact Option.some.inj (hc₂.symm.trans (h1.trans h.code))
    subst hcc
    have hlen : len₂ = len := by rw [hdg] at hd₂; cases hd₂; rfl
    subst hlen
    have hs₂ : s₂ = (({ U with heap := s₂.heap, slotsUsed := s₂.slotsUsed } : State).setVm s₂.vm).setTop { g with pc := g.pc + len₂, stack := v.toList ++ g.stack } := by
      refine e3.trans ?_
      rw [hf₂, State.calling_eq h.top, State.setFrames_setFrames, State.setTop_of_frames _ hr', hr]
      rfl
    have hsame : U.sameButNew ({ U with heap := s₂.heap, slotsUsed := s₂.slotsUsed } : State) L mc ms := by
      refine ⟨?_, q2, q3, q4, q5, q6⟩
      obtain ⟨t, ht, -⟩ := State.frames_cons hr
      show ({ U with heap := s₂.heap, slotsUsed := s₂.slotsUsed } : State) = { U.setFrames U.frames with heap := s₂.heap, slotsUsed := s₂.slotsUsed }
      rw [State.setFrames_self ht]
    subst hg
    refine Or.inl ⟨v, ⟨(({ U with heap := s₂.heap, slotsUsed := s₂.slotsUsed } : State).setVm s₂.vm), Ls ++ L, c0 + mc, s0 + ms⟩,
      ⟨X.admits, X.cas, X.clock, X.frames, X.room, X.hears, X.method, X.code, (X.here.setHeapUsed s₂.heap s₂.slotsUsed).setVm hW'.alike, X.tail, State.WarmedH.trans X.warmed hW', X.limits, X.bytes, X.same.trans (hsame.setVm s.vm)⟩,
      ⟨g, mk, s₂, L, rfl, rfl, hqc, rfl, hL, rfl, rfl⟩, ?_⟩
    show Steps p.tables e below _ ((({ U with heap := s₂.heap, slotsUsed := s₂.slotsUsed } : State).setVm s₂.vm).setTop { g with pc := g.pc + len₂, stack := v.toList ++ g.stack })
    rw [← hs₂]
    exact hsteps
  · obtain ⟨e2, q2, q3, q4, q5, q6⟩ := id hsm
    have e3 : s₂ = ({ (U.calling g mk a).setFrames s₂.frames with heap := s₂.heap, slotsUsed := s₂.slotsUsed } : State).setVm s₂.vm := by
      have : s₂ = ({ s₂ with vm := (U.calling g mk a).vm } : State).setVm s₂.vm := rfl
      rw [e2] at this
      exact this
    have hf₂ : s₂.frames = .throwing q :: .java g :: U.frames.tail := hend
    have hW' : U.WarmedH s₂.vm := hW₂
    have hs₂ : s₂ = ((({ U with heap := s₂.heap, slotsUsed := s₂.slotsUsed } : State).setVm s₂.vm).setTop g).pushFrame (.throwing q) := by
      refine e3.trans ?_
      rw [hf₂, State.calling_eq h.top, State.setFrames_setFrames, State.pushFrame, State.frames_setTop _ hr', State.setTop_of_frames _ hr', State.setFrames_setFrames, hr]
      rfl
    have hsame : U.sameButNew ({ U with heap := s₂.heap, slotsUsed := s₂.slotsUsed } : State) L mc ms := by
      refine ⟨?_, q2, q3, q4, q5, q6⟩
      obtain ⟨t, ht, -⟩ := State.frames_cons hr
      show ({ U with heap := s₂.heap, slotsUsed := s₂.slotsUsed } : State) = { U.setFrames U.frames with heap := s₂.heap, slotsUsed := s₂.slotsUsed }
      rw [State.setFrames_self ht]
    subst hg
    refine Or.inr ⟨q, ⟨(({ U with heap := s₂.heap, slotsUsed := s₂.slotsUsed } : State).setVm s₂.vm), Ls ++ L, c0 + mc, s0 + ms⟩,
      ⟨X.admits, X.cas, X.clock, X.frames, X.room, X.hears, X.method, X.code, (X.here.setHeapUsed s₂.heap s₂.slotsUsed).setVm hW'.alike, X.tail, State.WarmedH.trans X.warmed hW', X.limits, X.bytes, X.same.trans (hsame.setVm s.vm)⟩,
      ⟨g, mk, s₂, L, E, ce, rfl, rfl, hx, hce, hcv, hcl, rfl, hL, rfl, rfl⟩, ?_⟩
    show Steps p.tables e below _ (((({ U with heap := s₂.heap, slotsUsed := s₂.slotsUsed } : State).setVm s₂.vm).setTop g).pushFrame (.throwing q))
    rw [← hs₂]
    exact hsteps
end
variable {p : Program} {l : Launch} {e : Env} {R : Room} {s : State} {m : MethodId} {args : Array Value} {below : List Frame} {meth : Method} {c : Code} {T : State} {H : Heap} {locs : List Loc} {cells slots : Nat}
theorem vx_callVX (X : Stand p l e R s m args below meth c T locs cells slots) (hexec : p.tables.exec = Jvm.exec) {own C : String} {index : Nat} {y : MethodName} {bytes : ByteArray} {maxL : Nat} {ret : Option FieldType} {hh : List (Nat × Nat × Nat × Nat)}
    (hown : s.vm.findClass own = some m.cls) (hlink : (Cond.methodLink own index y).before args s = true) (hinst : (Cond.instanceMethod y).before args s = true) (hsel : (Cond.selects C y y).before args s = true)
    (hcode : (Cond.codeWith y bytes maxL ret hh).before args s = true) (hy : y.cls ≠ "java/lang/invoke/MethodHandle" ∧ y.cls ≠ "java/lang/invoke/VarHandle")
    {W9 : Nat} {Pre : Pt → Array Value → Prop} {Post : Pt → Array Value → Option Value → Pt → Prop} {PostX : Pt → Array Value → Addr → Pt → Prop} (hK : vx_Back l R p e below s args y 3 W9 Pre Post PostX)
    {b : Addr} {cellB : Cell} (hcell : T.heap[b]? = some cellB) (hobj : cellB.vm.isStatics = false) (hcls : s.vm.findClass C = some cellB.cls)
    {g : JFrame} (hg : g.method = m) (hsize : g.locals.size = c.maxLocals) {argsL rest : List Value} (hlen : ∀ sig, parseMethodDescriptor y.desc = some sig → argsL.length = sig.parameters.length)
    (hstack : g.stack = argsL.reverse ++ .ref b :: rest) (hW : 2 * g.monitorRoom + (rest.map fun v => v.category).sum ≤ W9) (hdg : decode c.code g.pc = .ok (.invokevirtual index, 3))
    (hpre : ∀ vm₁, s.WarmedH vm₁ → Pre ⟨T.setVm vm₁, locs, cells, slots⟩ (Value.ref b :: argsL).toArray) :
    (∃ (v : Option Value) (vm₁ : Vm) (B : Pt), s.WarmedH vm₁ ∧ Stand p l e R s m args below meth c B.U B.locs B.cells B.slots ∧ Post ⟨T.setVm vm₁, locs, cells, slots⟩ (Value.ref b :: argsL).toArray v B ∧
      ∀ target, Steps p.tables e below (B.U.setTop { g with pc := g.pc + 3, stack := v.toList ++ rest }) target → Steps p.tables e below (T.setTop g) target) ∨
    (∃ (q : Addr) (vm₁ : Vm) (B : Pt), s.WarmedH vm₁ ∧ Stand p l e R s m args below meth c B.U B.locs B.cells B.slots ∧ PostX ⟨T.setVm vm₁, locs, cells, slots⟩ (Value.ref b :: argsL).toArray q B ∧
      Steps p.tables e below (T.setTop g) ((B.U.setTop { g with stack := rest }).pushFrame (.throwing q))) := by
  obtain ⟨mk, methM, hnamed, hmethM, hstM, habM⟩ := Cond.instanceMethod_spec hinst
  obtain ⟨m8, methM', cM, hn8, hmethM', -, -, -, -, -, -, hsigM⟩ := Cond.codeWith_spec hcode
  cases Option.some.inj (hn8.symm.trans hnamed)
  cases hmethM.symm.trans hmethM'
  obtain ⟨c2, r2, m2, q1, q2, q3, q4, kP, hkP, hkPi⟩ := Cond.selects_spec hsel
  cases hcls.symm.trans q1
  cases (State.methodFound?_of_named hnamed hy).symm.trans q2
  cases hnamed.symm.trans q3
  have hselP : selectMethod e.platform s.vm cellB.cls mk = .method mk := by rw [Launch.admits_selectMethod X.admits]; exact q4
  obtain ⟨vm₁, X₁, hstep₁⟩ := X.invokevirtual hexec hown hlink hnamed hmethM hstM hkP hkPi hy (a := b) (cell := cellB) hcell
    (fun z h => by rw [h] at hobj; cases hobj) hselP hmethM habM hkP hkPi (g := g) hg (argsL := argsL) (rest := rest) (hlen _ hsigM) hstack hdg
  rcases hK m meth c ⟨T.setVm vm₁, locs, cells, slots⟩ { g with stack := rest } (.invokevirtual index) mk (Value.ref b :: argsL).toArray X₁ hg hsize hdg hW (X₁.named hnamed) (hpre vm₁ X₁.warmed) with ⟨v, B, X', hpost, hsteps⟩ | ⟨q, B, X', hpost, hsteps⟩
  · exact Or.inl ⟨v, vm₁, B, X₁.warmed, X', hpost, fun target h => hstep₁ _ fun acts => by rw [doInvoke_state]; exact hsteps.trans h⟩
  · exact Or.inr ⟨q, vm₁, B, X₁.warmed, X', hpost, hstep₁ _ fun acts => by rw [doInvoke_state]; exact hsteps⟩
theorem vx_callSX (X : Stand p l e R s m args below meth c T locs cells slots) (hexec : p.tables.exec = Jvm.exec) {own : String} {index : Nat} {y : MethodName} {bytes : ByteArray} {maxL : Nat} {ret : Option FieldType} {hh : List (Nat × Nat × Nat × Nat)}
    (hown : s.vm.findClass own = some m.cls) (hlink : (Cond.methodLink own index y).before args s = true) (hstat : (Cond.static y).before args s = true) (hinit : (Cond.initialized y.cls).before args s = true)
    (hcode : (Cond.codeWith y bytes maxL ret hh).before args s = true) (hy : y.cls ≠ "java/lang/invoke/MethodHandle" ∧ y.cls ≠ "java/lang/invoke/VarHandle")
    {W9 : Nat} {Pre : Pt → Array Value → Prop} {Post : Pt → Array Value → Option Value → Pt → Prop} {PostX : Pt → Array Value → Addr → Pt → Prop} (hK : vx_Back l R p e below s args y 3 W9 Pre Post PostX)
    {g : JFrame} (hg : g.method = m) (hsize : g.locals.size = c.maxLocals) {argsL rest : List Value} (hlen : ∀ sig, parseMethodDescriptor y.desc = some sig → argsL.length = sig.parameters.length)
    (hstack : g.stack = argsL.reverse ++ rest) (hW : 2 * g.monitorRoom + (rest.map fun v => v.category).sum ≤ W9) (hdg : decode c.code g.pc = .ok (.invokestatic index, 3))
    (hpre : ∀ vm₁, s.WarmedH vm₁ → Pre ⟨T.setVm vm₁, locs, cells, slots⟩ argsL.toArray) :
    (∃ (v : Option Value) (vm₁ : Vm) (B : Pt), s.WarmedH vm₁ ∧ Stand p l e R s m args below meth c B.U B.locs B.cells B.slots ∧ Post ⟨T.setVm vm₁, locs, cells, slots⟩ argsL.toArray v B ∧
      ∀ target, Steps p.tables e below (B.U.setTop { g with pc := g.pc + 3, stack := v.toList ++ rest }) target → Steps p.tables e below (T.setTop g) target) ∨
    (∃ (q : Addr) (vm₁ : Vm) (B : Pt), s.WarmedH vm₁ ∧ Stand p l e R s m args below meth c B.U B.locs B.cells B.slots ∧ PostX ⟨T.setVm vm₁, locs, cells, slots⟩ argsL.toArray q B ∧
      Steps p.tables e below (T.setTop g) ((B.U.setTop { g with stack := rest }).pushFrame (.throwing q))) := by
  obtain ⟨mk, methM, cM, hnamed, hmethM, -, -, -, -, -, -, hsigM⟩ := Cond.codeWith_spec hcode
  have hstatic : methM.isStatic = true := Cond.static_spec hnamed hmethM hstat
  obtain ⟨kP, hkP, -⟩ := className_of_methodNamed hnamed
  have hinitP : kP.init = .initialized := Cond.initialized_spec (findClass_of_methodNamed hnamed) hkP hinit
  obtain ⟨vm₁, X₁, hstep₁⟩ := X.invokestatic hexec hown hlink hnamed hmethM hstatic hkP hinitP hy (g := g) hg (argsL := argsL) (rest := rest) (hlen _ hsigM) hstack hdg
  rcases hK m meth c ⟨T.setVm vm₁, locs, cells, slots⟩ { g with stack := rest } (.invokestatic index) mk argsL.toArray X₁ hg hsize hdg hW (X₁.named hnamed) (hpre vm₁ X₁.warmed) with ⟨v, B, X', hpost, hsteps⟩ | ⟨q, B, X', hpost, hsteps⟩
  · exact Or.inl ⟨v, vm₁, B, X₁.warmed, X', hpost, fun target h => hstep₁ _ fun acts => by rw [doInvoke_state]; exact hsteps.trans h⟩
  · exact Or.inr ⟨q, vm₁, B, X₁.warmed, X', hpost, hstep₁ _ fun acts => by rw [doInvoke_state]; exact hsteps⟩
theorem vx_callVW (X : Stand p l e R s m args below meth c T locs cells slots) (hexec : p.tables.exec = Jvm.exec) {own C : String} {index : Nat} {y : MethodName} {bytes : ByteArray} {maxL : Nat} {ret : Option FieldType} {hh : List (Nat × Nat × Nat × Nat)}
    (hown : s.vm.findClass own = some m.cls) (hlink : (Cond.methodLink own index y).before args s = true) (hinst : (Cond.instanceMethod y).before args s = true) (hsel : (Cond.selects C y y).before args s = true)
    (hcode : (Cond.codeWith y bytes maxL ret hh).before args s = true) (hy : y.cls ≠ "java/lang/invoke/MethodHandle" ∧ y.cls ≠ "java/lang/invoke/VarHandle")
    {W9 : Nat} {Pre : Pt → Array Value → Prop} {Post : Pt → Array Value → Option Value → Pt → Prop} (hK : Back l R p e below s args y 3 W9 Pre Post)
    {b : Addr} {cellB : Cell} (hcell : T.heap[b]? = some cellB) (hobj : cellB.vm.isStatics = false) (hcls : s.vm.findClass C = some cellB.cls)
    {g : JFrame} (hg : g.method = m) (hsize : g.locals.size = c.maxLocals) {argsL rest : List Value} (hlen : ∀ sig, parseMethodDescriptor y.desc = some sig → argsL.length = sig.parameters.length)
    (hstack : g.stack = argsL.reverse ++ .ref b :: rest) (hW : 2 * g.monitorRoom + (rest.map fun v => v.category).sum ≤ W9) (hdg : decode c.code g.pc = .ok (.invokevirtual index, 3))
    (hpre : ∀ vm₁, s.WarmedH vm₁ → Pre ⟨T.setVm vm₁, locs, cells, slots⟩ (Value.ref b :: argsL).toArray) :
    ∃ (v : Option Value) (vm₁ : Vm) (B : Pt), s.WarmedH vm₁ ∧ Stand p l e R s m args below meth c B.U B.locs B.cells B.slots ∧ Post ⟨T.setVm vm₁, locs, cells, slots⟩ (Value.ref b :: argsL).toArray v B ∧
      ∀ target, Steps p.tables e below (B.U.setTop { g with pc := g.pc + 3, stack := v.toList ++ rest }) target → Steps p.tables e below (T.setTop g) target := by
  obtain ⟨mk, methM, hnamed, hmethM, hstM, habM⟩ := Cond.instanceMethod_spec hinst
  obtain ⟨m8, methM', cM, hn8, hmethM', -, -, -, -, -, -, hsigM⟩ := Cond.codeWith_spec hcode
  cases Option.some.inj (hn8.symm.trans hnamed)
  cases hmethM.symm.trans hmethM'
  obtain ⟨c2, r2, m2, q1, q2, q3, q4, kP, hkP, hkPi⟩ := Cond.selects_spec hsel
  cases hcls.symm.trans q1
  cases (State.methodFound?_of_named hnamed hy).symm.trans q2
  cases hnamed.symm.trans q3
  have hselP : selectMethod e.platform s.vm cellB.cls mk = .method mk := by rw [Launch.admits_selectMethod X.admits]; exact q4
  obtain ⟨vm₁, X₁, hstep₁⟩ := X.invokevirtual hexec hown hlink hnamed hmethM hstM hkP hkPi hy (a := b) (cell := cellB) hcell
    (fun z h => by rw [h] at hobj; cases hobj) hselP hmethM habM hkP hkPi (g := g) hg (argsL := argsL) (rest := rest) (hlen _ hsigM) hstack hdg
  obtain ⟨v, B, X', hpost, hsteps⟩ := hK m meth c ⟨T.setVm vm₁, locs, cells, slots⟩ { g with stack := rest } (.invokevirtual index) mk (Value.ref b :: argsL).toArray X₁ hg hsize hdg hW (X₁.named hnamed) (hpre vm₁ X₁.warmed)
  exact ⟨v, vm₁, B, X₁.warmed, X', hpost, fun target h => hstep₁ _ fun acts => by rw [doInvoke_state]; exact hsteps.trans h⟩
abbrev vx_CVW (R : Room) (s : State) (args : Array Value) (own C : String) (index : Nat) (y : MethodName) (bytes : ByteArray) (maxL : Nat) (ret : Option FieldType) (hh : List (Nat × Nat × Nat × Nat)) (ws : List Cond) (rm : Room) (mc ms n : Nat) : Prop :=
  (rm.cells = mc ∧ rm.slots = ms ∧ rm.frames + 1 ≤ R.frames ∧ 8 + (maxL + 11) + rm.locals ≤ R.locals ∧ (∀ w ∈ ws, ∀ (a' : Array Value) (U : State), s.WarmedH U.vm → w.before a' U = true) ∧ Cond.codeWith y bytes maxL ret hh ∈ ws) ∧
  (Cond.codeWith y bytes maxL ret hh).before args s = true ∧ (Cond.initialized y.cls).before args s = true ∧ (y.cls ≠ "java/lang/invoke/MethodHandle" ∧ y.cls ≠ "java/lang/invoke/VarHandle") ∧
  (∀ sig, parseMethodDescriptor y.desc = some sig → n = sig.parameters.length) ∧ (Cond.methodLink own index y).before args s = true ∧ (Cond.instanceMethod y).before args s = true ∧ (Cond.selects C y y).before args s = true
theorem vx_cwVW {own C : String} {index maxL mc ms : Nat} {y : MethodName} {bytes : ByteArray} {ret : Option FieldType} {hh : List (Nat × Nat × Nat × Nat)} {Ts ws ws' : List Cond} {rm : Room} (n : Nat) (ht : ∀ w ∈ Ts, w.before args s = true) (hT : GoodIn Ts (wsV own index C y ws)) (hw : ws = Cond.codeWith y bytes maxL ret hh :: ws') (hrc : rm.cells = mc) (hrs : rm.slots = ms)
    (hd : y.cls = C ∧ y.cls ≠ "java/lang/invoke/MethodHandle" ∧ y.cls ≠ "java/lang/invoke/VarHandle" ∧ (parseMethodDescriptor y.desc).map (fun d => d.parameters.length) = some n) (hR : rm.frames + 1 ≤ R.frames ∧ 8 + (maxL + 11) + rm.locals ≤ R.locals) :
    vx_CVW R s args own C index y bytes maxL ret hh ws rm mc ms n := by
  obtain ⟨hC, hd⟩ := hd
  subst hC
  have ok : ∀ w ∈ wsV own index y.cls y ws, w.before args s = true := fun w h => ht w (hT w h).1
  have hG : GoodIn Ts ws := fun w h => hT w (by unfold wsV; exact List.mem_append_right _ h)
  have hc : Cond.codeWith y bytes maxL ret hh ∈ ws := by rw [hw]; exact List.mem_cons_self
  refine ⟨⟨hrc, hrs, hR.1, hR.2, pay_in ht hG, hc⟩, ht _ (hG _ hc).1, ok _ (by simp [wsV]), ⟨hd.1, hd.2.1⟩, fun sig h => ?_, ok _ (by simp [wsV]), ok _ (by simp [wsV]), ok _ (by simp [wsV])⟩
  have h2 := hd.2.2
  rw [h] at h2
  exact (Option.some.inj h2).symm
theorem vx_runVW {y : MethodName} {bytes cc : ByteArray} {maxL nL mc ms n index : Nat} {ret : Option FieldType} {hh : List (Nat × Nat × Nat × Nat)} {ws : List Cond} {rm : Room} {Pc : Array Value → State → Prop} {Qc : Array Value → State → Outcome → State → Prop} {free : Addr → Prop} {Ts : List Cond} {own C : String} {b : Addr} {As rest : List Value} {g : JFrame}
    (S : CallFix p m c cc nL s args Ts own) (hM : Met l y ws rm Pc Qc mc ms free) (cw : vx_CVW R s args own C index y bytes maxL ret hh ws rm mc ms n) (hp : PreV s H C b Pc As)
    (hg : g.method = m) (hn : As.length = n) (hsize : g.locals.size = nL) (hstack : g.stack = As.reverse ++ .ref b :: rest) (hW : 2 * g.monitorRoom + (rest.map fun v => v.category).sum ≤ 8) (hdg : decode cc g.pc = .ok (.invokevirtual index, 3)) (hf : cells + mc ≤ R.cells ∧ slots + ms ≤ R.slots) :
    va_Run p l e R s m args below meth c H locs cells slots mc ms g rest (Qc (Value.ref b :: As).toArray) free := by
  obtain ⟨⟨hrc, hrs, hfr, hlo, hws, hcw⟩, hcode, hini, hy, hlen, hl, hin, hse⟩ := cw
  have hK : Back l R p e below s args y 3 8 (PreOf R mc ms Pc) (PostOf Qc mc ms free) := va_backW (hh := hh) (bytes := bytes) (maxL := maxL) (ret := ret) hM hp.1 hrc hrs hfr hlo hws hcw (fun a' U hW => word_at hW (Or.inl (by first | rfl | simp [Cond.onTables, Cond.keeps, Cond.steady])) hini)
  obtain ⟨hx, hb, hml, ho, -⟩ := S
  obtain ⟨-, ⟨cellB, hcB, hoB, hclB⟩, hPc⟩ := hp
  intro T hT X
  obtain ⟨v, vm₁, ⟨U', l2, c2, s2⟩, hW₁, X', ⟨g', mk, t, L, e1, e2, hq, h1, hL, h2, h3⟩, st⟩ := vx_callVW X hx (C := C) (hh := hh) (bytes := bytes) (maxL := maxL) (ret := ret) ho hl hin hse hcode hy hK (by rw [hT]; exact hcB) hoB hclB hg (hsize.trans hml.symm) (argsL := As) (rest := rest) (fun sig h => hn.trans (hlen sig h)) hstack hW (by rw [hb]; exact hdg)
    (fun vm₁ hW₁ => ⟨hf.1, hf.2, hPc (T.setVm vm₁) hT hW₁⟩)
  dsimp only [Pt.U, Pt.locs, Pt.cells, Pt.slots] at X' e1 e2 h1 h2 h3 st
  subst h1; subst h2; subst h3
  exact ⟨v, (T.setVm vm₁).calling g' mk (Value.ref b :: As).toArray, t, U', L, hT, X', hL, e1, e2, hq, st⟩
section
variable {y : MethodName} {bytes cc : ByteArray} {maxL nL mc ms n index : Nat} {ret : Option FieldType} {ws : List Cond} {rm : Room} {Pc : Array Value → State → Prop} {Qc : Array Value → State → Outcome → State → Prop} {XC : String → State → State → Prop} {free : Addr → Prop} {Ts : List Cond} {own C : String} {b : Addr} {As rest : List Value} {g : JFrame}
theorem vx_runVX {hh : List (Nat × Nat × Nat × Nat)} (S : CallFix p m c cc nL s args Ts own) (hM : vx_Met l y ws rm Pc Qc XC mc ms free) (cw : vx_CVW R s args own C index y bytes maxL ret hh ws rm mc ms n) (hp : PreV s H C b Pc As)
    (hg : g.method = m) (hn : As.length = n) (hsize : g.locals.size = nL) (hstack : g.stack = As.reverse ++ .ref b :: rest) (hW : 2 * g.monitorRoom + (rest.map fun v => v.category).sum ≤ 8) (hdg : decode cc g.pc = .ok (.invokevirtual index, 3)) (hf : cells + mc ≤ R.cells ∧ slots + ms ≤ R.slots) :
    vx_Run p l e R s m args below meth c H locs cells slots mc ms g rest (Qc (Value.ref b :: As).toArray) XC free := by
  obtain ⟨⟨hrc, hrs, hfr, hlo, hws, hcw⟩, hcode, hini, hy, hlen, hl, hin, hse⟩ := cw
  have hK : vx_Back l R p e below s args y 3 8 (PreOf R mc ms Pc) (PostOf Qc mc ms free) (vx_Post XC mc ms free) := vx_backW (hh := hh) (bytes := bytes) (maxL := maxL) (ret := ret) hM hp.1 hrc hrs hfr hlo hws hcw (fun a' U hW => word_at hW (Or.inl (by first | rfl | simp [Cond.onTables, Cond.keeps, Cond.steady])) hini)
  obtain ⟨hx, hb, hml, ho, -⟩ := S
  obtain ⟨-, ⟨cellB, hcB, hoB, hclB⟩, hPc⟩ := hp
  intro T hT X
  rcases vx_callVX X hx (C := C) (hh := hh) (bytes := bytes) (maxL := maxL) (ret := ret) ho hl hin hse hcode hy hK (by rw [hT]; exact hcB) hoB hclB hg (hsize.trans hml.symm) (argsL := As) (rest := rest) (fun sig h => hn.trans (hlen sig h)) hstack hW (by rw [hb]; exact hdg)
    (fun vm₁ hW₁ => ⟨hf.1, hf.2, hPc (T.setVm vm₁) hT hW₁⟩) with ⟨v, vm₁, ⟨U', l2, c2, s2⟩, hW₁, X', ⟨g', mk, t, L, e1, e2, hq, h1, hL, h2, h3⟩, st⟩ | ⟨q, vm₁, ⟨U', l2, c2, s2⟩, hW₁, X', ⟨g', mk, t, L, E, ce, e1, e2, hq, hce, hcv, hcl, h1, hL, h2, h3⟩, st⟩
  · dsimp only [Pt.U, Pt.locs, Pt.cells, Pt.slots] at X' e1 e2 h1 h2 h3 st
    subst h1; subst h2; subst h3
    exact Or.inl ⟨v, (T.setVm vm₁).calling g' mk (Value.ref b :: As).toArray, t, U', L, hT, X', hL, e1, e2, hq, st⟩
  · dsimp only [Pt.U, Pt.locs, Pt.cells, Pt.slots] at X' e1 e2 h1 h2 h3 st hcl
    subst h1; subst h2; subst h3
    exact Or.inr ⟨q, (T.setVm vm₁).calling g' mk (Value.ref b :: As).toArray, t, U', L, E, ce, hT, X', hL, e1, e2, hq, hce, hcv, vx_cls hW₁ hcl, st⟩
theorem vx_runSX {hh : List (Nat × Nat × Nat × Nat)} (S : CallFix p m c cc nL s args Ts own) (hM : vx_Met l y ws rm Pc Qc XC mc ms free) (cw : vx_CSW R s args own index y bytes maxL ret hh ws rm mc ms n) (hp : PreS s H Pc As)
    (hg : g.method = m) (hn : As.length = n) (hsize : g.locals.size = nL) (hstack : g.stack = As.reverse ++ rest) (hW : 2 * g.monitorRoom + (rest.map fun v => v.category).sum ≤ 8) (hdg : decode cc g.pc = .ok (.invokestatic index, 3)) (hf : cells + mc ≤ R.cells ∧ slots + ms ≤ R.slots) :
    vx_Run p l e R s m args below meth c H locs cells slots mc ms g rest (Qc As.toArray) XC free := by
  obtain ⟨⟨hrc, hrs, hfr, hlo, hws, hcw⟩, hcode, hini, hy, hlen, hl, hstt⟩ := cw
  have hK : vx_Back l R p e below s args y 3 8 (PreOf R mc ms Pc) (PostOf Qc mc ms free) (vx_Post XC mc ms free) := vx_backW (hh := hh) (bytes := bytes) (maxL := maxL) (ret := ret) hM hp.1 hrc hrs hfr hlo hws hcw (fun a' U hW => word_at hW (Or.inl (by first | rfl | simp [Cond.onTables, Cond.keeps, Cond.steady])) hini)
  obtain ⟨hx, hb, hml, ho, -⟩ := S
  intro T hT X
  rcases vx_callSX X hx (hh := hh) (bytes := bytes) (maxL := maxL) (ret := ret) ho hl hstt hini hcode hy hK hg (hsize.trans hml.symm) (argsL := As) (rest := rest) (fun sig h => hn.trans (hlen sig h)) hstack hW (by rw [hb]; exact hdg)
    (fun vm₁ hW₁ => ⟨hf.1, hf.2, hp.2 (T.setVm vm₁) hT hW₁⟩) with ⟨v, vm₁, ⟨U', l2, c2, s2⟩, hW₁, X', ⟨g', mk, t, L, e1, e2, hq, h1, hL, h2, h3⟩, st⟩ | ⟨q, vm₁, ⟨U', l2, c2, s2⟩, hW₁, X', ⟨g', mk, t, L, E, ce, e1, e2, hq, hce, hcv, hcl, h1, hL, h2, h3⟩, st⟩
  · dsimp only [Pt.U, Pt.locs, Pt.cells, Pt.slots] at X' e1 e2 h1 h2 h3 st
    subst h1; subst h2; subst h3
    exact Or.inl ⟨v, (T.setVm vm₁).calling g' mk As.toArray, t, U', L, hT, X', hL, e1, e2, hq, st⟩
  · dsimp only [Pt.U, Pt.locs, Pt.cells, Pt.slots] at X' e1 e2 h1 h2 h3 st hcl
    subst h1; subst h2; subst h3
    exact Or.inr ⟨q, (T.setVm vm₁).calling g' mk As.toArray, t, U', L, E, ce, hT, X', hL, e1, e2, hq, hce, hcv, vx_cls hW₁ hcl, st⟩
end
end VXH
theorem vx_ofWH {l : Launch} {y : MethodName} {ws ws' : List Cond} {rm : Room} {Pc : Array Value → State → Prop} {Qc : Array Value → State → Outcome → State → Prop} {XC : String → State → State → Prop} {mc ms : Nat} {free : Addr → Prop} {cc : ByteArray} {maxL : Nat} {ret : Option FieldType} {hh : List (Nat × Nat × Nat × Nat)}
    (hy : plainName y.cls = true) (hw : ws = Cond.codeWith y cc maxL ret hh :: ws')
    (body : ∀ p e s m args below meth c s₁, BodyLoose p l y (headSpec ws rm) cc maxL ret e s m args below meth c s₁ → c.maxLocals = maxL → Pc args s →
      W p l e (headSpec ws rm).room s m args below meth c s.heap [] 0 0 (vx_MQ below Qc XC args s mc ms free) (entryFrame m args maxL)) : vx_Met l y ws rm Pc Qc XC mc ms free := by
  refine MetFree.of_bodyS (code := cc) (maxLocals := maxL) (ret := ret) hy ?_ ?_
  · intro args s m h hn
    obtain ⟨m9, meth, c, hn9, h1, h2, h3, h4, -, h5, h6, -⟩ := Cond.codeWith_spec (atoms_spec (ws := ws) h _ (by rw [hw]; exact List.mem_cons_self))
    cases hn.symm.trans hn9
    exact ⟨meth, c, h1, h2, h3, h4, h5, h6⟩
  · intro p e s m args below meth c s₁ B hml hP _
    have hh0 : s₁.heap = s.heap := by rw [B.state]; rfl
    obtain ⟨t, a1, o, b1, b2, b3⟩ := body p e s m args below meth c s₁ B hml hP s₁ hh0 (Stand.of_body B)
    exact ⟨t, o, a1, b1, b2, b3⟩
/-! ===== END ===== -/

/-! ===== BEGIN printed: names, fields, word lists, decode rows ===== -/
def RX0 : String := "BranchPredictor$Audit"
def TX0 : u_T := fun k => match k with
  | 0 => ("BranchPredictor$Audit", "latestPlaces", "[I", true)
  | 1 => ("BranchPredictor$Audit", "allMeetings", "J", false)
  | _ => ("BranchPredictor$Audit", "harmfulMeetings", "J", false)
def tyX0 : Nat → FieldType := fun k => match k with
  | 0 => .array .int
  | 1 => .long
  | _ => .long
abbrev wsX00 : List Cond := u_ws RX0 TX0 3
theorem nmX0 : ∀ a, a < 3 → ∀ b, b < 3 → a ≠ b → (TX0 a).2.1 ≠ (TX0 b).2.1 := by decide +kernel
theorem tyX0_ok : ∀ k, k < 3 → parseFieldDescriptor (TX0 k).2.2.1 = some (tyX0 k) := by decide +kernel
abbrev cX0_init : ByteArray := prog_2_method_1_code
def yX0_init : MethodName := ⟨RX0, "<init>", "()V"⟩
abbrev cX0_startAnew : ByteArray := prog_2_method_2_code
def yX0_startAnew : MethodName := ⟨RX0, "startAnew", "()V"⟩
abbrev cX0_note : ByteArray := prog_2_method_3_code
def yX0_note : MethodName := ⟨RX0, "note", "(IIZ)V"⟩
def RX1 : String := "BranchPredictor$Branch"
def TX1 : u_T := fun k => match k with
  | 0 => ("BranchPredictor$Branch", "place", "I", false)
  | 1 => ("BranchPredictor$Branch", "state", "I", false)
  | 2 => ("BranchPredictor$Branch", "historyAhead", "I", false)
  | 3 => ("BranchPredictor$Branch", "plainIndex", "I", false)
  | 4 => ("BranchPredictor$Branch", "globalIndex", "I", false)
  | 5 => ("BranchPredictor$Branch", "isPlainTaken", "Z", false)
  | 6 => ("BranchPredictor$Branch", "isGlobalTaken", "Z", false)
  | 7 => ("BranchPredictor$Branch", "isChoiceTaken", "Z", false)
  | _ => ("BranchPredictor$Branch", "isPredictedTaken", "Z", false)
def tyX1 : Nat → FieldType := fun k => match k with
  | 0 => .int
  | 1 => .int
  | 2 => .int
  | 3 => .int
  | 4 => .int
  | 5 => .boolean
  | 6 => .boolean
  | 7 => .boolean
  | _ => .boolean
abbrev wsX10 : List Cond := u_ws RX1 TX1 9
theorem nmX1 : ∀ a, a < 9 → ∀ b, b < 9 → a ≠ b → (TX1 a).2.1 ≠ (TX1 b).2.1 := by decide +kernel
theorem tyX1_ok : ∀ k, k < 9 → parseFieldDescriptor (TX1 k).2.2.1 = some (tyX1 k) := by decide +kernel
abbrev cX1_init : ByteArray := prog_3_method_1_code
def yX1_init : MethodName := ⟨RX1, "<init>", "()V"⟩
abbrev cX1_saidTaken : ByteArray := prog_3_method_2_code
def yX1_saidTaken : MethodName := ⟨RX1, "saidTaken", "(I)Z"⟩
abbrev cX1_isPresumedTaken : ByteArray := prog_3_method_3_code
def yX1_isPresumedTaken : MethodName := ⟨RX1, "isPresumedTaken", "()Z"⟩
def RX2 : String := "BranchPredictor$CounterTable"
def TX2 : u_T := fun k => match k with
  | 0 => ("BranchPredictor$CounterTable", "values", "[I", true)
  | _ => ("BranchPredictor$CounterTable", "size", "I", false)
def tyX2 : Nat → FieldType := fun k => match k with
  | 0 => .array .int
  | _ => .int
abbrev wsX20 : List Cond := u_ws RX2 TX2 2
theorem nmX2 : ∀ a, a < 2 → ∀ b, b < 2 → a ≠ b → (TX2 a).2.1 ≠ (TX2 b).2.1 := by decide +kernel
theorem tyX2_ok : ∀ k, k < 2 → parseFieldDescriptor (TX2 k).2.2.1 = some (tyX2 k) := by decide +kernel
abbrev cX2_init : ByteArray := prog_4_method_1_code
def yX2_init : MethodName := ⟨RX2, "<init>", "()V"⟩
abbrev cX2_startAnew : ByteArray := prog_4_method_2_code
def yX2_startAnew : MethodName := ⟨RX2, "startAnew", "(I)V"⟩
abbrev cX2_indexFor : ByteArray := prog_4_method_3_code
def yX2_indexFor : MethodName := ⟨RX2, "indexFor", "(I)I"⟩
abbrev cX2_valueAt : ByteArray := prog_4_method_4_code
def yX2_valueAt : MethodName := ⟨RX2, "valueAt", "(I)I"⟩
abbrev cX2_saysTaken : ByteArray := prog_4_method_5_code
def yX2_saysTaken : MethodName := ⟨RX2, "saysTaken", "(I)Z"⟩
abbrev cX2_move : ByteArray := prog_4_method_6_code
def yX2_move : MethodName := ⟨RX2, "move", "(IZ)V"⟩
abbrev cX2_mixInto : ByteArray := prog_4_method_7_code
def yX2_mixInto : MethodName := ⟨RX2, "mixInto", "(J)J"⟩
def RX3 : String := "BranchPredictor$Loop"
def TX3 : u_T := fun k => match k with
  | 0 => ("BranchPredictor$Loop", "place", "I", false)
  | 1 => ("BranchPredictor$Loop", "count", "I", false)
  | 2 => ("BranchPredictor$Loop", "trip", "I", false)
  | _ => ("BranchPredictor$Loop", "trust", "I", false)
def tyX3 : Nat → FieldType := fun k => match k with
  | 0 => .int
  | 1 => .int
  | 2 => .int
  | _ => .int
abbrev wsX30 : List Cond := u_ws RX3 TX3 4
theorem nmX3 : ∀ a, a < 4 → ∀ b, b < 4 → a ≠ b → (TX3 a).2.1 ≠ (TX3 b).2.1 := by decide +kernel
theorem tyX3_ok : ∀ k, k < 4 → parseFieldDescriptor (TX3 k).2.2.1 = some (tyX3 k) := by decide +kernel
abbrev cX3_init : ByteArray := prog_5_method_1_code
def yX3_init : MethodName := ⟨RX3, "<init>", "()V"⟩
abbrev cX3_isFree : ByteArray := prog_5_method_2_code
def yX3_isFree : MethodName := ⟨RX3, "isFree", "()Z"⟩
abbrev cX3_startAnew : ByteArray := prog_5_method_3_code
def yX3_startAnew : MethodName := ⟨RX3, "startAnew", "(I)V"⟩
abbrev cX3_learn : ByteArray := prog_5_method_4_code
def yX3_learn : MethodName := ⟨RX3, "learn", "(Z)V"⟩
abbrev cX3_mixInto : ByteArray := prog_5_method_5_code
def yX3_mixInto : MethodName := ⟨RX3, "mixInto", "(J)J"⟩
def RX4 : String := "BranchPredictor"
def TX4 : u_T := fun k => match k with
  | 0 => ("BranchPredictor", "plainTable", "LBranchPredictor$CounterTable;", true)
  | 1 => ("BranchPredictor", "globalTable", "LBranchPredictor$CounterTable;", true)
  | 2 => ("BranchPredictor", "choiceTable", "LBranchPredictor$CounterTable;", true)
  | 3 => ("BranchPredictor", "plainAudit", "LBranchPredictor$Audit;", true)
  | 4 => ("BranchPredictor", "globalAudit", "LBranchPredictor$Audit;", true)
  | 5 => ("BranchPredictor", "ring", "[LBranchPredictor$Branch;", true)
  | 6 => ("BranchPredictor", "loops", "[LBranchPredictor$Loop;", true)
  | 7 => ("BranchPredictor", "missed", "[J", true)
  | 8 => ("BranchPredictor", "plainBits", "I", false)
  | 9 => ("BranchPredictor", "globalBits", "I", false)
  | 10 => ("BranchPredictor", "historyBits", "I", false)
  | 11 => ("BranchPredictor", "outcomes", "I", false)
  | 12 => ("BranchPredictor", "oldest", "I", false)
  | 13 => ("BranchPredictor", "flying", "I", false)
  | 14 => ("BranchPredictor", "committed", "J", false)
  | _ => ("BranchPredictor", "dropped", "J", false)
def tyX4 : Nat → FieldType := fun k => match k with
  | 0 => .object "BranchPredictor$CounterTable"
  | 1 => .object "BranchPredictor$CounterTable"
  | 2 => .object "BranchPredictor$CounterTable"
  | 3 => .object "BranchPredictor$Audit"
  | 4 => .object "BranchPredictor$Audit"
  | 5 => .array (.object "BranchPredictor$Branch")
  | 6 => .array (.object "BranchPredictor$Loop")
  | 7 => .array .long
  | 8 => .int
  | 9 => .int
  | 10 => .int
  | 11 => .int
  | 12 => .int
  | 13 => .int
  | 14 => .long
  | _ => .long
abbrev wsX40 : List Cond := u_ws RX4 TX4 16
theorem nmX4 : ∀ a, a < 16 → ∀ b, b < 16 → a ≠ b → (TX4 a).2.1 ≠ (TX4 b).2.1 := by decide +kernel
theorem tyX4_ok : ∀ k, k < 16 → parseFieldDescriptor (TX4 k).2.2.1 = some (tyX4 k) := by decide +kernel
abbrev cX4_init : ByteArray := prog_1_method_1_code
def yX4_init : MethodName := ⟨RX4, "<init>", "()V"⟩
abbrev cX4_setSizes : ByteArray := prog_1_method_2_code
def yX4_setSizes : MethodName := ⟨RX4, "setSizes", "(III)Z"⟩
abbrev cX4_predict : ByteArray := prog_1_method_3_code
def yX4_predict : MethodName := ⟨RX4, "predict", "(I)Z"⟩
abbrev cX4_resolve : ByteArray := prog_1_method_4_code
def yX4_resolve : MethodName := ⟨RX4, "resolve", "(IZ)I"⟩
abbrev cX4_commit : ByteArray := prog_1_method_5_code
def yX4_commit : MethodName := ⟨RX4, "commit", "()Z"⟩
abbrev cX4_train : ByteArray := prog_1_method_6_code
def yX4_train : MethodName := ⟨RX4, "train", "(IZ)Z"⟩
abbrev cX4_flush : ByteArray := prog_1_method_7_code
def yX4_flush : MethodName := ⟨RX4, "flush", "(I)I"⟩
abbrev cX4_inFlight : ByteArray := prog_1_method_8_code
def yX4_inFlight : MethodName := ⟨RX4, "inFlight", "()I"⟩
abbrev cX4_place : ByteArray := prog_1_method_9_code
def yX4_place : MethodName := ⟨RX4, "place", "(I)I"⟩
abbrev cX4_state : ByteArray := prog_1_method_10_code
def yX4_state : MethodName := ⟨RX4, "state", "(I)I"⟩
abbrev cX4_predicted : ByteArray := prog_1_method_11_code
def yX4_predicted : MethodName := ⟨RX4, "predicted", "(II)Z"⟩
abbrev cX4_history : ByteArray := prog_1_method_12_code
def yX4_history : MethodName := ⟨RX4, "history", "()I"⟩
abbrev cX4_counter : ByteArray := prog_1_method_13_code
def yX4_counter : MethodName := ⟨RX4, "counter", "(II)I"⟩
abbrev cX4_loop : ByteArray := prog_1_method_14_code
def yX4_loop : MethodName := ⟨RX4, "loop", "(II)I"⟩
abbrev cX4_commits : ByteArray := prog_1_method_15_code
def yX4_commits : MethodName := ⟨RX4, "commits", "()J"⟩
abbrev cX4_misses : ByteArray := prog_1_method_16_code
def yX4_misses : MethodName := ⟨RX4, "misses", "(I)J"⟩
abbrev cX4_drops : ByteArray := prog_1_method_17_code
def yX4_drops : MethodName := ⟨RX4, "drops", "()J"⟩
abbrev cX4_meetings : ByteArray := prog_1_method_18_code
def yX4_meetings : MethodName := ⟨RX4, "meetings", "(IZ)J"⟩
abbrev cX4_accuracy : ByteArray := prog_1_method_19_code
def yX4_accuracy : MethodName := ⟨RX4, "accuracy", "()D"⟩
abbrev cX4_digest : ByteArray := prog_1_method_20_code
def yX4_digest : MethodName := ⟨RX4, "digest", "()J"⟩
abbrev cX4_mix : ByteArray := prog_1_method_21_code
def yX4_mix : MethodName := ⟨RX4, "mix", "(JJ)J"⟩
abbrev cX4_isTableBits : ByteArray := prog_1_method_22_code
def yX4_isTableBits : MethodName := ⟨RX4, "isTableBits", "(I)Z"⟩
abbrev cX4_requirePlace : ByteArray := prog_1_method_23_code
def yX4_requirePlace : MethodName := ⟨RX4, "requirePlace", "(I)V"⟩
abbrev cX4_requireKind : ByteArray := prog_1_method_24_code
def yX4_requireKind : MethodName := ⟨RX4, "requireKind", "(I)V"⟩
abbrev cX4_requireInFlight : ByteArray := prog_1_method_25_code
def yX4_requireInFlight : MethodName := ⟨RX4, "requireInFlight", "(I)V"⟩
abbrev cX4_startAnew : ByteArray := prog_1_method_26_code
def yX4_startAnew : MethodName := ⟨RX4, "startAnew", "(III)V"⟩
abbrev cX4_tableWith : ByteArray := prog_1_method_27_code
def yX4_tableWith : MethodName := ⟨RX4, "tableWith", "(I)LBranchPredictor$CounterTable;"⟩
abbrev cX4_branchAt : ByteArray := prog_1_method_28_code
def yX4_branchAt : MethodName := ⟨RX4, "branchAt", "(I)LBranchPredictor$Branch;"⟩
abbrev cX4_appended : ByteArray := prog_1_method_29_code
def yX4_appended : MethodName := ⟨RX4, "appended", "(IZ)I"⟩
abbrev cX4_launch : ByteArray := prog_1_method_30_code
def yX4_launch : MethodName := ⟨RX4, "launch", "(I)Z"⟩
abbrev cX4_loopPrediction : ByteArray := prog_1_method_31_code
def yX4_loopPrediction : MethodName := ⟨RX4, "loopPrediction", "(IZ)Z"⟩
abbrev cX4_presumedCount : ByteArray := prog_1_method_32_code
def yX4_presumedCount : MethodName := ⟨RX4, "presumedCount", "(LBranchPredictor$Loop;)I"⟩
abbrev cX4_settle : ByteArray := prog_1_method_33_code
def yX4_settle : MethodName := ⟨RX4, "settle", "(IZ)I"⟩
abbrev cX4_dropFrom : ByteArray := prog_1_method_34_code
def yX4_dropFrom : MethodName := ⟨RX4, "dropFrom", "(I)I"⟩
abbrev cX4_retire : ByteArray := prog_1_method_35_code
def yX4_retire : MethodName := ⟨RX4, "retire", "()Z"⟩
abbrev cX4_countMisses : ByteArray := prog_1_method_36_code
def yX4_countMisses : MethodName := ⟨RX4, "countMisses", "(LBranchPredictor$Branch;Z)V"⟩
abbrev cX4_learnChoice : ByteArray := prog_1_method_37_code
def yX4_learnChoice : MethodName := ⟨RX4, "learnChoice", "(LBranchPredictor$Branch;Z)V"⟩
abbrev cX4_learnOutcome : ByteArray := prog_1_method_38_code
def yX4_learnOutcome : MethodName := ⟨RX4, "learnOutcome", "(LBranchPredictor$CounterTable;LBranchPredictor$Audit;IIZ)V"⟩
abbrev cX4_learnLoop : ByteArray := prog_1_method_39_code
def yX4_learnLoop : MethodName := ⟨RX4, "learnLoop", "(LBranchPredictor$Branch;Z)V"⟩
abbrev cX4_loopWith : ByteArray := prog_1_method_40_code
def yX4_loopWith : MethodName := ⟨RX4, "loopWith", "(I)I"⟩
abbrev cX4_numberForNewLoop : ByteArray := prog_1_method_41_code
def yX4_numberForNewLoop : MethodName := ⟨RX4, "numberForNewLoop", "()I"⟩
def RX5 : String := "BranchPredictorModel"
def TX5 : u_T := fun k => match k with
  | 0 => ("BranchPredictorModel", "thrown", "I", false)
  | 1 => ("BranchPredictorModel", "p", "I", false)
  | 2 => ("BranchPredictorModel", "g", "I", false)
  | 3 => ("BranchPredictorModel", "h", "I", false)
  | 4 => ("BranchPredictorModel", "history", "I", false)
  | 5 => ("BranchPredictorModel", "counters", "[I", true)
  | 6 => ("BranchPredictorModel", "latestPlaces", "[I", true)
  | 7 => ("BranchPredictorModel", "flying", "I", false)
  | 8 => ("BranchPredictorModel", "places", "[I", true)
  | 9 => ("BranchPredictorModel", "histories", "[I", true)
  | 10 => ("BranchPredictorModel", "predictions", "[Z", true)
  | 11 => ("BranchPredictorModel", "areResolved", "[Z", true)
  | 12 => ("BranchPredictorModel", "outcomes", "[Z", true)
  | 13 => ("BranchPredictorModel", "isLoop", "[Z", true)
  | 14 => ("BranchPredictorModel", "loopPlaces", "[I", true)
  | 15 => ("BranchPredictorModel", "loopCounts", "[I", true)
  | 16 => ("BranchPredictorModel", "trips", "[I", true)
  | 17 => ("BranchPredictorModel", "trusts", "[I", true)
  | 18 => ("BranchPredictorModel", "commits", "J", false)
  | 19 => ("BranchPredictorModel", "drops", "J", false)
  | 20 => ("BranchPredictorModel", "misses", "[J", true)
  | _ => ("BranchPredictorModel", "meetings", "[J", true)
def tyX5 : Nat → FieldType := fun k => match k with
  | 0 => .int
  | 1 => .int
  | 2 => .int
  | 3 => .int
  | 4 => .int
  | 5 => .array .int
  | 6 => .array .int
  | 7 => .int
  | 8 => .array .int
  | 9 => .array .int
  | 10 => .array .boolean
  | 11 => .array .boolean
  | 12 => .array .boolean
  | 13 => .array .boolean
  | 14 => .array .int
  | 15 => .array .int
  | 16 => .array .int
  | 17 => .array .int
  | 18 => .long
  | 19 => .long
  | 20 => .array .long
  | _ => .array .long
abbrev wsX50 : List Cond := u_ws RX5 TX5 22
theorem nmX5 : ∀ a, a < 22 → ∀ b, b < 22 → a ≠ b → (TX5 a).2.1 ≠ (TX5 b).2.1 := by decide +kernel
theorem tyX5_ok : ∀ k, k < 22 → parseFieldDescriptor (TX5 k).2.2.1 = some (tyX5 k) := by decide +kernel
abbrev cX5_init : ByteArray := prog_7_method_1_code
def yX5_init : MethodName := ⟨RX5, "<init>", "()V"⟩
abbrev cX5_thrown : ByteArray := prog_7_method_2_code
def yX5_thrown : MethodName := ⟨RX5, "thrown", "()I"⟩
abbrev cX5_fail : ByteArray := prog_7_method_3_code
def yX5_fail : MethodName := ⟨RX5, "fail", "(I)I"⟩
abbrev cX5_failed : ByteArray := prog_7_method_4_code
def yX5_failed : MethodName := ⟨RX5, "failed", "(I)Z"⟩
abbrev cX5_begin : ByteArray := prog_7_method_5_code
def yX5_begin : MethodName := ⟨RX5, "begin", "(III)V"⟩
abbrev cX5_setSizes : ByteArray := prog_7_method_6_code
def yX5_setSizes : MethodName := ⟨RX5, "setSizes", "(III)Z"⟩
abbrev cX5_plainIndex : ByteArray := prog_7_method_7_code
def yX5_plainIndex : MethodName := ⟨RX5, "plainIndex", "(I)I"⟩
abbrev cX5_globalIndex : ByteArray := prog_7_method_8_code
def yX5_globalIndex : MethodName := ⟨RX5, "globalIndex", "(II)I"⟩
abbrev cX5_choiceIndex : ByteArray := prog_7_method_9_code
def yX5_choiceIndex : MethodName := ⟨RX5, "choiceIndex", "(I)I"⟩
abbrev cX5_says : ByteArray := prog_7_method_10_code
def yX5_says : MethodName := ⟨RX5, "says", "(I)Z"⟩
abbrev cX5_appended : ByteArray := prog_7_method_11_code
def yX5_appended : MethodName := ⟨RX5, "appended", "(IZ)I"⟩
abbrev cX5_loopOf : ByteArray := prog_7_method_12_code
def yX5_loopOf : MethodName := ⟨RX5, "loopOf", "(I)I"⟩
abbrev cX5_isTaken : ByteArray := prog_7_method_13_code
def yX5_isTaken : MethodName := ⟨RX5, "isTaken", "(I)Z"⟩
abbrev cX5_presumed : ByteArray := prog_7_method_14_code
def yX5_presumed : MethodName := ⟨RX5, "presumed", "(I)I"⟩
abbrev cX5_add : ByteArray := prog_7_method_15_code
def yX5_add : MethodName := ⟨RX5, "add", "(I)Z"⟩
abbrev cX5_predict : ByteArray := prog_7_method_16_code
def yX5_predict : MethodName := ⟨RX5, "predict", "(I)Z"⟩
abbrev cX5_isFlying : ByteArray := prog_7_method_17_code
def yX5_isFlying : MethodName := ⟨RX5, "isFlying", "(I)Z"⟩
abbrev cX5_isWrong : ByteArray := prog_7_method_18_code
def yX5_isWrong : MethodName := ⟨RX5, "isWrong", "(I)Z"⟩
abbrev cX5_settle : ByteArray := prog_7_method_19_code
def yX5_settle : MethodName := ⟨RX5, "settle", "(IZ)I"⟩
abbrev cX5_resolve : ByteArray := prog_7_method_20_code
def yX5_resolve : MethodName := ⟨RX5, "resolve", "(IZ)I"⟩
abbrev cX5_change : ByteArray := prog_7_method_21_code
def yX5_change : MethodName := ⟨RX5, "change", "(IZ)V"⟩
abbrev cX5_audit : ByteArray := prog_7_method_22_code
def yX5_audit : MethodName := ⟨RX5, "audit", "(IIIZ)V"⟩
abbrev cX5_learnLoop : ByteArray := prog_7_method_23_code
def yX5_learnLoop : MethodName := ⟨RX5, "learnLoop", "(IZZ)V"⟩
abbrev cX5_makeLoop : ByteArray := prog_7_method_24_code
def yX5_makeLoop : MethodName := ⟨RX5, "makeLoop", "(I)V"⟩
abbrev cX5_learn : ByteArray := prog_7_method_25_code
def yX5_learn : MethodName := ⟨RX5, "learn", "()Z"⟩
abbrev cX5_commit : ByteArray := prog_7_method_26_code
def yX5_commit : MethodName := ⟨RX5, "commit", "()Z"⟩
abbrev cX5_train : ByteArray := prog_7_method_27_code
def yX5_train : MethodName := ⟨RX5, "train", "(IZ)Z"⟩
abbrev cX5_flush : ByteArray := prog_7_method_28_code
def yX5_flush : MethodName := ⟨RX5, "flush", "(I)I"⟩
abbrev cX5_inFlight : ByteArray := prog_7_method_29_code
def yX5_inFlight : MethodName := ⟨RX5, "inFlight", "()I"⟩
abbrev cX5_place : ByteArray := prog_7_method_30_code
def yX5_place : MethodName := ⟨RX5, "place", "(I)I"⟩
abbrev cX5_stateOf : ByteArray := prog_7_method_31_code
def yX5_stateOf : MethodName := ⟨RX5, "stateOf", "(I)I"⟩
abbrev cX5_state : ByteArray := prog_7_method_32_code
def yX5_state : MethodName := ⟨RX5, "state", "(I)I"⟩
abbrev cX5_isKind : ByteArray := prog_7_method_33_code
def yX5_isKind : MethodName := ⟨RX5, "isKind", "(I)Z"⟩
abbrev cX5_predicted : ByteArray := prog_7_method_34_code
def yX5_predicted : MethodName := ⟨RX5, "predicted", "(II)Z"⟩
abbrev cX5_history : ByteArray := prog_7_method_35_code
def yX5_history : MethodName := ⟨RX5, "history", "()I"⟩
abbrev cX5_sizeOf : ByteArray := prog_7_method_36_code
def yX5_sizeOf : MethodName := ⟨RX5, "sizeOf", "(I)I"⟩
abbrev cX5_counter : ByteArray := prog_7_method_37_code
def yX5_counter : MethodName := ⟨RX5, "counter", "(II)I"⟩
abbrev cX5_ofLoop : ByteArray := prog_7_method_38_code
def yX5_ofLoop : MethodName := ⟨RX5, "ofLoop", "(II)I"⟩
abbrev cX5_loop : ByteArray := prog_7_method_39_code
def yX5_loop : MethodName := ⟨RX5, "loop", "(II)I"⟩
abbrev cX5_commits : ByteArray := prog_7_method_40_code
def yX5_commits : MethodName := ⟨RX5, "commits", "()J"⟩
abbrev cX5_misses : ByteArray := prog_7_method_41_code
def yX5_misses : MethodName := ⟨RX5, "misses", "(I)J"⟩
abbrev cX5_drops : ByteArray := prog_7_method_42_code
def yX5_drops : MethodName := ⟨RX5, "drops", "()J"⟩
abbrev cX5_meetings : ByteArray := prog_7_method_43_code
def yX5_meetings : MethodName := ⟨RX5, "meetings", "(IZ)J"⟩
abbrev cX5_accuracy : ByteArray := prog_7_method_44_code
def yX5_accuracy : MethodName := ⟨RX5, "accuracy", "()D"⟩
abbrev cX5_digest : ByteArray := prog_7_method_45_code
def yX5_digest : MethodName := ⟨RX5, "digest", "()J"⟩
def RJ9 : String := "java/lang/Math"
def TJ9 : u_T := fun k => match k with
  | _ => ("", "", "", false)
def tyJ9 : Nat → FieldType := fun k => match k with
  | _ => .int
abbrev wsJ90 : List Cond := u_ws RJ9 TJ9 0
theorem nmJ9 : ∀ a, a < 0 → ∀ b, b < 0 → a ≠ b → (TJ9 a).2.1 ≠ (TJ9 b).2.1 := by decide +kernel
theorem tyJ9_ok : ∀ k, k < 0 → parseFieldDescriptor (TJ9 k).2.2.1 = some (tyJ9 k) := by decide +kernel
abbrev cJ9_max_7cf53 : ByteArray := prog_12_method_65_code
def yJ9_max_7cf53 : MethodName := ⟨RJ9, "max", "(II)I"⟩
abbrev cJ9_min_7cf53 : ByteArray := prog_12_method_69_code
def yJ9_min_7cf53 : MethodName := ⟨RJ9, "min", "(II)I"⟩
def RJ0 : String := "java/lang/String"
def TJ0 : u_T := fun k => match k with
  | _ => ("", "", "", false)
def tyJ0 : Nat → FieldType := fun k => match k with
  | _ => .int
abbrev wsJ00 : List Cond := u_ws RJ0 TJ0 0
theorem nmJ0 : ∀ a, a < 0 → ∀ b, b < 0 → a ≠ b → (TJ0 a).2.1 ≠ (TJ0 b).2.1 := by decide +kernel
theorem tyJ0_ok : ∀ k, k < 0 → parseFieldDescriptor (TJ0 k).2.2.1 = some (tyJ0 k) := by decide +kernel
def RL : String := "BranchPredictorLaw"
abbrev cL_setSizes : ByteArray := method_3_code
def yL_setSizes : MethodName := ⟨RL, "setSizes", "(LBranchPredictor;III[J)I"⟩
abbrev cL_predict : ByteArray := method_4_code
def yL_predict : MethodName := ⟨RL, "predict", "(LBranchPredictor;I[J)I"⟩
abbrev cL_resolve : ByteArray := method_5_code
def yL_resolve : MethodName := ⟨RL, "resolve", "(LBranchPredictor;IZ[J)I"⟩
abbrev cL_commit : ByteArray := method_6_code
def yL_commit : MethodName := ⟨RL, "commit", "(LBranchPredictor;[J)I"⟩
abbrev cL_train : ByteArray := method_7_code
def yL_train : MethodName := ⟨RL, "train", "(LBranchPredictor;IZ[J)I"⟩
abbrev cL_flush : ByteArray := method_8_code
def yL_flush : MethodName := ⟨RL, "flush", "(LBranchPredictor;I[J)I"⟩
abbrev cL_place : ByteArray := method_9_code
def yL_place : MethodName := ⟨RL, "place", "(LBranchPredictor;I[J)I"⟩
abbrev cL_state : ByteArray := method_10_code
def yL_state : MethodName := ⟨RL, "state", "(LBranchPredictor;I[J)I"⟩
abbrev cL_predicted : ByteArray := method_11_code
def yL_predicted : MethodName := ⟨RL, "predicted", "(LBranchPredictor;II[J)I"⟩
abbrev cL_counter : ByteArray := method_12_code
def yL_counter : MethodName := ⟨RL, "counter", "(LBranchPredictor;II[J)I"⟩
abbrev cL_loop : ByteArray := method_13_code
def yL_loop : MethodName := ⟨RL, "loop", "(LBranchPredictor;II[J)I"⟩
abbrev cL_misses : ByteArray := method_14_code
def yL_misses : MethodName := ⟨RL, "misses", "(LBranchPredictor;I[J)I"⟩
abbrev cL_meetings : ByteArray := method_15_code
def yL_meetings : MethodName := ⟨RL, "meetings", "(LBranchPredictor;IZ[J)I"⟩
abbrev cL_law : ByteArray := code
def yL_law : MethodName := ⟨RL, "law", "([I)Z"⟩
def wsX0_init : List Cond := .code yX0_init cX0_init 1 none :: ([.methodLink RX0 3 objectInit, .instanceMethod objectInit, .code objectInit ⟨#[0xb1]⟩ 1 none, .arrayClass .int, .fieldLink RX0 9 "BranchPredictor$Audit" "latestPlaces" "[I"] ++ wsX00)
def wsX0_startAnew : List Cond := .code yX0_startAnew cX0_startAnew 2 none :: ([.fieldLink RX0 9 "BranchPredictor$Audit" "latestPlaces" "[I", .fieldLink RX0 15 "BranchPredictor$Audit" "allMeetings" "J", .fieldLink RX0 19 "BranchPredictor$Audit" "harmfulMeetings" "J"] ++ wsX00)
def wsX0_note : List Cond := .code yX0_note cX0_note 6 none :: ([.fieldLink RX0 9 "BranchPredictor$Audit" "latestPlaces" "[I", .fieldLink RX0 15 "BranchPredictor$Audit" "allMeetings" "J", .fieldLink RX0 19 "BranchPredictor$Audit" "harmfulMeetings" "J"] ++ wsX00)
def wsX1_init : List Cond := .code yX1_init cX1_init 1 none :: ([.methodLink RX1 3 objectInit, .instanceMethod objectInit, .code objectInit ⟨#[0xb1]⟩ 1 none])
def wsX1_saidTaken : List Cond := .code yX1_saidTaken cX1_saidTaken 2 (some .boolean) :: ([.fieldLink RX1 9 "BranchPredictor$Branch" "isPlainTaken" "Z", .fieldLink RX1 15 "BranchPredictor$Branch" "isGlobalTaken" "Z", .fieldLink RX1 18 "BranchPredictor$Branch" "isChoiceTaken" "Z", .fieldLink RX1 21 "BranchPredictor$Branch" "isPredictedTaken" "Z"] ++ wsX10)
def wsX1_isPresumedTaken : List Cond := .code yX1_isPresumedTaken cX1_isPresumedTaken 1 (some .boolean) :: ([.fieldLink RX1 24 "BranchPredictor$Branch" "state" "I", .fieldLink RX1 21 "BranchPredictor$Branch" "isPredictedTaken" "Z"] ++ wsX10)
def wsX2_init : List Cond := .code yX2_init cX2_init 1 none :: ([.methodLink RX2 3 objectInit, .instanceMethod objectInit, .code objectInit ⟨#[0xb1]⟩ 1 none, .arrayClass .int, .fieldLink RX2 9 "BranchPredictor$CounterTable" "values" "[I", .fieldLink RX2 15 "BranchPredictor$CounterTable" "size" "I"] ++ wsX20)
def wsX2_startAnew : List Cond := .code yX2_startAnew cX2_startAnew 3 none :: ([.fieldLink RX2 15 "BranchPredictor$CounterTable" "size" "I", .fieldLink RX2 9 "BranchPredictor$CounterTable" "values" "[I"] ++ wsX20)
def wsX2_indexFor : List Cond := .code yX2_indexFor cX2_indexFor 2 (some .int) :: ([.fieldLink RX2 15 "BranchPredictor$CounterTable" "size" "I"] ++ wsX20)
def wsX2_valueAt : List Cond := .code yX2_valueAt cX2_valueAt 2 (some .int) :: ([.fieldLink RX2 9 "BranchPredictor$CounterTable" "values" "[I"] ++ wsX20)
def wsX2_saysTaken : List Cond := .code yX2_saysTaken cX2_saysTaken 2 (some .boolean) :: ([.methodLink RX2 19 yX2_valueAt, .instanceMethod yX2_valueAt, .selects RX2 yX2_valueAt yX2_valueAt, .initialized RX2, .code yX2_valueAt cX2_valueAt 2 (some .int), .fieldLink RX2 9 "BranchPredictor$CounterTable" "values" "[I"] ++ wsX20)
def wsX2_move : List Cond := .code yX2_move cX2_move 5 none :: ([.methodLink RX2 23 Lib.Math.min.name, .static Lib.Math.min.name, .initialized "java/lang/Math", .code Lib.Math.min.name Lib.Math.min.code 2 (some .int), .methodLink RX2 29 Lib.Math.max.name, .static Lib.Math.max.name, .code Lib.Math.max.name Lib.Math.max.code 2 (some .int), .fieldLink RX2 9 "BranchPredictor$CounterTable" "values" "[I", .methodLink RX2 19 yX2_valueAt, .instanceMethod yX2_valueAt, .selects RX2 yX2_valueAt yX2_valueAt, .initialized RX2, .code yX2_valueAt cX2_valueAt 2 (some .int)] ++ wsX20)
def wsX4_mix : List Cond := .code yX4_mix cX4_mix 4 (some .long) :: ([.constantLong RX4 197 (31)])
def wsX2_mixInto : List Cond := .code yX2_mixInto cX2_mixInto 6 (some .long) :: ([.fieldLink RX2 15 "BranchPredictor$CounterTable" "size" "I", .fieldLink RX2 9 "BranchPredictor$CounterTable" "values" "[I", .static yX4_mix, .initialized RX4, .code yX4_mix cX4_mix 4 (some .long), .constantLong RX4 197 (31)] ++ wsX20)
def wsX3_init : List Cond := .code yX3_init cX3_init 1 none :: ([.methodLink RX3 3 objectInit, .instanceMethod objectInit, .code objectInit ⟨#[0xb1]⟩ 1 none, .fieldLink RX3 9 "BranchPredictor$Loop" "place" "I"] ++ wsX30)
def wsX3_isFree : List Cond := .code yX3_isFree cX3_isFree 1 (some .boolean) :: ([.fieldLink RX3 9 "BranchPredictor$Loop" "place" "I"] ++ wsX30)
def wsX3_startAnew : List Cond := .code yX3_startAnew cX3_startAnew 2 none :: ([.fieldLink RX3 9 "BranchPredictor$Loop" "place" "I", .fieldLink RX3 15 "BranchPredictor$Loop" "count" "I", .fieldLink RX3 18 "BranchPredictor$Loop" "trip" "I", .fieldLink RX3 21 "BranchPredictor$Loop" "trust" "I"] ++ wsX30)
def wsX3_learn : List Cond := .code yX3_learn cX3_learn 2 none :: ([.fieldLink RX3 15 "BranchPredictor$Loop" "count" "I", .fieldLink RX3 9 "BranchPredictor$Loop" "place" "I", .fieldLink RX3 18 "BranchPredictor$Loop" "trip" "I", .fieldLink RX3 21 "BranchPredictor$Loop" "trust" "I", .methodLink RX3 24 Lib.Math.min.name, .static Lib.Math.min.name, .initialized "java/lang/Math", .code Lib.Math.min.name Lib.Math.min.code 2 (some .int)] ++ wsX30)
def wsX3_mixInto : List Cond := .code yX3_mixInto cX3_mixInto 6 (some .long) :: ([.constantLong RX3 34 (-1), .fieldLink RX3 9 "BranchPredictor$Loop" "place" "I", .fieldLink RX3 15 "BranchPredictor$Loop" "count" "I", .fieldLink RX3 18 "BranchPredictor$Loop" "trip" "I", .fieldLink RX3 21 "BranchPredictor$Loop" "trust" "I", .methodLink RX3 30 yX3_isFree, .instanceMethod yX3_isFree, .selects RX3 yX3_isFree yX3_isFree, .initialized RX3, .code yX3_isFree cX3_isFree 1 (some .boolean), .static yX4_mix, .initialized RX4, .code yX4_mix cX4_mix 4 (some .long), .constantLong RX4 197 (31)] ++ wsX30)
def wsX4_startAnew_r1 : List Cond := [Cond.fieldLink RX4 48 "BranchPredictor" "plainBits" "I", Cond.fieldLink RX4 52 "BranchPredictor" "globalBits" "I", Cond.fieldLink RX4 55 "BranchPredictor" "historyBits" "I", Cond.fieldLink RX4 12 "BranchPredictor" "plainTable" "LBranchPredictor$CounterTable;", Cond.fieldLink RX4 16 "BranchPredictor" "globalTable" "LBranchPredictor$CounterTable;", Cond.fieldLink RX4 19 "BranchPredictor" "choiceTable" "LBranchPredictor$CounterTable;", Cond.fieldLink RX4 25 "BranchPredictor" "plainAudit" "LBranchPredictor$Audit;", Cond.fieldLink RX4 29 "BranchPredictor" "globalAudit" "LBranchPredictor$Audit;", Cond.fieldLink RX4 40 "BranchPredictor" "loops" "[LBranchPredictor$Loop;", Cond.fieldLink RX4 157 "BranchPredictor$Loop" "place" "I", Cond.fieldLink RX4 44 "BranchPredictor" "missed" "[J", Cond.fieldLink RX4 119 "BranchPredictor" "outcomes" "I", Cond.fieldLink RX4 210 "BranchPredictor" "oldest" "I", Cond.fieldLink RX4 79 "BranchPredictor" "flying" "I", Cond.fieldLink RX4 171 "BranchPredictor" "committed" "J", Cond.fieldLink RX4 175 "BranchPredictor" "dropped" "J", Cond.methodLink RX4 206 yX2_startAnew, Cond.instanceMethod yX2_startAnew, Cond.selects RX2 yX2_startAnew yX2_startAnew, Cond.initialized RX2, Cond.code yX2_startAnew cX2_startAnew 3 none, Cond.fieldLink RX2 15 "BranchPredictor$CounterTable" "size" "I", Cond.fieldLink RX2 9 "BranchPredictor$CounterTable" "values" "[I", Cond.methodLink RX4 208 yX0_startAnew]
def wsX4_startAnew_r2 : List Cond := [Cond.instanceMethod yX0_startAnew, Cond.selects RX0 yX0_startAnew yX0_startAnew, Cond.initialized RX0, Cond.code yX0_startAnew cX0_startAnew 2 none, Cond.fieldLink RX0 9 "BranchPredictor$Audit" "latestPlaces" "[I", Cond.fieldLink RX0 15 "BranchPredictor$Audit" "allMeetings" "J", Cond.fieldLink RX0 19 "BranchPredictor$Audit" "harmfulMeetings" "J"]
def wsX4_startAnew : List Cond := .code yX4_startAnew cX4_startAnew 5 none :: ((wsX4_startAnew_r1 ++ wsX4_startAnew_r2) ++ wsX40 ++ wsX30 ++ wsX20 ++ wsX00)
def wsX4_init_r1 : List Cond := [Cond.methodLink RX4 3 objectInit, Cond.instanceMethod objectInit, Cond.code objectInit ⟨#[0xb1]⟩ 1 none, Cond.classLink RX4 9 RX2, Cond.instantiable RX2 2, Cond.initialized RX2, Cond.fieldLink RX4 12 "BranchPredictor" "plainTable" "LBranchPredictor$CounterTable;", Cond.fieldLink RX4 16 "BranchPredictor" "globalTable" "LBranchPredictor$CounterTable;", Cond.fieldLink RX4 19 "BranchPredictor" "choiceTable" "LBranchPredictor$CounterTable;", Cond.classLink RX4 22 RX0, Cond.instantiable RX0 3, Cond.initialized RX0, Cond.fieldLink RX4 25 "BranchPredictor" "plainAudit" "LBranchPredictor$Audit;", Cond.fieldLink RX4 29 "BranchPredictor" "globalAudit" "LBranchPredictor$Audit;", Cond.classLink RX4 32 RX1, Cond.fieldLink RX4 34 "BranchPredictor" "ring" "[LBranchPredictor$Branch;", Cond.classLink RX4 38 RX3, Cond.fieldLink RX4 40 "BranchPredictor" "loops" "[LBranchPredictor$Loop;", Cond.arrayClass .long, Cond.fieldLink RX4 44 "BranchPredictor" "missed" "[J", Cond.fieldLink RX4 48 "BranchPredictor" "plainBits" "I", Cond.fieldLink RX4 52 "BranchPredictor" "globalBits" "I", Cond.fieldLink RX4 55 "BranchPredictor" "historyBits" "I", Cond.instantiable RX1 9]
def wsX4_init_r2 : List Cond := [Cond.initialized RX1, Cond.instantiable RX3 4, Cond.initialized RX3, Cond.instanceMethod yX2_init, Cond.code yX2_init cX2_init 1 none, Cond.methodLink RX2 3 objectInit, Cond.arrayClass .int, Cond.fieldLink RX2 9 "BranchPredictor$CounterTable" "values" "[I", Cond.fieldLink RX2 15 "BranchPredictor$CounterTable" "size" "I", Cond.instanceMethod yX0_init, Cond.code yX0_init cX0_init 1 none, Cond.methodLink RX0 3 objectInit, Cond.fieldLink RX0 9 "BranchPredictor$Audit" "latestPlaces" "[I", Cond.instanceMethod yX1_init, Cond.code yX1_init cX1_init 1 none, Cond.methodLink RX1 3 objectInit, Cond.instanceMethod yX3_init, Cond.code yX3_init cX3_init 1 none, Cond.methodLink RX3 3 objectInit, Cond.fieldLink RX3 9 "BranchPredictor$Loop" "place" "I", Cond.methodLink RX4 60 yX4_startAnew, Cond.instanceMethod yX4_startAnew, Cond.selects RX4 yX4_startAnew yX4_startAnew, Cond.initialized RX4]
def wsX4_init_r3 : List Cond := [Cond.code yX4_startAnew cX4_startAnew 5 none, Cond.fieldLink RX4 157 "BranchPredictor$Loop" "place" "I", Cond.fieldLink RX4 119 "BranchPredictor" "outcomes" "I", Cond.fieldLink RX4 210 "BranchPredictor" "oldest" "I", Cond.fieldLink RX4 79 "BranchPredictor" "flying" "I", Cond.fieldLink RX4 171 "BranchPredictor" "committed" "J", Cond.fieldLink RX4 175 "BranchPredictor" "dropped" "J", Cond.methodLink RX4 206 yX2_startAnew, Cond.instanceMethod yX2_startAnew, Cond.selects RX2 yX2_startAnew yX2_startAnew, Cond.code yX2_startAnew cX2_startAnew 3 none, Cond.methodLink RX4 208 yX0_startAnew, Cond.instanceMethod yX0_startAnew, Cond.selects RX0 yX0_startAnew yX0_startAnew, Cond.code yX0_startAnew cX0_startAnew 2 none, Cond.fieldLink RX0 15 "BranchPredictor$Audit" "allMeetings" "J", Cond.fieldLink RX0 19 "BranchPredictor$Audit" "harmfulMeetings" "J"]
def wsX4_init : List Cond := .code yX4_init cX4_init 2 none :: ((wsX4_init_r1 ++ (wsX4_init_r2 ++ wsX4_init_r3)) ++ wsX20 ++ wsX40 ++ wsX00 ++ wsX10 ++ wsX30)
def wsX4_isTableBits : List Cond := .code yX4_isTableBits cX4_isTableBits 1 (some .boolean) :: ([])
def wsX4_setSizes_r1 : List Cond := [Cond.classLink RX4 68 "java/lang/IllegalArgumentException", Cond.initialized "java/lang/IllegalArgumentException", Cond.fieldLink RX4 48 "BranchPredictor" "plainBits" "I", Cond.fieldLink RX4 52 "BranchPredictor" "globalBits" "I", Cond.fieldLink RX4 55 "BranchPredictor" "historyBits" "I", Cond.methodLink RX4 64 yX4_isTableBits, Cond.static yX4_isTableBits, Cond.initialized RX4, Cond.code yX4_isTableBits cX4_isTableBits 1 (some .boolean), Cond.methodLink RX4 60 yX4_startAnew, Cond.instanceMethod yX4_startAnew, Cond.selects RX4 yX4_startAnew yX4_startAnew, Cond.code yX4_startAnew cX4_startAnew 5 none, Cond.fieldLink RX4 12 "BranchPredictor" "plainTable" "LBranchPredictor$CounterTable;", Cond.fieldLink RX4 16 "BranchPredictor" "globalTable" "LBranchPredictor$CounterTable;", Cond.fieldLink RX4 19 "BranchPredictor" "choiceTable" "LBranchPredictor$CounterTable;", Cond.fieldLink RX4 25 "BranchPredictor" "plainAudit" "LBranchPredictor$Audit;", Cond.fieldLink RX4 29 "BranchPredictor" "globalAudit" "LBranchPredictor$Audit;", Cond.fieldLink RX4 40 "BranchPredictor" "loops" "[LBranchPredictor$Loop;", Cond.fieldLink RX4 157 "BranchPredictor$Loop" "place" "I", Cond.fieldLink RX4 44 "BranchPredictor" "missed" "[J", Cond.fieldLink RX4 119 "BranchPredictor" "outcomes" "I", Cond.fieldLink RX4 210 "BranchPredictor" "oldest" "I", Cond.fieldLink RX4 79 "BranchPredictor" "flying" "I"]
def wsX4_setSizes_r2 : List Cond := [Cond.fieldLink RX4 171 "BranchPredictor" "committed" "J", Cond.fieldLink RX4 175 "BranchPredictor" "dropped" "J", Cond.methodLink RX4 206 yX2_startAnew, Cond.instanceMethod yX2_startAnew, Cond.selects RX2 yX2_startAnew yX2_startAnew, Cond.initialized RX2, Cond.code yX2_startAnew cX2_startAnew 3 none, Cond.fieldLink RX2 15 "BranchPredictor$CounterTable" "size" "I", Cond.fieldLink RX2 9 "BranchPredictor$CounterTable" "values" "[I", Cond.methodLink RX4 208 yX0_startAnew, Cond.instanceMethod yX0_startAnew, Cond.selects RX0 yX0_startAnew yX0_startAnew, Cond.initialized RX0, Cond.code yX0_startAnew cX0_startAnew 2 none, Cond.fieldLink RX0 9 "BranchPredictor$Audit" "latestPlaces" "[I", Cond.fieldLink RX0 15 "BranchPredictor$Audit" "allMeetings" "J", Cond.fieldLink RX0 19 "BranchPredictor$Audit" "harmfulMeetings" "J"]
def wsX4_setSizes : List Cond := .code yX4_setSizes cX4_setSizes 5 (some .boolean) :: ((wsX4_setSizes_r1 ++ wsX4_setSizes_r2) ++ wsX40 ++ wsX30 ++ wsX20 ++ wsX00 ++ (vx_atS RX4 72 "java/lang/IllegalArgumentException" ["java/lang/RuntimeException", "java/lang/Exception"]).filter goodWord)
def wsX4_requirePlace : List Cond := .code yX4_requirePlace cX4_requirePlace 1 none :: ([.classLink RX4 68 "java/lang/IllegalArgumentException", .initialized "java/lang/IllegalArgumentException", .constant RX4 199 (65535)] ++ (vx_atS RX4 72 "java/lang/IllegalArgumentException" ["java/lang/RuntimeException", "java/lang/Exception"]).filter goodWord)
def wsX4_branchAt : List Cond := .code yX4_branchAt cX4_branchAt 2 (some (.object "BranchPredictor$Branch")) :: ([.fieldLink RX4 34 "BranchPredictor" "ring" "[LBranchPredictor$Branch;", .fieldLink RX4 210 "BranchPredictor" "oldest" "I"] ++ wsX40)
def wsX4_loopWith : List Cond := .code yX4_loopWith cX4_loopWith 3 (some .int) :: ([.fieldLink RX4 40 "BranchPredictor" "loops" "[LBranchPredictor$Loop;", .fieldLink RX4 157 "BranchPredictor$Loop" "place" "I"] ++ wsX40 ++ wsX30)
def wsX4_presumedCount : List Cond := .code yX4_presumedCount cX4_presumedCount 5 (some .int) :: ([.fieldLink RX4 158 "BranchPredictor$Loop" "count" "I", .fieldLink RX4 79 "BranchPredictor" "flying" "I", .fieldLink RX4 126 "BranchPredictor$Branch" "place" "I", .fieldLink RX4 157 "BranchPredictor$Loop" "place" "I", .methodLink RX4 93 yX4_branchAt, .instanceMethod yX4_branchAt, .selects RX4 yX4_branchAt yX4_branchAt, .initialized RX4, .code yX4_branchAt cX4_branchAt 2 (some (.object "BranchPredictor$Branch")), .fieldLink RX4 34 "BranchPredictor" "ring" "[LBranchPredictor$Branch;", .fieldLink RX4 210 "BranchPredictor" "oldest" "I", .methodLink RX4 248 yX1_isPresumedTaken, .instanceMethod yX1_isPresumedTaken, .selects RX1 yX1_isPresumedTaken yX1_isPresumedTaken, .initialized RX1, .code yX1_isPresumedTaken cX1_isPresumedTaken 1 (some .boolean), .fieldLink RX1 24 "BranchPredictor$Branch" "state" "I", .fieldLink RX1 21 "BranchPredictor$Branch" "isPredictedTaken" "Z"] ++ wsX30 ++ wsX40 ++ wsX10)
def wsX4_loopPrediction_r1 : List Cond := [Cond.fieldLink RX4 40 "BranchPredictor" "loops" "[LBranchPredictor$Loop;", Cond.fieldLink RX4 164 "BranchPredictor$Loop" "trust" "I", Cond.fieldLink RX4 161 "BranchPredictor$Loop" "trip" "I", Cond.methodLink RX4 245 yX4_loopWith, Cond.instanceMethod yX4_loopWith, Cond.selects RX4 yX4_loopWith yX4_loopWith, Cond.initialized RX4, Cond.code yX4_loopWith cX4_loopWith 3 (some .int), Cond.fieldLink RX4 157 "BranchPredictor$Loop" "place" "I", Cond.methodLink RX4 167 yX4_presumedCount, Cond.instanceMethod yX4_presumedCount, Cond.selects RX4 yX4_presumedCount yX4_presumedCount, Cond.code yX4_presumedCount cX4_presumedCount 5 (some .int), Cond.fieldLink RX4 158 "BranchPredictor$Loop" "count" "I", Cond.fieldLink RX4 79 "BranchPredictor" "flying" "I", Cond.fieldLink RX4 126 "BranchPredictor$Branch" "place" "I", Cond.methodLink RX4 93 yX4_branchAt, Cond.instanceMethod yX4_branchAt, Cond.selects RX4 yX4_branchAt yX4_branchAt, Cond.code yX4_branchAt cX4_branchAt 2 (some (.object "BranchPredictor$Branch")), Cond.fieldLink RX4 34 "BranchPredictor" "ring" "[LBranchPredictor$Branch;", Cond.fieldLink RX4 210 "BranchPredictor" "oldest" "I", Cond.methodLink RX4 248 yX1_isPresumedTaken, Cond.instanceMethod yX1_isPresumedTaken]
def wsX4_loopPrediction_r2 : List Cond := [Cond.selects RX1 yX1_isPresumedTaken yX1_isPresumedTaken, Cond.initialized RX1, Cond.code yX1_isPresumedTaken cX1_isPresumedTaken 1 (some .boolean), Cond.fieldLink RX1 24 "BranchPredictor$Branch" "state" "I", Cond.fieldLink RX1 21 "BranchPredictor$Branch" "isPredictedTaken" "Z"]
def wsX4_loopPrediction : List Cond := .code yX4_loopPrediction cX4_loopPrediction 4 (some .boolean) :: ((wsX4_loopPrediction_r1 ++ wsX4_loopPrediction_r2) ++ wsX40 ++ wsX30 ++ wsX10)
def wsX4_appended : List Cond := .code yX4_appended cX4_appended 4 (some .int) :: ([.fieldLink RX4 55 "BranchPredictor" "historyBits" "I"] ++ wsX40)
def wsX4_launch_r1 : List Cond := [Cond.fieldLink RX4 79 "BranchPredictor" "flying" "I", Cond.fieldLink RX4 126 "BranchPredictor$Branch" "place" "I", Cond.fieldLink RX4 97 "BranchPredictor$Branch" "state" "I", Cond.fieldLink RX4 119 "BranchPredictor" "outcomes" "I", Cond.fieldLink RX4 116 "BranchPredictor$Branch" "historyAhead" "I", Cond.fieldLink RX4 12 "BranchPredictor" "plainTable" "LBranchPredictor$CounterTable;", Cond.fieldLink RX4 216 "BranchPredictor$Branch" "plainIndex" "I", Cond.fieldLink RX4 16 "BranchPredictor" "globalTable" "LBranchPredictor$CounterTable;", Cond.fieldLink RX4 219 "BranchPredictor$Branch" "globalIndex" "I", Cond.fieldLink RX4 225 "BranchPredictor$Branch" "isPlainTaken" "Z", Cond.fieldLink RX4 229 "BranchPredictor$Branch" "isGlobalTaken" "Z", Cond.fieldLink RX4 19 "BranchPredictor" "choiceTable" "LBranchPredictor$CounterTable;", Cond.fieldLink RX4 232 "BranchPredictor$Branch" "isChoiceTaken" "Z", Cond.fieldLink RX4 239 "BranchPredictor$Branch" "isPredictedTaken" "Z", Cond.methodLink RX4 93 yX4_branchAt, Cond.instanceMethod yX4_branchAt, Cond.selects RX4 yX4_branchAt yX4_branchAt, Cond.initialized RX4, Cond.code yX4_branchAt cX4_branchAt 2 (some (.object "BranchPredictor$Branch")), Cond.fieldLink RX4 34 "BranchPredictor" "ring" "[LBranchPredictor$Branch;", Cond.fieldLink RX4 210 "BranchPredictor" "oldest" "I", Cond.methodLink RX4 213 yX2_indexFor, Cond.instanceMethod yX2_indexFor, Cond.selects RX2 yX2_indexFor yX2_indexFor]
def wsX4_launch_r2 : List Cond := [Cond.initialized RX2, Cond.code yX2_indexFor cX2_indexFor 2 (some .int), Cond.fieldLink RX2 15 "BranchPredictor$CounterTable" "size" "I", Cond.methodLink RX4 222 yX2_saysTaken, Cond.instanceMethod yX2_saysTaken, Cond.selects RX2 yX2_saysTaken yX2_saysTaken, Cond.code yX2_saysTaken cX2_saysTaken 2 (some .boolean), Cond.methodLink RX2 19 yX2_valueAt, Cond.instanceMethod yX2_valueAt, Cond.selects RX2 yX2_valueAt yX2_valueAt, Cond.code yX2_valueAt cX2_valueAt 2 (some .int), Cond.fieldLink RX2 9 "BranchPredictor$CounterTable" "values" "[I", Cond.methodLink RX4 235 yX4_loopPrediction, Cond.instanceMethod yX4_loopPrediction, Cond.selects RX4 yX4_loopPrediction yX4_loopPrediction, Cond.code yX4_loopPrediction cX4_loopPrediction 4 (some .boolean), Cond.fieldLink RX4 40 "BranchPredictor" "loops" "[LBranchPredictor$Loop;", Cond.fieldLink RX4 164 "BranchPredictor$Loop" "trust" "I", Cond.fieldLink RX4 161 "BranchPredictor$Loop" "trip" "I", Cond.methodLink RX4 245 yX4_loopWith, Cond.instanceMethod yX4_loopWith, Cond.selects RX4 yX4_loopWith yX4_loopWith, Cond.code yX4_loopWith cX4_loopWith 3 (some .int), Cond.fieldLink RX4 157 "BranchPredictor$Loop" "place" "I"]
def wsX4_launch_r3 : List Cond := [Cond.methodLink RX4 167 yX4_presumedCount, Cond.instanceMethod yX4_presumedCount, Cond.selects RX4 yX4_presumedCount yX4_presumedCount, Cond.code yX4_presumedCount cX4_presumedCount 5 (some .int), Cond.fieldLink RX4 158 "BranchPredictor$Loop" "count" "I", Cond.methodLink RX4 248 yX1_isPresumedTaken, Cond.instanceMethod yX1_isPresumedTaken, Cond.selects RX1 yX1_isPresumedTaken yX1_isPresumedTaken, Cond.initialized RX1, Cond.code yX1_isPresumedTaken cX1_isPresumedTaken 1 (some .boolean), Cond.fieldLink RX1 24 "BranchPredictor$Branch" "state" "I", Cond.fieldLink RX1 21 "BranchPredictor$Branch" "isPredictedTaken" "Z", Cond.methodLink RX4 242 yX4_appended, Cond.instanceMethod yX4_appended, Cond.selects RX4 yX4_appended yX4_appended, Cond.code yX4_appended cX4_appended 4 (some .int), Cond.fieldLink RX4 55 "BranchPredictor" "historyBits" "I"]
def wsX4_launch : List Cond := .code yX4_launch cX4_launch 3 (some .boolean) :: ((wsX4_launch_r1 ++ (wsX4_launch_r2 ++ wsX4_launch_r3)) ++ wsX40 ++ wsX10 ++ wsX20 ++ wsX30)
def wsX4_predict_r1 : List Cond := [Cond.classLink RX4 82 "java/lang/IllegalStateException", Cond.initialized "java/lang/IllegalStateException", Cond.fieldLink RX4 79 "BranchPredictor" "flying" "I", Cond.methodLink RX4 75 yX4_requirePlace, Cond.static yX4_requirePlace, Cond.initialized RX4, Cond.code yX4_requirePlace cX4_requirePlace 1 none, Cond.classLink RX4 68 "java/lang/IllegalArgumentException", Cond.initialized "java/lang/IllegalArgumentException", Cond.constant RX4 199 (65535), Cond.methodLink RX4 87 yX4_launch, Cond.instanceMethod yX4_launch, Cond.selects RX4 yX4_launch yX4_launch, Cond.code yX4_launch cX4_launch 3 (some .boolean), Cond.fieldLink RX4 126 "BranchPredictor$Branch" "place" "I", Cond.fieldLink RX4 97 "BranchPredictor$Branch" "state" "I", Cond.fieldLink RX4 119 "BranchPredictor" "outcomes" "I", Cond.fieldLink RX4 116 "BranchPredictor$Branch" "historyAhead" "I", Cond.fieldLink RX4 12 "BranchPredictor" "plainTable" "LBranchPredictor$CounterTable;", Cond.fieldLink RX4 216 "BranchPredictor$Branch" "plainIndex" "I", Cond.fieldLink RX4 16 "BranchPredictor" "globalTable" "LBranchPredictor$CounterTable;", Cond.fieldLink RX4 219 "BranchPredictor$Branch" "globalIndex" "I", Cond.fieldLink RX4 225 "BranchPredictor$Branch" "isPlainTaken" "Z", Cond.fieldLink RX4 229 "BranchPredictor$Branch" "isGlobalTaken" "Z"]
def wsX4_predict_r2 : List Cond := [Cond.fieldLink RX4 19 "BranchPredictor" "choiceTable" "LBranchPredictor$CounterTable;", Cond.fieldLink RX4 232 "BranchPredictor$Branch" "isChoiceTaken" "Z", Cond.fieldLink RX4 239 "BranchPredictor$Branch" "isPredictedTaken" "Z", Cond.methodLink RX4 93 yX4_branchAt, Cond.instanceMethod yX4_branchAt, Cond.selects RX4 yX4_branchAt yX4_branchAt, Cond.code yX4_branchAt cX4_branchAt 2 (some (.object "BranchPredictor$Branch")), Cond.fieldLink RX4 34 "BranchPredictor" "ring" "[LBranchPredictor$Branch;", Cond.fieldLink RX4 210 "BranchPredictor" "oldest" "I", Cond.methodLink RX4 213 yX2_indexFor, Cond.instanceMethod yX2_indexFor, Cond.selects RX2 yX2_indexFor yX2_indexFor, Cond.initialized RX2, Cond.code yX2_indexFor cX2_indexFor 2 (some .int), Cond.fieldLink RX2 15 "BranchPredictor$CounterTable" "size" "I", Cond.methodLink RX4 222 yX2_saysTaken, Cond.instanceMethod yX2_saysTaken, Cond.selects RX2 yX2_saysTaken yX2_saysTaken, Cond.code yX2_saysTaken cX2_saysTaken 2 (some .boolean), Cond.methodLink RX2 19 yX2_valueAt, Cond.instanceMethod yX2_valueAt, Cond.selects RX2 yX2_valueAt yX2_valueAt, Cond.code yX2_valueAt cX2_valueAt 2 (some .int), Cond.fieldLink RX2 9 "BranchPredictor$CounterTable" "values" "[I"]
def wsX4_predict_r3 : List Cond := [Cond.methodLink RX4 235 yX4_loopPrediction, Cond.instanceMethod yX4_loopPrediction, Cond.selects RX4 yX4_loopPrediction yX4_loopPrediction, Cond.code yX4_loopPrediction cX4_loopPrediction 4 (some .boolean), Cond.fieldLink RX4 40 "BranchPredictor" "loops" "[LBranchPredictor$Loop;", Cond.fieldLink RX4 164 "BranchPredictor$Loop" "trust" "I", Cond.fieldLink RX4 161 "BranchPredictor$Loop" "trip" "I", Cond.methodLink RX4 245 yX4_loopWith, Cond.instanceMethod yX4_loopWith, Cond.selects RX4 yX4_loopWith yX4_loopWith, Cond.code yX4_loopWith cX4_loopWith 3 (some .int), Cond.fieldLink RX4 157 "BranchPredictor$Loop" "place" "I", Cond.methodLink RX4 167 yX4_presumedCount, Cond.instanceMethod yX4_presumedCount, Cond.selects RX4 yX4_presumedCount yX4_presumedCount, Cond.code yX4_presumedCount cX4_presumedCount 5 (some .int), Cond.fieldLink RX4 158 "BranchPredictor$Loop" "count" "I", Cond.methodLink RX4 248 yX1_isPresumedTaken, Cond.instanceMethod yX1_isPresumedTaken, Cond.selects RX1 yX1_isPresumedTaken yX1_isPresumedTaken, Cond.initialized RX1, Cond.code yX1_isPresumedTaken cX1_isPresumedTaken 1 (some .boolean), Cond.fieldLink RX1 24 "BranchPredictor$Branch" "state" "I", Cond.fieldLink RX1 21 "BranchPredictor$Branch" "isPredictedTaken" "Z"]
def wsX4_predict_r4 : List Cond := [Cond.methodLink RX4 242 yX4_appended, Cond.instanceMethod yX4_appended, Cond.selects RX4 yX4_appended yX4_appended, Cond.code yX4_appended cX4_appended 4 (some .int), Cond.fieldLink RX4 55 "BranchPredictor" "historyBits" "I"]
def wsX4_predict : List Cond := .code yX4_predict cX4_predict 2 (some .boolean) :: ((wsX4_predict_r1 ++ (wsX4_predict_r2 ++ (wsX4_predict_r3 ++ wsX4_predict_r4))) ++ wsX40 ++ wsX10 ++ wsX20 ++ wsX30 ++ (vx_atS RX4 86 "java/lang/IllegalStateException" ["java/lang/RuntimeException", "java/lang/Exception"]).filter goodWord ++ (vx_atS RX4 72 "java/lang/IllegalArgumentException" ["java/lang/RuntimeException", "java/lang/Exception"]).filter goodWord)
def wsX4_requireInFlight : List Cond := .code yX4_requireInFlight cX4_requireInFlight 2 none :: ([.classLink RX4 135 "java/lang/IndexOutOfBoundsException", .initialized "java/lang/IndexOutOfBoundsException", .fieldLink RX4 79 "BranchPredictor" "flying" "I"] ++ wsX40 ++ (vx_atS RX4 139 "java/lang/IndexOutOfBoundsException" ["java/lang/RuntimeException", "java/lang/Exception"]).filter goodWord)
def wsX4_dropFrom : List Cond := .code yX4_dropFrom cX4_dropFrom 3 (some .int) :: ([.fieldLink RX4 79 "BranchPredictor" "flying" "I", .fieldLink RX4 175 "BranchPredictor" "dropped" "J"] ++ wsX40)
def wsX4_settle : List Cond := .code yX4_settle cX4_settle 4 (some .int) :: ([.fieldLink RX4 239 "BranchPredictor$Branch" "isPredictedTaken" "Z", .fieldLink RX4 97 "BranchPredictor$Branch" "state" "I", .fieldLink RX4 116 "BranchPredictor$Branch" "historyAhead" "I", .fieldLink RX4 119 "BranchPredictor" "outcomes" "I", .methodLink RX4 93 yX4_branchAt, .instanceMethod yX4_branchAt, .selects RX4 yX4_branchAt yX4_branchAt, .initialized RX4, .code yX4_branchAt cX4_branchAt 2 (some (.object "BranchPredictor$Branch")), .fieldLink RX4 34 "BranchPredictor" "ring" "[LBranchPredictor$Branch;", .fieldLink RX4 210 "BranchPredictor" "oldest" "I", .methodLink RX4 242 yX4_appended, .instanceMethod yX4_appended, .selects RX4 yX4_appended yX4_appended, .code yX4_appended cX4_appended 4 (some .int), .fieldLink RX4 55 "BranchPredictor" "historyBits" "I", .methodLink RX4 122 yX4_dropFrom, .instanceMethod yX4_dropFrom, .selects RX4 yX4_dropFrom yX4_dropFrom, .code yX4_dropFrom cX4_dropFrom 3 (some .int), .fieldLink RX4 79 "BranchPredictor" "flying" "I", .fieldLink RX4 175 "BranchPredictor" "dropped" "J"] ++ wsX10 ++ wsX40)
def wsX4_resolve_r1 : List Cond := [Cond.classLink RX4 82 "java/lang/IllegalStateException", Cond.initialized "java/lang/IllegalStateException", Cond.fieldLink RX4 97 "BranchPredictor$Branch" "state" "I", Cond.methodLink RX4 90 yX4_requireInFlight, Cond.instanceMethod yX4_requireInFlight, Cond.selects RX4 yX4_requireInFlight yX4_requireInFlight, Cond.initialized RX4, Cond.code yX4_requireInFlight cX4_requireInFlight 2 none, Cond.classLink RX4 135 "java/lang/IndexOutOfBoundsException", Cond.initialized "java/lang/IndexOutOfBoundsException", Cond.fieldLink RX4 79 "BranchPredictor" "flying" "I", Cond.methodLink RX4 93 yX4_branchAt, Cond.instanceMethod yX4_branchAt, Cond.selects RX4 yX4_branchAt yX4_branchAt, Cond.code yX4_branchAt cX4_branchAt 2 (some (.object "BranchPredictor$Branch")), Cond.fieldLink RX4 34 "BranchPredictor" "ring" "[LBranchPredictor$Branch;", Cond.fieldLink RX4 210 "BranchPredictor" "oldest" "I", Cond.methodLink RX4 102 yX4_settle, Cond.instanceMethod yX4_settle, Cond.selects RX4 yX4_settle yX4_settle, Cond.code yX4_settle cX4_settle 4 (some .int), Cond.fieldLink RX4 239 "BranchPredictor$Branch" "isPredictedTaken" "Z", Cond.fieldLink RX4 116 "BranchPredictor$Branch" "historyAhead" "I", Cond.fieldLink RX4 119 "BranchPredictor" "outcomes" "I"]
def wsX4_resolve_r2 : List Cond := [Cond.methodLink RX4 242 yX4_appended, Cond.instanceMethod yX4_appended, Cond.selects RX4 yX4_appended yX4_appended, Cond.code yX4_appended cX4_appended 4 (some .int), Cond.fieldLink RX4 55 "BranchPredictor" "historyBits" "I", Cond.methodLink RX4 122 yX4_dropFrom, Cond.instanceMethod yX4_dropFrom, Cond.selects RX4 yX4_dropFrom yX4_dropFrom, Cond.code yX4_dropFrom cX4_dropFrom 3 (some .int), Cond.fieldLink RX4 175 "BranchPredictor" "dropped" "J"]
def wsX4_resolve : List Cond := .code yX4_resolve cX4_resolve 3 (some .int) :: ((wsX4_resolve_r1 ++ wsX4_resolve_r2) ++ wsX10 ++ wsX40 ++ (vx_atS RX4 86 "java/lang/IllegalStateException" ["java/lang/RuntimeException", "java/lang/Exception"]).filter goodWord ++ (vx_atS RX4 139 "java/lang/IndexOutOfBoundsException" ["java/lang/RuntimeException", "java/lang/Exception"]).filter goodWord)
def wsX4_countMisses : List Cond := .code yX4_countMisses cX4_countMisses 4 none :: ([.fieldLink RX4 44 "BranchPredictor" "missed" "[J", .methodLink RX4 132 yX1_saidTaken, .instanceMethod yX1_saidTaken, .selects RX1 yX1_saidTaken yX1_saidTaken, .initialized RX1, .code yX1_saidTaken cX1_saidTaken 2 (some .boolean), .fieldLink RX1 9 "BranchPredictor$Branch" "isPlainTaken" "Z", .fieldLink RX1 15 "BranchPredictor$Branch" "isGlobalTaken" "Z", .fieldLink RX1 18 "BranchPredictor$Branch" "isChoiceTaken" "Z", .fieldLink RX1 21 "BranchPredictor$Branch" "isPredictedTaken" "Z"] ++ wsX40 ++ wsX10)
def wsX4_learnChoice : List Cond := .code yX4_learnChoice cX4_learnChoice 3 none :: ([.fieldLink RX4 225 "BranchPredictor$Branch" "isPlainTaken" "Z", .fieldLink RX4 229 "BranchPredictor$Branch" "isGlobalTaken" "Z", .fieldLink RX4 19 "BranchPredictor" "choiceTable" "LBranchPredictor$CounterTable;", .fieldLink RX4 216 "BranchPredictor$Branch" "plainIndex" "I", .methodLink RX4 265 yX2_move, .instanceMethod yX2_move, .selects RX2 yX2_move yX2_move, .initialized RX2, .code yX2_move cX2_move 5 none, .methodLink RX2 23 Lib.Math.min.name, .static Lib.Math.min.name, .initialized "java/lang/Math", .code Lib.Math.min.name Lib.Math.min.code 2 (some .int), .methodLink RX2 29 Lib.Math.max.name, .static Lib.Math.max.name, .code Lib.Math.max.name Lib.Math.max.code 2 (some .int), .fieldLink RX2 9 "BranchPredictor$CounterTable" "values" "[I", .methodLink RX2 19 yX2_valueAt, .instanceMethod yX2_valueAt, .selects RX2 yX2_valueAt yX2_valueAt, .code yX2_valueAt cX2_valueAt 2 (some .int)] ++ wsX10 ++ wsX40 ++ wsX20)
def wsX4_learnOutcome_r1 : List Cond := [Cond.methodLink RX4 222 yX2_saysTaken, Cond.instanceMethod yX2_saysTaken, Cond.selects RX2 yX2_saysTaken yX2_saysTaken, Cond.initialized RX2, Cond.code yX2_saysTaken cX2_saysTaken 2 (some .boolean), Cond.methodLink RX2 19 yX2_valueAt, Cond.instanceMethod yX2_valueAt, Cond.selects RX2 yX2_valueAt yX2_valueAt, Cond.code yX2_valueAt cX2_valueAt 2 (some .int), Cond.fieldLink RX2 9 "BranchPredictor$CounterTable" "values" "[I", Cond.methodLink RX4 269 yX0_note, Cond.instanceMethod yX0_note, Cond.selects RX0 yX0_note yX0_note, Cond.initialized RX0, Cond.code yX0_note cX0_note 6 none, Cond.fieldLink RX0 9 "BranchPredictor$Audit" "latestPlaces" "[I", Cond.fieldLink RX0 15 "BranchPredictor$Audit" "allMeetings" "J", Cond.fieldLink RX0 19 "BranchPredictor$Audit" "harmfulMeetings" "J", Cond.methodLink RX4 265 yX2_move, Cond.instanceMethod yX2_move, Cond.selects RX2 yX2_move yX2_move, Cond.code yX2_move cX2_move 5 none, Cond.methodLink RX2 23 Lib.Math.min.name, Cond.static Lib.Math.min.name]
def wsX4_learnOutcome_r2 : List Cond := [Cond.initialized "java/lang/Math", Cond.code Lib.Math.min.name Lib.Math.min.code 2 (some .int), Cond.methodLink RX2 29 Lib.Math.max.name, Cond.static Lib.Math.max.name, Cond.code Lib.Math.max.name Lib.Math.max.code 2 (some .int)]
def wsX4_learnOutcome : List Cond := .code yX4_learnOutcome cX4_learnOutcome 5 none :: ((wsX4_learnOutcome_r1 ++ wsX4_learnOutcome_r2) ++ wsX20 ++ wsX00)
def wsX4_numberForNewLoop : List Cond := .code yX4_numberForNewLoop cX4_numberForNewLoop 3 (some .int) :: ([.fieldLink RX4 40 "BranchPredictor" "loops" "[LBranchPredictor$Loop;", .fieldLink RX4 164 "BranchPredictor$Loop" "trust" "I", .methodLink RX4 154 yX3_isFree, .instanceMethod yX3_isFree, .selects RX3 yX3_isFree yX3_isFree, .initialized RX3, .code yX3_isFree cX3_isFree 1 (some .boolean), .fieldLink RX3 9 "BranchPredictor$Loop" "place" "I"] ++ wsX40 ++ wsX30)
def wsX4_learnLoop_r1 : List Cond := [Cond.fieldLink RX4 126 "BranchPredictor$Branch" "place" "I", Cond.fieldLink RX4 40 "BranchPredictor" "loops" "[LBranchPredictor$Loop;", Cond.fieldLink RX4 97 "BranchPredictor$Branch" "state" "I", Cond.methodLink RX4 245 yX4_loopWith, Cond.instanceMethod yX4_loopWith, Cond.selects RX4 yX4_loopWith yX4_loopWith, Cond.initialized RX4, Cond.code yX4_loopWith cX4_loopWith 3 (some .int), Cond.fieldLink RX4 157 "BranchPredictor$Loop" "place" "I", Cond.methodLink RX4 273 yX3_learn, Cond.instanceMethod yX3_learn, Cond.selects RX3 yX3_learn yX3_learn, Cond.initialized RX3, Cond.code yX3_learn cX3_learn 2 none, Cond.fieldLink RX3 15 "BranchPredictor$Loop" "count" "I", Cond.fieldLink RX3 9 "BranchPredictor$Loop" "place" "I", Cond.fieldLink RX3 18 "BranchPredictor$Loop" "trip" "I", Cond.fieldLink RX3 21 "BranchPredictor$Loop" "trust" "I", Cond.methodLink RX3 24 Lib.Math.min.name, Cond.static Lib.Math.min.name, Cond.initialized "java/lang/Math", Cond.code Lib.Math.min.name Lib.Math.min.code 2 (some .int), Cond.methodLink RX4 277 yX4_numberForNewLoop, Cond.instanceMethod yX4_numberForNewLoop]
def wsX4_learnLoop_r2 : List Cond := [Cond.selects RX4 yX4_numberForNewLoop yX4_numberForNewLoop, Cond.code yX4_numberForNewLoop cX4_numberForNewLoop 3 (some .int), Cond.fieldLink RX4 164 "BranchPredictor$Loop" "trust" "I", Cond.methodLink RX4 154 yX3_isFree, Cond.instanceMethod yX3_isFree, Cond.selects RX3 yX3_isFree yX3_isFree, Cond.code yX3_isFree cX3_isFree 1 (some .boolean), Cond.methodLink RX4 281 yX3_startAnew, Cond.instanceMethod yX3_startAnew, Cond.selects RX3 yX3_startAnew yX3_startAnew, Cond.code yX3_startAnew cX3_startAnew 2 none]
def wsX4_learnLoop : List Cond := .code yX4_learnLoop cX4_learnLoop 4 none :: ((wsX4_learnLoop_r1 ++ wsX4_learnLoop_r2) ++ wsX10 ++ wsX40 ++ wsX30)
def wsX4_retire_r1 : List Cond := [Cond.fieldLink RX4 12 "BranchPredictor" "plainTable" "LBranchPredictor$CounterTable;", Cond.fieldLink RX4 25 "BranchPredictor" "plainAudit" "LBranchPredictor$Audit;", Cond.fieldLink RX4 216 "BranchPredictor$Branch" "plainIndex" "I", Cond.fieldLink RX4 126 "BranchPredictor$Branch" "place" "I", Cond.fieldLink RX4 16 "BranchPredictor" "globalTable" "LBranchPredictor$CounterTable;", Cond.fieldLink RX4 29 "BranchPredictor" "globalAudit" "LBranchPredictor$Audit;", Cond.fieldLink RX4 219 "BranchPredictor$Branch" "globalIndex" "I", Cond.fieldLink RX4 171 "BranchPredictor" "committed" "J", Cond.fieldLink RX4 210 "BranchPredictor" "oldest" "I", Cond.fieldLink RX4 79 "BranchPredictor" "flying" "I", Cond.fieldLink RX4 97 "BranchPredictor$Branch" "state" "I", Cond.methodLink RX4 93 yX4_branchAt, Cond.instanceMethod yX4_branchAt, Cond.selects RX4 yX4_branchAt yX4_branchAt, Cond.initialized RX4, Cond.code yX4_branchAt cX4_branchAt 2 (some (.object "BranchPredictor$Branch")), Cond.fieldLink RX4 34 "BranchPredictor" "ring" "[LBranchPredictor$Branch;", Cond.methodLink RX4 248 yX1_isPresumedTaken, Cond.instanceMethod yX1_isPresumedTaken, Cond.selects RX1 yX1_isPresumedTaken yX1_isPresumedTaken, Cond.initialized RX1, Cond.code yX1_isPresumedTaken cX1_isPresumedTaken 1 (some .boolean), Cond.fieldLink RX1 24 "BranchPredictor$Branch" "state" "I", Cond.fieldLink RX1 21 "BranchPredictor$Branch" "isPredictedTaken" "Z"]
def wsX4_retire_r2 : List Cond := [Cond.methodLink RX4 251 yX4_countMisses, Cond.instanceMethod yX4_countMisses, Cond.selects RX4 yX4_countMisses yX4_countMisses, Cond.code yX4_countMisses cX4_countMisses 4 none, Cond.fieldLink RX4 44 "BranchPredictor" "missed" "[J", Cond.methodLink RX4 132 yX1_saidTaken, Cond.instanceMethod yX1_saidTaken, Cond.selects RX1 yX1_saidTaken yX1_saidTaken, Cond.code yX1_saidTaken cX1_saidTaken 2 (some .boolean), Cond.fieldLink RX1 9 "BranchPredictor$Branch" "isPlainTaken" "Z", Cond.fieldLink RX1 15 "BranchPredictor$Branch" "isGlobalTaken" "Z", Cond.fieldLink RX1 18 "BranchPredictor$Branch" "isChoiceTaken" "Z", Cond.methodLink RX4 255 yX4_learnChoice, Cond.instanceMethod yX4_learnChoice, Cond.selects RX4 yX4_learnChoice yX4_learnChoice, Cond.code yX4_learnChoice cX4_learnChoice 3 none, Cond.fieldLink RX4 225 "BranchPredictor$Branch" "isPlainTaken" "Z", Cond.fieldLink RX4 229 "BranchPredictor$Branch" "isGlobalTaken" "Z", Cond.fieldLink RX4 19 "BranchPredictor" "choiceTable" "LBranchPredictor$CounterTable;", Cond.methodLink RX4 265 yX2_move, Cond.instanceMethod yX2_move, Cond.selects RX2 yX2_move yX2_move, Cond.initialized RX2, Cond.code yX2_move cX2_move 5 none]
def wsX4_retire_r3 : List Cond := [Cond.methodLink RX2 23 Lib.Math.min.name, Cond.static Lib.Math.min.name, Cond.initialized "java/lang/Math", Cond.code Lib.Math.min.name Lib.Math.min.code 2 (some .int), Cond.methodLink RX2 29 Lib.Math.max.name, Cond.static Lib.Math.max.name, Cond.code Lib.Math.max.name Lib.Math.max.code 2 (some .int), Cond.fieldLink RX2 9 "BranchPredictor$CounterTable" "values" "[I", Cond.methodLink RX2 19 yX2_valueAt, Cond.instanceMethod yX2_valueAt, Cond.selects RX2 yX2_valueAt yX2_valueAt, Cond.code yX2_valueAt cX2_valueAt 2 (some .int), Cond.methodLink RX4 258 yX4_learnOutcome, Cond.static yX4_learnOutcome, Cond.code yX4_learnOutcome cX4_learnOutcome 5 none, Cond.methodLink RX4 222 yX2_saysTaken, Cond.instanceMethod yX2_saysTaken, Cond.selects RX2 yX2_saysTaken yX2_saysTaken, Cond.code yX2_saysTaken cX2_saysTaken 2 (some .boolean), Cond.methodLink RX4 269 yX0_note, Cond.instanceMethod yX0_note, Cond.selects RX0 yX0_note yX0_note, Cond.initialized RX0, Cond.code yX0_note cX0_note 6 none]
def wsX4_retire_r4 : List Cond := [Cond.fieldLink RX0 9 "BranchPredictor$Audit" "latestPlaces" "[I", Cond.fieldLink RX0 15 "BranchPredictor$Audit" "allMeetings" "J", Cond.fieldLink RX0 19 "BranchPredictor$Audit" "harmfulMeetings" "J", Cond.methodLink RX4 262 yX4_learnLoop, Cond.instanceMethod yX4_learnLoop, Cond.selects RX4 yX4_learnLoop yX4_learnLoop, Cond.code yX4_learnLoop cX4_learnLoop 4 none, Cond.fieldLink RX4 40 "BranchPredictor" "loops" "[LBranchPredictor$Loop;", Cond.methodLink RX4 245 yX4_loopWith, Cond.instanceMethod yX4_loopWith, Cond.selects RX4 yX4_loopWith yX4_loopWith, Cond.code yX4_loopWith cX4_loopWith 3 (some .int), Cond.fieldLink RX4 157 "BranchPredictor$Loop" "place" "I", Cond.methodLink RX4 273 yX3_learn, Cond.instanceMethod yX3_learn, Cond.selects RX3 yX3_learn yX3_learn, Cond.initialized RX3, Cond.code yX3_learn cX3_learn 2 none, Cond.fieldLink RX3 15 "BranchPredictor$Loop" "count" "I", Cond.fieldLink RX3 9 "BranchPredictor$Loop" "place" "I", Cond.fieldLink RX3 18 "BranchPredictor$Loop" "trip" "I", Cond.fieldLink RX3 21 "BranchPredictor$Loop" "trust" "I", Cond.methodLink RX3 24 Lib.Math.min.name, Cond.methodLink RX4 277 yX4_numberForNewLoop]
def wsX4_retire_r5 : List Cond := [Cond.instanceMethod yX4_numberForNewLoop, Cond.selects RX4 yX4_numberForNewLoop yX4_numberForNewLoop, Cond.code yX4_numberForNewLoop cX4_numberForNewLoop 3 (some .int), Cond.fieldLink RX4 164 "BranchPredictor$Loop" "trust" "I", Cond.methodLink RX4 154 yX3_isFree, Cond.instanceMethod yX3_isFree, Cond.selects RX3 yX3_isFree yX3_isFree, Cond.code yX3_isFree cX3_isFree 1 (some .boolean), Cond.methodLink RX4 281 yX3_startAnew, Cond.instanceMethod yX3_startAnew, Cond.selects RX3 yX3_startAnew yX3_startAnew, Cond.code yX3_startAnew cX3_startAnew 2 none]
def wsX4_retire : List Cond := .code yX4_retire cX4_retire 3 (some .boolean) :: ((wsX4_retire_r1 ++ (wsX4_retire_r2 ++ (wsX4_retire_r3 ++ (wsX4_retire_r4 ++ wsX4_retire_r5)))) ++ wsX40 ++ wsX10 ++ wsX20 ++ wsX00 ++ wsX30)
def wsX4_commit_r1 : List Cond := [Cond.classLink RX4 82 "java/lang/IllegalStateException", Cond.initialized "java/lang/IllegalStateException", Cond.fieldLink RX4 79 "BranchPredictor" "flying" "I", Cond.fieldLink RX4 97 "BranchPredictor$Branch" "state" "I", Cond.methodLink RX4 93 yX4_branchAt, Cond.instanceMethod yX4_branchAt, Cond.selects RX4 yX4_branchAt yX4_branchAt, Cond.initialized RX4, Cond.code yX4_branchAt cX4_branchAt 2 (some (.object "BranchPredictor$Branch")), Cond.fieldLink RX4 34 "BranchPredictor" "ring" "[LBranchPredictor$Branch;", Cond.fieldLink RX4 210 "BranchPredictor" "oldest" "I", Cond.methodLink RX4 108 yX4_retire, Cond.instanceMethod yX4_retire, Cond.selects RX4 yX4_retire yX4_retire, Cond.code yX4_retire cX4_retire 3 (some .boolean), Cond.fieldLink RX4 12 "BranchPredictor" "plainTable" "LBranchPredictor$CounterTable;", Cond.fieldLink RX4 25 "BranchPredictor" "plainAudit" "LBranchPredictor$Audit;", Cond.fieldLink RX4 216 "BranchPredictor$Branch" "plainIndex" "I", Cond.fieldLink RX4 126 "BranchPredictor$Branch" "place" "I", Cond.fieldLink RX4 16 "BranchPredictor" "globalTable" "LBranchPredictor$CounterTable;", Cond.fieldLink RX4 29 "BranchPredictor" "globalAudit" "LBranchPredictor$Audit;", Cond.fieldLink RX4 219 "BranchPredictor$Branch" "globalIndex" "I", Cond.fieldLink RX4 171 "BranchPredictor" "committed" "J", Cond.methodLink RX4 248 yX1_isPresumedTaken]
def wsX4_commit_r2 : List Cond := [Cond.instanceMethod yX1_isPresumedTaken, Cond.selects RX1 yX1_isPresumedTaken yX1_isPresumedTaken, Cond.initialized RX1, Cond.code yX1_isPresumedTaken cX1_isPresumedTaken 1 (some .boolean), Cond.fieldLink RX1 24 "BranchPredictor$Branch" "state" "I", Cond.fieldLink RX1 21 "BranchPredictor$Branch" "isPredictedTaken" "Z", Cond.methodLink RX4 251 yX4_countMisses, Cond.instanceMethod yX4_countMisses, Cond.selects RX4 yX4_countMisses yX4_countMisses, Cond.code yX4_countMisses cX4_countMisses 4 none, Cond.fieldLink RX4 44 "BranchPredictor" "missed" "[J", Cond.methodLink RX4 132 yX1_saidTaken, Cond.instanceMethod yX1_saidTaken, Cond.selects RX1 yX1_saidTaken yX1_saidTaken, Cond.code yX1_saidTaken cX1_saidTaken 2 (some .boolean), Cond.fieldLink RX1 9 "BranchPredictor$Branch" "isPlainTaken" "Z", Cond.fieldLink RX1 15 "BranchPredictor$Branch" "isGlobalTaken" "Z", Cond.fieldLink RX1 18 "BranchPredictor$Branch" "isChoiceTaken" "Z", Cond.methodLink RX4 255 yX4_learnChoice, Cond.instanceMethod yX4_learnChoice, Cond.selects RX4 yX4_learnChoice yX4_learnChoice, Cond.code yX4_learnChoice cX4_learnChoice 3 none, Cond.fieldLink RX4 225 "BranchPredictor$Branch" "isPlainTaken" "Z", Cond.fieldLink RX4 229 "BranchPredictor$Branch" "isGlobalTaken" "Z"]
def wsX4_commit_r3 : List Cond := [Cond.fieldLink RX4 19 "BranchPredictor" "choiceTable" "LBranchPredictor$CounterTable;", Cond.methodLink RX4 265 yX2_move, Cond.instanceMethod yX2_move, Cond.selects RX2 yX2_move yX2_move, Cond.initialized RX2, Cond.code yX2_move cX2_move 5 none, Cond.methodLink RX2 23 Lib.Math.min.name, Cond.static Lib.Math.min.name, Cond.initialized "java/lang/Math", Cond.code Lib.Math.min.name Lib.Math.min.code 2 (some .int), Cond.methodLink RX2 29 Lib.Math.max.name, Cond.static Lib.Math.max.name, Cond.code Lib.Math.max.name Lib.Math.max.code 2 (some .int), Cond.fieldLink RX2 9 "BranchPredictor$CounterTable" "values" "[I", Cond.methodLink RX2 19 yX2_valueAt, Cond.instanceMethod yX2_valueAt, Cond.selects RX2 yX2_valueAt yX2_valueAt, Cond.code yX2_valueAt cX2_valueAt 2 (some .int), Cond.methodLink RX4 258 yX4_learnOutcome, Cond.static yX4_learnOutcome, Cond.code yX4_learnOutcome cX4_learnOutcome 5 none, Cond.methodLink RX4 222 yX2_saysTaken, Cond.instanceMethod yX2_saysTaken, Cond.selects RX2 yX2_saysTaken yX2_saysTaken]
def wsX4_commit_r4 : List Cond := [Cond.code yX2_saysTaken cX2_saysTaken 2 (some .boolean), Cond.methodLink RX4 269 yX0_note, Cond.instanceMethod yX0_note, Cond.selects RX0 yX0_note yX0_note, Cond.initialized RX0, Cond.code yX0_note cX0_note 6 none, Cond.fieldLink RX0 9 "BranchPredictor$Audit" "latestPlaces" "[I", Cond.fieldLink RX0 15 "BranchPredictor$Audit" "allMeetings" "J", Cond.fieldLink RX0 19 "BranchPredictor$Audit" "harmfulMeetings" "J", Cond.methodLink RX4 262 yX4_learnLoop, Cond.instanceMethod yX4_learnLoop, Cond.selects RX4 yX4_learnLoop yX4_learnLoop, Cond.code yX4_learnLoop cX4_learnLoop 4 none, Cond.fieldLink RX4 40 "BranchPredictor" "loops" "[LBranchPredictor$Loop;", Cond.methodLink RX4 245 yX4_loopWith, Cond.instanceMethod yX4_loopWith, Cond.selects RX4 yX4_loopWith yX4_loopWith, Cond.code yX4_loopWith cX4_loopWith 3 (some .int), Cond.fieldLink RX4 157 "BranchPredictor$Loop" "place" "I", Cond.methodLink RX4 273 yX3_learn, Cond.instanceMethod yX3_learn, Cond.selects RX3 yX3_learn yX3_learn, Cond.initialized RX3, Cond.code yX3_learn cX3_learn 2 none]
def wsX4_commit_r5 : List Cond := [Cond.fieldLink RX3 15 "BranchPredictor$Loop" "count" "I", Cond.fieldLink RX3 9 "BranchPredictor$Loop" "place" "I", Cond.fieldLink RX3 18 "BranchPredictor$Loop" "trip" "I", Cond.fieldLink RX3 21 "BranchPredictor$Loop" "trust" "I", Cond.methodLink RX3 24 Lib.Math.min.name, Cond.methodLink RX4 277 yX4_numberForNewLoop, Cond.instanceMethod yX4_numberForNewLoop, Cond.selects RX4 yX4_numberForNewLoop yX4_numberForNewLoop, Cond.code yX4_numberForNewLoop cX4_numberForNewLoop 3 (some .int), Cond.fieldLink RX4 164 "BranchPredictor$Loop" "trust" "I", Cond.methodLink RX4 154 yX3_isFree, Cond.instanceMethod yX3_isFree, Cond.selects RX3 yX3_isFree yX3_isFree, Cond.code yX3_isFree cX3_isFree 1 (some .boolean), Cond.methodLink RX4 281 yX3_startAnew, Cond.instanceMethod yX3_startAnew, Cond.selects RX3 yX3_startAnew yX3_startAnew, Cond.code yX3_startAnew cX3_startAnew 2 none]
def wsX4_commit : List Cond := .code yX4_commit cX4_commit 1 (some .boolean) :: ((wsX4_commit_r1 ++ (wsX4_commit_r2 ++ (wsX4_commit_r3 ++ (wsX4_commit_r4 ++ wsX4_commit_r5)))) ++ wsX40 ++ wsX10 ++ wsX20 ++ wsX00 ++ wsX30 ++ (vx_atS RX4 86 "java/lang/IllegalStateException" ["java/lang/RuntimeException", "java/lang/Exception"]).filter goodWord)
def wsX4_train_r1 : List Cond := [Cond.classLink RX4 82 "java/lang/IllegalStateException", Cond.initialized "java/lang/IllegalStateException", Cond.fieldLink RX4 79 "BranchPredictor" "flying" "I", Cond.methodLink RX4 75 yX4_requirePlace, Cond.static yX4_requirePlace, Cond.initialized RX4, Cond.code yX4_requirePlace cX4_requirePlace 1 none, Cond.classLink RX4 68 "java/lang/IllegalArgumentException", Cond.initialized "java/lang/IllegalArgumentException", Cond.constant RX4 199 (65535), Cond.methodLink RX4 87 yX4_launch, Cond.instanceMethod yX4_launch, Cond.selects RX4 yX4_launch yX4_launch, Cond.code yX4_launch cX4_launch 3 (some .boolean), Cond.fieldLink RX4 126 "BranchPredictor$Branch" "place" "I", Cond.fieldLink RX4 97 "BranchPredictor$Branch" "state" "I", Cond.fieldLink RX4 119 "BranchPredictor" "outcomes" "I", Cond.fieldLink RX4 116 "BranchPredictor$Branch" "historyAhead" "I", Cond.fieldLink RX4 12 "BranchPredictor" "plainTable" "LBranchPredictor$CounterTable;", Cond.fieldLink RX4 216 "BranchPredictor$Branch" "plainIndex" "I", Cond.fieldLink RX4 16 "BranchPredictor" "globalTable" "LBranchPredictor$CounterTable;", Cond.fieldLink RX4 219 "BranchPredictor$Branch" "globalIndex" "I", Cond.fieldLink RX4 225 "BranchPredictor$Branch" "isPlainTaken" "Z", Cond.fieldLink RX4 229 "BranchPredictor$Branch" "isGlobalTaken" "Z"]
def wsX4_train_r2 : List Cond := [Cond.fieldLink RX4 19 "BranchPredictor" "choiceTable" "LBranchPredictor$CounterTable;", Cond.fieldLink RX4 232 "BranchPredictor$Branch" "isChoiceTaken" "Z", Cond.fieldLink RX4 239 "BranchPredictor$Branch" "isPredictedTaken" "Z", Cond.methodLink RX4 93 yX4_branchAt, Cond.instanceMethod yX4_branchAt, Cond.selects RX4 yX4_branchAt yX4_branchAt, Cond.code yX4_branchAt cX4_branchAt 2 (some (.object "BranchPredictor$Branch")), Cond.fieldLink RX4 34 "BranchPredictor" "ring" "[LBranchPredictor$Branch;", Cond.fieldLink RX4 210 "BranchPredictor" "oldest" "I", Cond.methodLink RX4 213 yX2_indexFor, Cond.instanceMethod yX2_indexFor, Cond.selects RX2 yX2_indexFor yX2_indexFor, Cond.initialized RX2, Cond.code yX2_indexFor cX2_indexFor 2 (some .int), Cond.fieldLink RX2 15 "BranchPredictor$CounterTable" "size" "I", Cond.methodLink RX4 222 yX2_saysTaken, Cond.instanceMethod yX2_saysTaken, Cond.selects RX2 yX2_saysTaken yX2_saysTaken, Cond.code yX2_saysTaken cX2_saysTaken 2 (some .boolean), Cond.methodLink RX2 19 yX2_valueAt, Cond.instanceMethod yX2_valueAt, Cond.selects RX2 yX2_valueAt yX2_valueAt, Cond.code yX2_valueAt cX2_valueAt 2 (some .int), Cond.fieldLink RX2 9 "BranchPredictor$CounterTable" "values" "[I"]
def wsX4_train_r3 : List Cond := [Cond.methodLink RX4 235 yX4_loopPrediction, Cond.instanceMethod yX4_loopPrediction, Cond.selects RX4 yX4_loopPrediction yX4_loopPrediction, Cond.code yX4_loopPrediction cX4_loopPrediction 4 (some .boolean), Cond.fieldLink RX4 40 "BranchPredictor" "loops" "[LBranchPredictor$Loop;", Cond.fieldLink RX4 164 "BranchPredictor$Loop" "trust" "I", Cond.fieldLink RX4 161 "BranchPredictor$Loop" "trip" "I", Cond.methodLink RX4 245 yX4_loopWith, Cond.instanceMethod yX4_loopWith, Cond.selects RX4 yX4_loopWith yX4_loopWith, Cond.code yX4_loopWith cX4_loopWith 3 (some .int), Cond.fieldLink RX4 157 "BranchPredictor$Loop" "place" "I", Cond.methodLink RX4 167 yX4_presumedCount, Cond.instanceMethod yX4_presumedCount, Cond.selects RX4 yX4_presumedCount yX4_presumedCount, Cond.code yX4_presumedCount cX4_presumedCount 5 (some .int), Cond.fieldLink RX4 158 "BranchPredictor$Loop" "count" "I", Cond.methodLink RX4 248 yX1_isPresumedTaken, Cond.instanceMethod yX1_isPresumedTaken, Cond.selects RX1 yX1_isPresumedTaken yX1_isPresumedTaken, Cond.initialized RX1, Cond.code yX1_isPresumedTaken cX1_isPresumedTaken 1 (some .boolean), Cond.fieldLink RX1 24 "BranchPredictor$Branch" "state" "I", Cond.fieldLink RX1 21 "BranchPredictor$Branch" "isPredictedTaken" "Z"]
def wsX4_train_r4 : List Cond := [Cond.methodLink RX4 242 yX4_appended, Cond.instanceMethod yX4_appended, Cond.selects RX4 yX4_appended yX4_appended, Cond.code yX4_appended cX4_appended 4 (some .int), Cond.fieldLink RX4 55 "BranchPredictor" "historyBits" "I", Cond.methodLink RX4 102 yX4_settle, Cond.instanceMethod yX4_settle, Cond.selects RX4 yX4_settle yX4_settle, Cond.code yX4_settle cX4_settle 4 (some .int), Cond.methodLink RX4 122 yX4_dropFrom, Cond.instanceMethod yX4_dropFrom, Cond.selects RX4 yX4_dropFrom yX4_dropFrom, Cond.code yX4_dropFrom cX4_dropFrom 3 (some .int), Cond.fieldLink RX4 175 "BranchPredictor" "dropped" "J", Cond.methodLink RX4 108 yX4_retire, Cond.instanceMethod yX4_retire, Cond.selects RX4 yX4_retire yX4_retire, Cond.code yX4_retire cX4_retire 3 (some .boolean), Cond.fieldLink RX4 25 "BranchPredictor" "plainAudit" "LBranchPredictor$Audit;", Cond.fieldLink RX4 29 "BranchPredictor" "globalAudit" "LBranchPredictor$Audit;", Cond.fieldLink RX4 171 "BranchPredictor" "committed" "J", Cond.methodLink RX4 251 yX4_countMisses, Cond.instanceMethod yX4_countMisses, Cond.selects RX4 yX4_countMisses yX4_countMisses]
def wsX4_train_r5 : List Cond := [Cond.code yX4_countMisses cX4_countMisses 4 none, Cond.fieldLink RX4 44 "BranchPredictor" "missed" "[J", Cond.methodLink RX4 132 yX1_saidTaken, Cond.instanceMethod yX1_saidTaken, Cond.selects RX1 yX1_saidTaken yX1_saidTaken, Cond.code yX1_saidTaken cX1_saidTaken 2 (some .boolean), Cond.fieldLink RX1 9 "BranchPredictor$Branch" "isPlainTaken" "Z", Cond.fieldLink RX1 15 "BranchPredictor$Branch" "isGlobalTaken" "Z", Cond.fieldLink RX1 18 "BranchPredictor$Branch" "isChoiceTaken" "Z", Cond.methodLink RX4 255 yX4_learnChoice, Cond.instanceMethod yX4_learnChoice, Cond.selects RX4 yX4_learnChoice yX4_learnChoice, Cond.code yX4_learnChoice cX4_learnChoice 3 none, Cond.methodLink RX4 265 yX2_move, Cond.instanceMethod yX2_move, Cond.selects RX2 yX2_move yX2_move, Cond.code yX2_move cX2_move 5 none, Cond.methodLink RX2 23 Lib.Math.min.name, Cond.static Lib.Math.min.name, Cond.initialized "java/lang/Math", Cond.code Lib.Math.min.name Lib.Math.min.code 2 (some .int), Cond.methodLink RX2 29 Lib.Math.max.name, Cond.static Lib.Math.max.name, Cond.code Lib.Math.max.name Lib.Math.max.code 2 (some .int)]
def wsX4_train_r6 : List Cond := [Cond.methodLink RX4 258 yX4_learnOutcome, Cond.static yX4_learnOutcome, Cond.code yX4_learnOutcome cX4_learnOutcome 5 none, Cond.methodLink RX4 269 yX0_note, Cond.instanceMethod yX0_note, Cond.selects RX0 yX0_note yX0_note, Cond.initialized RX0, Cond.code yX0_note cX0_note 6 none, Cond.fieldLink RX0 9 "BranchPredictor$Audit" "latestPlaces" "[I", Cond.fieldLink RX0 15 "BranchPredictor$Audit" "allMeetings" "J", Cond.fieldLink RX0 19 "BranchPredictor$Audit" "harmfulMeetings" "J", Cond.methodLink RX4 262 yX4_learnLoop, Cond.instanceMethod yX4_learnLoop, Cond.selects RX4 yX4_learnLoop yX4_learnLoop, Cond.code yX4_learnLoop cX4_learnLoop 4 none, Cond.methodLink RX4 273 yX3_learn, Cond.instanceMethod yX3_learn, Cond.selects RX3 yX3_learn yX3_learn, Cond.initialized RX3, Cond.code yX3_learn cX3_learn 2 none, Cond.fieldLink RX3 15 "BranchPredictor$Loop" "count" "I", Cond.fieldLink RX3 9 "BranchPredictor$Loop" "place" "I", Cond.fieldLink RX3 18 "BranchPredictor$Loop" "trip" "I", Cond.fieldLink RX3 21 "BranchPredictor$Loop" "trust" "I"]
def wsX4_train_r7 : List Cond := [Cond.methodLink RX3 24 Lib.Math.min.name, Cond.methodLink RX4 277 yX4_numberForNewLoop, Cond.instanceMethod yX4_numberForNewLoop, Cond.selects RX4 yX4_numberForNewLoop yX4_numberForNewLoop, Cond.code yX4_numberForNewLoop cX4_numberForNewLoop 3 (some .int), Cond.methodLink RX4 154 yX3_isFree, Cond.instanceMethod yX3_isFree, Cond.selects RX3 yX3_isFree yX3_isFree, Cond.code yX3_isFree cX3_isFree 1 (some .boolean), Cond.methodLink RX4 281 yX3_startAnew, Cond.instanceMethod yX3_startAnew, Cond.selects RX3 yX3_startAnew yX3_startAnew, Cond.code yX3_startAnew cX3_startAnew 2 none]
def wsX4_train : List Cond := .code yX4_train cX4_train 3 (some .boolean) :: ((wsX4_train_r1 ++ (wsX4_train_r2 ++ (wsX4_train_r3 ++ (wsX4_train_r4 ++ (wsX4_train_r5 ++ (wsX4_train_r6 ++ wsX4_train_r7)))))) ++ wsX40 ++ wsX10 ++ wsX20 ++ wsX30 ++ wsX00 ++ (vx_atS RX4 86 "java/lang/IllegalStateException" ["java/lang/RuntimeException", "java/lang/Exception"]).filter goodWord ++ (vx_atS RX4 72 "java/lang/IllegalArgumentException" ["java/lang/RuntimeException", "java/lang/Exception"]).filter goodWord)
def wsX4_flush : List Cond := .code yX4_flush cX4_flush 3 (some .int) :: ([.classLink RX4 68 "java/lang/IllegalArgumentException", .initialized "java/lang/IllegalArgumentException", .fieldLink RX4 79 "BranchPredictor" "flying" "I", .fieldLink RX4 116 "BranchPredictor$Branch" "historyAhead" "I", .fieldLink RX4 119 "BranchPredictor" "outcomes" "I", .methodLink RX4 93 yX4_branchAt, .instanceMethod yX4_branchAt, .selects RX4 yX4_branchAt yX4_branchAt, .initialized RX4, .code yX4_branchAt cX4_branchAt 2 (some (.object "BranchPredictor$Branch")), .fieldLink RX4 34 "BranchPredictor" "ring" "[LBranchPredictor$Branch;", .fieldLink RX4 210 "BranchPredictor" "oldest" "I", .methodLink RX4 122 yX4_dropFrom, .instanceMethod yX4_dropFrom, .selects RX4 yX4_dropFrom yX4_dropFrom, .code yX4_dropFrom cX4_dropFrom 3 (some .int), .fieldLink RX4 175 "BranchPredictor" "dropped" "J"] ++ wsX40 ++ wsX10 ++ (vx_atS RX4 72 "java/lang/IllegalArgumentException" ["java/lang/RuntimeException", "java/lang/Exception"]).filter goodWord)
def wsX4_inFlight : List Cond := .code yX4_inFlight cX4_inFlight 1 (some .int) :: ([.fieldLink RX4 79 "BranchPredictor" "flying" "I"] ++ wsX40)
def wsX4_place : List Cond := .code yX4_place cX4_place 2 (some .int) :: ([.fieldLink RX4 126 "BranchPredictor$Branch" "place" "I", .methodLink RX4 90 yX4_requireInFlight, .instanceMethod yX4_requireInFlight, .selects RX4 yX4_requireInFlight yX4_requireInFlight, .initialized RX4, .code yX4_requireInFlight cX4_requireInFlight 2 none, .classLink RX4 135 "java/lang/IndexOutOfBoundsException", .initialized "java/lang/IndexOutOfBoundsException", .fieldLink RX4 79 "BranchPredictor" "flying" "I", .methodLink RX4 93 yX4_branchAt, .instanceMethod yX4_branchAt, .selects RX4 yX4_branchAt yX4_branchAt, .code yX4_branchAt cX4_branchAt 2 (some (.object "BranchPredictor$Branch")), .fieldLink RX4 34 "BranchPredictor" "ring" "[LBranchPredictor$Branch;", .fieldLink RX4 210 "BranchPredictor" "oldest" "I"] ++ wsX10 ++ wsX40 ++ (vx_atS RX4 139 "java/lang/IndexOutOfBoundsException" ["java/lang/RuntimeException", "java/lang/Exception"]).filter goodWord)
def wsX4_state : List Cond := .code yX4_state cX4_state 2 (some .int) :: ([.fieldLink RX4 97 "BranchPredictor$Branch" "state" "I", .methodLink RX4 90 yX4_requireInFlight, .instanceMethod yX4_requireInFlight, .selects RX4 yX4_requireInFlight yX4_requireInFlight, .initialized RX4, .code yX4_requireInFlight cX4_requireInFlight 2 none, .classLink RX4 135 "java/lang/IndexOutOfBoundsException", .initialized "java/lang/IndexOutOfBoundsException", .fieldLink RX4 79 "BranchPredictor" "flying" "I", .methodLink RX4 93 yX4_branchAt, .instanceMethod yX4_branchAt, .selects RX4 yX4_branchAt yX4_branchAt, .code yX4_branchAt cX4_branchAt 2 (some (.object "BranchPredictor$Branch")), .fieldLink RX4 34 "BranchPredictor" "ring" "[LBranchPredictor$Branch;", .fieldLink RX4 210 "BranchPredictor" "oldest" "I"] ++ wsX10 ++ wsX40 ++ (vx_atS RX4 139 "java/lang/IndexOutOfBoundsException" ["java/lang/RuntimeException", "java/lang/Exception"]).filter goodWord)
def wsX4_requireKind : List Cond := .code yX4_requireKind cX4_requireKind 1 none :: ([.classLink RX4 135 "java/lang/IndexOutOfBoundsException", .initialized "java/lang/IndexOutOfBoundsException"] ++ (vx_atS RX4 139 "java/lang/IndexOutOfBoundsException" ["java/lang/RuntimeException", "java/lang/Exception"]).filter goodWord)
def wsX4_predicted_r1 : List Cond := [Cond.methodLink RX4 90 yX4_requireInFlight, Cond.instanceMethod yX4_requireInFlight, Cond.selects RX4 yX4_requireInFlight yX4_requireInFlight, Cond.initialized RX4, Cond.code yX4_requireInFlight cX4_requireInFlight 2 none, Cond.classLink RX4 135 "java/lang/IndexOutOfBoundsException", Cond.initialized "java/lang/IndexOutOfBoundsException", Cond.fieldLink RX4 79 "BranchPredictor" "flying" "I", Cond.methodLink RX4 129 yX4_requireKind, Cond.static yX4_requireKind, Cond.code yX4_requireKind cX4_requireKind 1 none, Cond.methodLink RX4 93 yX4_branchAt, Cond.instanceMethod yX4_branchAt, Cond.selects RX4 yX4_branchAt yX4_branchAt, Cond.code yX4_branchAt cX4_branchAt 2 (some (.object "BranchPredictor$Branch")), Cond.fieldLink RX4 34 "BranchPredictor" "ring" "[LBranchPredictor$Branch;", Cond.fieldLink RX4 210 "BranchPredictor" "oldest" "I", Cond.methodLink RX4 132 yX1_saidTaken, Cond.instanceMethod yX1_saidTaken, Cond.selects RX1 yX1_saidTaken yX1_saidTaken, Cond.initialized RX1, Cond.code yX1_saidTaken cX1_saidTaken 2 (some .boolean), Cond.fieldLink RX1 9 "BranchPredictor$Branch" "isPlainTaken" "Z", Cond.fieldLink RX1 15 "BranchPredictor$Branch" "isGlobalTaken" "Z"]
def wsX4_predicted_r2 : List Cond := [Cond.fieldLink RX1 18 "BranchPredictor$Branch" "isChoiceTaken" "Z", Cond.fieldLink RX1 21 "BranchPredictor$Branch" "isPredictedTaken" "Z"]
def wsX4_predicted : List Cond := .code yX4_predicted cX4_predicted 3 (some .boolean) :: ((wsX4_predicted_r1 ++ wsX4_predicted_r2) ++ wsX40 ++ wsX10 ++ (vx_atS RX4 139 "java/lang/IndexOutOfBoundsException" ["java/lang/RuntimeException", "java/lang/Exception"]).filter goodWord)
def wsX4_history : List Cond := .code yX4_history cX4_history 1 (some .int) :: ([.fieldLink RX4 119 "BranchPredictor" "outcomes" "I"] ++ wsX40)
def wsX4_tableWith : List Cond := .code yX4_tableWith cX4_tableWith 2 (some (.object "BranchPredictor$CounterTable")) :: ([.fieldLink RX4 12 "BranchPredictor" "plainTable" "LBranchPredictor$CounterTable;", .fieldLink RX4 16 "BranchPredictor" "globalTable" "LBranchPredictor$CounterTable;", .fieldLink RX4 19 "BranchPredictor" "choiceTable" "LBranchPredictor$CounterTable;"] ++ wsX40)
def wsX4_counter : List Cond := .code yX4_counter cX4_counter 4 (some .int) :: ([.classLink RX4 135 "java/lang/IndexOutOfBoundsException", .initialized "java/lang/IndexOutOfBoundsException", .fieldLink RX4 144 "BranchPredictor$CounterTable" "size" "I", .methodLink RX4 140 yX4_tableWith, .instanceMethod yX4_tableWith, .selects RX4 yX4_tableWith yX4_tableWith, .initialized RX4, .code yX4_tableWith cX4_tableWith 2 (some (.object "BranchPredictor$CounterTable")), .fieldLink RX4 12 "BranchPredictor" "plainTable" "LBranchPredictor$CounterTable;", .fieldLink RX4 16 "BranchPredictor" "globalTable" "LBranchPredictor$CounterTable;", .fieldLink RX4 19 "BranchPredictor" "choiceTable" "LBranchPredictor$CounterTable;", .methodLink RX4 149 yX2_valueAt, .instanceMethod yX2_valueAt, .selects RX2 yX2_valueAt yX2_valueAt, .initialized RX2, .code yX2_valueAt cX2_valueAt 2 (some .int), .fieldLink RX2 9 "BranchPredictor$CounterTable" "values" "[I"] ++ wsX20 ++ wsX40 ++ (vx_atS RX4 139 "java/lang/IndexOutOfBoundsException" ["java/lang/RuntimeException", "java/lang/Exception"]).filter goodWord)
def wsX4_loop_r1 : List Cond := [Cond.classLink RX4 135 "java/lang/IndexOutOfBoundsException", Cond.initialized "java/lang/IndexOutOfBoundsException", Cond.fieldLink RX4 40 "BranchPredictor" "loops" "[LBranchPredictor$Loop;", Cond.fieldLink RX4 157 "BranchPredictor$Loop" "place" "I", Cond.fieldLink RX4 158 "BranchPredictor$Loop" "count" "I", Cond.fieldLink RX4 161 "BranchPredictor$Loop" "trip" "I", Cond.fieldLink RX4 164 "BranchPredictor$Loop" "trust" "I", Cond.methodLink RX4 154 yX3_isFree, Cond.instanceMethod yX3_isFree, Cond.selects RX3 yX3_isFree yX3_isFree, Cond.initialized RX3, Cond.code yX3_isFree cX3_isFree 1 (some .boolean), Cond.fieldLink RX3 9 "BranchPredictor$Loop" "place" "I", Cond.methodLink RX4 167 yX4_presumedCount, Cond.instanceMethod yX4_presumedCount, Cond.selects RX4 yX4_presumedCount yX4_presumedCount, Cond.initialized RX4, Cond.code yX4_presumedCount cX4_presumedCount 5 (some .int), Cond.fieldLink RX4 79 "BranchPredictor" "flying" "I", Cond.fieldLink RX4 126 "BranchPredictor$Branch" "place" "I", Cond.methodLink RX4 93 yX4_branchAt, Cond.instanceMethod yX4_branchAt, Cond.selects RX4 yX4_branchAt yX4_branchAt, Cond.code yX4_branchAt cX4_branchAt 2 (some (.object "BranchPredictor$Branch"))]
def wsX4_loop_r2 : List Cond := [Cond.fieldLink RX4 34 "BranchPredictor" "ring" "[LBranchPredictor$Branch;", Cond.fieldLink RX4 210 "BranchPredictor" "oldest" "I", Cond.methodLink RX4 248 yX1_isPresumedTaken, Cond.instanceMethod yX1_isPresumedTaken, Cond.selects RX1 yX1_isPresumedTaken yX1_isPresumedTaken, Cond.initialized RX1, Cond.code yX1_isPresumedTaken cX1_isPresumedTaken 1 (some .boolean), Cond.fieldLink RX1 24 "BranchPredictor$Branch" "state" "I", Cond.fieldLink RX1 21 "BranchPredictor$Branch" "isPredictedTaken" "Z"]
def wsX4_loop : List Cond := .code yX4_loop cX4_loop 4 (some .int) :: ((wsX4_loop_r1 ++ wsX4_loop_r2) ++ wsX40 ++ wsX30 ++ wsX10 ++ (vx_atS RX4 139 "java/lang/IndexOutOfBoundsException" ["java/lang/RuntimeException", "java/lang/Exception"]).filter goodWord)
def wsX4_commits : List Cond := .code yX4_commits cX4_commits 1 (some .long) :: ([.fieldLink RX4 171 "BranchPredictor" "committed" "J"] ++ wsX40)
def wsX4_misses : List Cond := .code yX4_misses cX4_misses 2 (some .long) :: ([.fieldLink RX4 44 "BranchPredictor" "missed" "[J", .methodLink RX4 129 yX4_requireKind, .static yX4_requireKind, .initialized RX4, .code yX4_requireKind cX4_requireKind 1 none, .classLink RX4 135 "java/lang/IndexOutOfBoundsException", .initialized "java/lang/IndexOutOfBoundsException"] ++ wsX40 ++ (vx_atS RX4 139 "java/lang/IndexOutOfBoundsException" ["java/lang/RuntimeException", "java/lang/Exception"]).filter goodWord)
def wsX4_drops : List Cond := .code yX4_drops cX4_drops 1 (some .long) :: ([.fieldLink RX4 175 "BranchPredictor" "dropped" "J"] ++ wsX40)
def wsX4_meetings : List Cond := .code yX4_meetings cX4_meetings 4 (some .long) :: ([.classLink RX4 135 "java/lang/IndexOutOfBoundsException", .initialized "java/lang/IndexOutOfBoundsException", .fieldLink RX4 25 "BranchPredictor" "plainAudit" "LBranchPredictor$Audit;", .fieldLink RX4 29 "BranchPredictor" "globalAudit" "LBranchPredictor$Audit;", .fieldLink RX4 180 "BranchPredictor$Audit" "harmfulMeetings" "J", .fieldLink RX4 183 "BranchPredictor$Audit" "allMeetings" "J"] ++ wsX40 ++ wsX00 ++ (vx_atS RX4 139 "java/lang/IndexOutOfBoundsException" ["java/lang/RuntimeException", "java/lang/Exception"]).filter goodWord)
def wsX4_accuracy : List Cond := .code yX4_accuracy cX4_accuracy 3 (some .double) :: ([.fieldLink RX4 171 "BranchPredictor" "committed" "J", .fieldLink RX4 44 "BranchPredictor" "missed" "[J"] ++ wsX40)
def wsX4_digest_r1 : List Cond := [Cond.constantLong RX4 186 (71), Cond.fieldLink RX4 48 "BranchPredictor" "plainBits" "I", Cond.fieldLink RX4 52 "BranchPredictor" "globalBits" "I", Cond.fieldLink RX4 55 "BranchPredictor" "historyBits" "I", Cond.fieldLink RX4 119 "BranchPredictor" "outcomes" "I", Cond.fieldLink RX4 12 "BranchPredictor" "plainTable" "LBranchPredictor$CounterTable;", Cond.fieldLink RX4 16 "BranchPredictor" "globalTable" "LBranchPredictor$CounterTable;", Cond.fieldLink RX4 19 "BranchPredictor" "choiceTable" "LBranchPredictor$CounterTable;", Cond.fieldLink RX4 40 "BranchPredictor" "loops" "[LBranchPredictor$Loop;", Cond.fieldLink RX4 79 "BranchPredictor" "flying" "I", Cond.fieldLink RX4 126 "BranchPredictor$Branch" "place" "I", Cond.fieldLink RX4 97 "BranchPredictor$Branch" "state" "I", Cond.fieldLink RX4 171 "BranchPredictor" "committed" "J", Cond.fieldLink RX4 175 "BranchPredictor" "dropped" "J", Cond.fieldLink RX4 25 "BranchPredictor" "plainAudit" "LBranchPredictor$Audit;", Cond.fieldLink RX4 183 "BranchPredictor$Audit" "allMeetings" "J", Cond.fieldLink RX4 29 "BranchPredictor" "globalAudit" "LBranchPredictor$Audit;", Cond.methodLink RX4 188 yX4_mix, Cond.static yX4_mix, Cond.initialized RX4, Cond.code yX4_mix cX4_mix 4 (some .long), Cond.constantLong RX4 197 (31), Cond.methodLink RX4 192 yX2_mixInto, Cond.instanceMethod yX2_mixInto]
def wsX4_digest_r2 : List Cond := [Cond.selects RX2 yX2_mixInto yX2_mixInto, Cond.initialized RX2, Cond.code yX2_mixInto cX2_mixInto 6 (some .long), Cond.fieldLink RX2 15 "BranchPredictor$CounterTable" "size" "I", Cond.fieldLink RX2 9 "BranchPredictor$CounterTable" "values" "[I", Cond.methodLink RX4 196 yX3_mixInto, Cond.instanceMethod yX3_mixInto, Cond.selects RX3 yX3_mixInto yX3_mixInto, Cond.initialized RX3, Cond.code yX3_mixInto cX3_mixInto 6 (some .long), Cond.constantLong RX3 34 (-1), Cond.fieldLink RX3 9 "BranchPredictor$Loop" "place" "I", Cond.fieldLink RX3 15 "BranchPredictor$Loop" "count" "I", Cond.fieldLink RX3 18 "BranchPredictor$Loop" "trip" "I", Cond.fieldLink RX3 21 "BranchPredictor$Loop" "trust" "I", Cond.methodLink RX3 30 yX3_isFree, Cond.instanceMethod yX3_isFree, Cond.selects RX3 yX3_isFree yX3_isFree, Cond.code yX3_isFree cX3_isFree 1 (some .boolean), Cond.methodLink RX4 93 yX4_branchAt, Cond.instanceMethod yX4_branchAt, Cond.selects RX4 yX4_branchAt yX4_branchAt, Cond.code yX4_branchAt cX4_branchAt 2 (some (.object "BranchPredictor$Branch")), Cond.fieldLink RX4 34 "BranchPredictor" "ring" "[LBranchPredictor$Branch;"]
def wsX4_digest_r3 : List Cond := [Cond.fieldLink RX4 210 "BranchPredictor" "oldest" "I"]
def wsX4_digest : List Cond := .code yX4_digest cX4_digest 4 (some .long) :: ((wsX4_digest_r1 ++ (wsX4_digest_r2 ++ wsX4_digest_r3)) ++ wsX40 ++ wsX10 ++ wsX00 ++ wsX20 ++ wsX30)
def wsX5_begin : List Cond := .code yX5_begin cX5_begin 5 none :: ([.fieldLink RX5 62 "BranchPredictorModel" "p" "I", .fieldLink RX5 65 "BranchPredictorModel" "g" "I", .fieldLink RX5 68 "BranchPredictorModel" "h" "I", .fieldLink RX5 71 "BranchPredictorModel" "history" "I", .fieldLink RX5 74 "BranchPredictorModel" "flying" "I", .fieldLink RX5 77 "BranchPredictorModel" "commits" "J", .fieldLink RX5 81 "BranchPredictorModel" "drops" "J", .fieldLink RX5 9 "BranchPredictorModel" "counters" "[I", .fieldLink RX5 13 "BranchPredictorModel" "latestPlaces" "[I", .fieldLink RX5 32 "BranchPredictorModel" "isLoop" "[Z", .fieldLink RX5 47 "BranchPredictorModel" "misses" "[J", .fieldLink RX5 51 "BranchPredictorModel" "meetings" "[J"] ++ wsX50)
def wsX5_init_r1 : List Cond := [Cond.methodLink RX5 1 objectInit, Cond.instanceMethod objectInit, Cond.code objectInit ⟨#[0xb1]⟩ 1 none, Cond.arrayClass .int, Cond.fieldLink RX5 9 "BranchPredictorModel" "counters" "[I", Cond.fieldLink RX5 13 "BranchPredictorModel" "latestPlaces" "[I", Cond.fieldLink RX5 16 "BranchPredictorModel" "places" "[I", Cond.fieldLink RX5 19 "BranchPredictorModel" "histories" "[I", Cond.arrayClass .boolean, Cond.fieldLink RX5 22 "BranchPredictorModel" "predictions" "[Z", Cond.fieldLink RX5 26 "BranchPredictorModel" "areResolved" "[Z", Cond.fieldLink RX5 29 "BranchPredictorModel" "outcomes" "[Z", Cond.fieldLink RX5 32 "BranchPredictorModel" "isLoop" "[Z", Cond.fieldLink RX5 35 "BranchPredictorModel" "loopPlaces" "[I", Cond.fieldLink RX5 38 "BranchPredictorModel" "loopCounts" "[I", Cond.fieldLink RX5 41 "BranchPredictorModel" "trips" "[I", Cond.fieldLink RX5 44 "BranchPredictorModel" "trusts" "[I", Cond.arrayClass .long, Cond.fieldLink RX5 47 "BranchPredictorModel" "misses" "[J", Cond.fieldLink RX5 51 "BranchPredictorModel" "meetings" "[J", Cond.methodLink RX5 54 yX5_begin, Cond.instanceMethod yX5_begin, Cond.selects RX5 yX5_begin yX5_begin, Cond.initialized RX5]
def wsX5_init_r2 : List Cond := [Cond.code yX5_begin cX5_begin 5 none, Cond.fieldLink RX5 62 "BranchPredictorModel" "p" "I", Cond.fieldLink RX5 65 "BranchPredictorModel" "g" "I", Cond.fieldLink RX5 68 "BranchPredictorModel" "h" "I", Cond.fieldLink RX5 71 "BranchPredictorModel" "history" "I", Cond.fieldLink RX5 74 "BranchPredictorModel" "flying" "I", Cond.fieldLink RX5 77 "BranchPredictorModel" "commits" "J", Cond.fieldLink RX5 81 "BranchPredictorModel" "drops" "J"]
def wsX5_init : List Cond := .code yX5_init cX5_init 1 none :: ((wsX5_init_r1 ++ wsX5_init_r2) ++ wsX50)
def wsX5_thrown : List Cond := .code yX5_thrown cX5_thrown 1 (some .int) :: ([.fieldLink RX5 58 "BranchPredictorModel" "thrown" "I"] ++ wsX50)
def wsX5_fail : List Cond := .code yX5_fail cX5_fail 2 (some .int) :: ([.fieldLink RX5 58 "BranchPredictorModel" "thrown" "I"] ++ wsX50)
def wsX5_failed : List Cond := .code yX5_failed cX5_failed 2 (some .boolean) :: ([.fieldLink RX5 58 "BranchPredictorModel" "thrown" "I"] ++ wsX50)
def wsX5_setSizes : List Cond := .code yX5_setSizes cX5_setSizes 5 (some .boolean) :: ([.fieldLink RX5 58 "BranchPredictorModel" "thrown" "I", .fieldLink RX5 62 "BranchPredictorModel" "p" "I", .fieldLink RX5 65 "BranchPredictorModel" "g" "I", .fieldLink RX5 68 "BranchPredictorModel" "h" "I", .methodLink RX5 84 yX5_failed, .instanceMethod yX5_failed, .selects RX5 yX5_failed yX5_failed, .initialized RX5, .code yX5_failed cX5_failed 2 (some .boolean), .methodLink RX5 54 yX5_begin, .instanceMethod yX5_begin, .selects RX5 yX5_begin yX5_begin, .code yX5_begin cX5_begin 5 none, .fieldLink RX5 71 "BranchPredictorModel" "history" "I", .fieldLink RX5 74 "BranchPredictorModel" "flying" "I", .fieldLink RX5 77 "BranchPredictorModel" "commits" "J", .fieldLink RX5 81 "BranchPredictorModel" "drops" "J", .fieldLink RX5 9 "BranchPredictorModel" "counters" "[I", .fieldLink RX5 13 "BranchPredictorModel" "latestPlaces" "[I", .fieldLink RX5 32 "BranchPredictorModel" "isLoop" "[Z", .fieldLink RX5 47 "BranchPredictorModel" "misses" "[J", .fieldLink RX5 51 "BranchPredictorModel" "meetings" "[J"] ++ wsX50)
def wsX5_plainIndex : List Cond := .code yX5_plainIndex cX5_plainIndex 2 (some .int) :: ([.fieldLink RX5 62 "BranchPredictorModel" "p" "I"] ++ wsX50)
def wsX5_globalIndex : List Cond := .code yX5_globalIndex cX5_globalIndex 3 (some .int) :: ([.fieldLink RX5 65 "BranchPredictorModel" "g" "I"] ++ wsX50)
def wsX5_choiceIndex : List Cond := .code yX5_choiceIndex cX5_choiceIndex 2 (some .int) :: ([.fieldLink RX5 62 "BranchPredictorModel" "p" "I"] ++ wsX50)
def wsX5_says : List Cond := .code yX5_says cX5_says 2 (some .boolean) :: ([.fieldLink RX5 9 "BranchPredictorModel" "counters" "[I"] ++ wsX50)
def wsX5_appended : List Cond := .code yX5_appended cX5_appended 3 (some .int) :: ([.fieldLink RX5 68 "BranchPredictorModel" "h" "I"] ++ wsX50)
def wsX5_loopOf : List Cond := .code yX5_loopOf cX5_loopOf 3 (some .int) :: ([.fieldLink RX5 32 "BranchPredictorModel" "isLoop" "[Z", .fieldLink RX5 35 "BranchPredictorModel" "loopPlaces" "[I"] ++ wsX50)
def wsX5_isTaken : List Cond := .code yX5_isTaken cX5_isTaken 2 (some .boolean) :: ([.fieldLink RX5 26 "BranchPredictorModel" "areResolved" "[Z", .fieldLink RX5 29 "BranchPredictorModel" "outcomes" "[Z", .fieldLink RX5 22 "BranchPredictorModel" "predictions" "[Z"] ++ wsX50)
def wsX5_presumed : List Cond := .code yX5_presumed cX5_presumed 4 (some .int) :: ([.fieldLink RX5 38 "BranchPredictorModel" "loopCounts" "[I", .fieldLink RX5 74 "BranchPredictorModel" "flying" "I", .fieldLink RX5 16 "BranchPredictorModel" "places" "[I", .fieldLink RX5 35 "BranchPredictorModel" "loopPlaces" "[I", .methodLink RX5 88 yX5_isTaken, .instanceMethod yX5_isTaken, .selects RX5 yX5_isTaken yX5_isTaken, .initialized RX5, .code yX5_isTaken cX5_isTaken 2 (some .boolean), .fieldLink RX5 26 "BranchPredictorModel" "areResolved" "[Z", .fieldLink RX5 29 "BranchPredictorModel" "outcomes" "[Z", .fieldLink RX5 22 "BranchPredictorModel" "predictions" "[Z"] ++ wsX50)
def wsX5_add_r1 : List Cond := [Cond.fieldLink RX5 74 "BranchPredictorModel" "flying" "I", Cond.fieldLink RX5 22 "BranchPredictorModel" "predictions" "[Z", Cond.fieldLink RX5 71 "BranchPredictorModel" "history" "I", Cond.fieldLink RX5 44 "BranchPredictorModel" "trusts" "[I", Cond.fieldLink RX5 41 "BranchPredictorModel" "trips" "[I", Cond.fieldLink RX5 16 "BranchPredictorModel" "places" "[I", Cond.fieldLink RX5 19 "BranchPredictorModel" "histories" "[I", Cond.fieldLink RX5 26 "BranchPredictorModel" "areResolved" "[Z", Cond.methodLink RX5 91 yX5_plainIndex, Cond.instanceMethod yX5_plainIndex, Cond.selects RX5 yX5_plainIndex yX5_plainIndex, Cond.initialized RX5, Cond.code yX5_plainIndex cX5_plainIndex 2 (some .int), Cond.fieldLink RX5 62 "BranchPredictorModel" "p" "I", Cond.methodLink RX5 95 yX5_says, Cond.instanceMethod yX5_says, Cond.selects RX5 yX5_says yX5_says, Cond.code yX5_says cX5_says 2 (some .boolean), Cond.fieldLink RX5 9 "BranchPredictorModel" "counters" "[I", Cond.methodLink RX5 98 yX5_globalIndex, Cond.instanceMethod yX5_globalIndex, Cond.selects RX5 yX5_globalIndex yX5_globalIndex, Cond.code yX5_globalIndex cX5_globalIndex 3 (some .int), Cond.fieldLink RX5 65 "BranchPredictorModel" "g" "I"]
def wsX5_add_r2 : List Cond := [Cond.methodLink RX5 102 yX5_choiceIndex, Cond.instanceMethod yX5_choiceIndex, Cond.selects RX5 yX5_choiceIndex yX5_choiceIndex, Cond.code yX5_choiceIndex cX5_choiceIndex 2 (some .int), Cond.methodLink RX5 105 yX5_loopOf, Cond.instanceMethod yX5_loopOf, Cond.selects RX5 yX5_loopOf yX5_loopOf, Cond.code yX5_loopOf cX5_loopOf 3 (some .int), Cond.fieldLink RX5 32 "BranchPredictorModel" "isLoop" "[Z", Cond.fieldLink RX5 35 "BranchPredictorModel" "loopPlaces" "[I", Cond.methodLink RX5 108 yX5_presumed, Cond.instanceMethod yX5_presumed, Cond.selects RX5 yX5_presumed yX5_presumed, Cond.code yX5_presumed cX5_presumed 4 (some .int), Cond.fieldLink RX5 38 "BranchPredictorModel" "loopCounts" "[I", Cond.methodLink RX5 88 yX5_isTaken, Cond.instanceMethod yX5_isTaken, Cond.selects RX5 yX5_isTaken yX5_isTaken, Cond.code yX5_isTaken cX5_isTaken 2 (some .boolean), Cond.fieldLink RX5 29 "BranchPredictorModel" "outcomes" "[Z", Cond.methodLink RX5 111 yX5_appended, Cond.instanceMethod yX5_appended, Cond.selects RX5 yX5_appended yX5_appended, Cond.code yX5_appended cX5_appended 3 (some .int)]
def wsX5_add_r3 : List Cond := [Cond.fieldLink RX5 68 "BranchPredictorModel" "h" "I"]
def wsX5_add : List Cond := .code yX5_add cX5_add 5 (some .boolean) :: ((wsX5_add_r1 ++ (wsX5_add_r2 ++ wsX5_add_r3)) ++ wsX50)
def wsX5_predict_r1 : List Cond := [Cond.fieldLink RX5 58 "BranchPredictorModel" "thrown" "I", Cond.constant RX5 115 (65536), Cond.fieldLink RX5 74 "BranchPredictorModel" "flying" "I", Cond.methodLink RX5 84 yX5_failed, Cond.instanceMethod yX5_failed, Cond.selects RX5 yX5_failed yX5_failed, Cond.initialized RX5, Cond.code yX5_failed cX5_failed 2 (some .boolean), Cond.methodLink RX5 116 yX5_add, Cond.instanceMethod yX5_add, Cond.selects RX5 yX5_add yX5_add, Cond.code yX5_add cX5_add 5 (some .boolean), Cond.fieldLink RX5 22 "BranchPredictorModel" "predictions" "[Z", Cond.fieldLink RX5 71 "BranchPredictorModel" "history" "I", Cond.fieldLink RX5 44 "BranchPredictorModel" "trusts" "[I", Cond.fieldLink RX5 41 "BranchPredictorModel" "trips" "[I", Cond.fieldLink RX5 16 "BranchPredictorModel" "places" "[I", Cond.fieldLink RX5 19 "BranchPredictorModel" "histories" "[I", Cond.fieldLink RX5 26 "BranchPredictorModel" "areResolved" "[Z", Cond.methodLink RX5 91 yX5_plainIndex, Cond.instanceMethod yX5_plainIndex, Cond.selects RX5 yX5_plainIndex yX5_plainIndex, Cond.code yX5_plainIndex cX5_plainIndex 2 (some .int), Cond.fieldLink RX5 62 "BranchPredictorModel" "p" "I"]
def wsX5_predict_r2 : List Cond := [Cond.methodLink RX5 95 yX5_says, Cond.instanceMethod yX5_says, Cond.selects RX5 yX5_says yX5_says, Cond.code yX5_says cX5_says 2 (some .boolean), Cond.fieldLink RX5 9 "BranchPredictorModel" "counters" "[I", Cond.methodLink RX5 98 yX5_globalIndex, Cond.instanceMethod yX5_globalIndex, Cond.selects RX5 yX5_globalIndex yX5_globalIndex, Cond.code yX5_globalIndex cX5_globalIndex 3 (some .int), Cond.fieldLink RX5 65 "BranchPredictorModel" "g" "I", Cond.methodLink RX5 102 yX5_choiceIndex, Cond.instanceMethod yX5_choiceIndex, Cond.selects RX5 yX5_choiceIndex yX5_choiceIndex, Cond.code yX5_choiceIndex cX5_choiceIndex 2 (some .int), Cond.methodLink RX5 105 yX5_loopOf, Cond.instanceMethod yX5_loopOf, Cond.selects RX5 yX5_loopOf yX5_loopOf, Cond.code yX5_loopOf cX5_loopOf 3 (some .int), Cond.fieldLink RX5 32 "BranchPredictorModel" "isLoop" "[Z", Cond.fieldLink RX5 35 "BranchPredictorModel" "loopPlaces" "[I", Cond.methodLink RX5 108 yX5_presumed, Cond.instanceMethod yX5_presumed, Cond.selects RX5 yX5_presumed yX5_presumed, Cond.code yX5_presumed cX5_presumed 4 (some .int)]
def wsX5_predict_r3 : List Cond := [Cond.fieldLink RX5 38 "BranchPredictorModel" "loopCounts" "[I", Cond.methodLink RX5 88 yX5_isTaken, Cond.instanceMethod yX5_isTaken, Cond.selects RX5 yX5_isTaken yX5_isTaken, Cond.code yX5_isTaken cX5_isTaken 2 (some .boolean), Cond.fieldLink RX5 29 "BranchPredictorModel" "outcomes" "[Z", Cond.methodLink RX5 111 yX5_appended, Cond.instanceMethod yX5_appended, Cond.selects RX5 yX5_appended yX5_appended, Cond.code yX5_appended cX5_appended 3 (some .int), Cond.fieldLink RX5 68 "BranchPredictorModel" "h" "I"]
def wsX5_predict : List Cond := .code yX5_predict cX5_predict 2 (some .boolean) :: ((wsX5_predict_r1 ++ (wsX5_predict_r2 ++ wsX5_predict_r3)) ++ wsX50)
def wsX5_isFlying : List Cond := .code yX5_isFlying cX5_isFlying 2 (some .boolean) :: ([.fieldLink RX5 74 "BranchPredictorModel" "flying" "I"] ++ wsX50)
def wsX5_isWrong : List Cond := .code yX5_isWrong cX5_isWrong 2 (some .boolean) :: ([.fieldLink RX5 26 "BranchPredictorModel" "areResolved" "[Z", .fieldLink RX5 29 "BranchPredictorModel" "outcomes" "[Z", .fieldLink RX5 22 "BranchPredictorModel" "predictions" "[Z"] ++ wsX50)
def wsX5_settle : List Cond := .code yX5_settle cX5_settle 4 (some .int) :: ([.fieldLink RX5 26 "BranchPredictorModel" "areResolved" "[Z", .fieldLink RX5 29 "BranchPredictorModel" "outcomes" "[Z", .fieldLink RX5 74 "BranchPredictorModel" "flying" "I", .fieldLink RX5 81 "BranchPredictorModel" "drops" "J", .fieldLink RX5 19 "BranchPredictorModel" "histories" "[I", .fieldLink RX5 71 "BranchPredictorModel" "history" "I", .methodLink RX5 119 yX5_isWrong, .instanceMethod yX5_isWrong, .selects RX5 yX5_isWrong yX5_isWrong, .initialized RX5, .code yX5_isWrong cX5_isWrong 2 (some .boolean), .fieldLink RX5 22 "BranchPredictorModel" "predictions" "[Z", .methodLink RX5 111 yX5_appended, .instanceMethod yX5_appended, .selects RX5 yX5_appended yX5_appended, .code yX5_appended cX5_appended 3 (some .int), .fieldLink RX5 68 "BranchPredictorModel" "h" "I"] ++ wsX50)
def wsX5_resolve_r1 : List Cond := [Cond.fieldLink RX5 58 "BranchPredictorModel" "thrown" "I", Cond.fieldLink RX5 26 "BranchPredictorModel" "areResolved" "[Z", Cond.methodLink RX5 122 yX5_isFlying, Cond.instanceMethod yX5_isFlying, Cond.selects RX5 yX5_isFlying yX5_isFlying, Cond.initialized RX5, Cond.code yX5_isFlying cX5_isFlying 2 (some .boolean), Cond.fieldLink RX5 74 "BranchPredictorModel" "flying" "I", Cond.methodLink RX5 125 yX5_fail, Cond.instanceMethod yX5_fail, Cond.selects RX5 yX5_fail yX5_fail, Cond.code yX5_fail cX5_fail 2 (some .int), Cond.methodLink RX5 128 yX5_settle, Cond.instanceMethod yX5_settle, Cond.selects RX5 yX5_settle yX5_settle, Cond.code yX5_settle cX5_settle 4 (some .int), Cond.fieldLink RX5 29 "BranchPredictorModel" "outcomes" "[Z", Cond.fieldLink RX5 81 "BranchPredictorModel" "drops" "J", Cond.fieldLink RX5 19 "BranchPredictorModel" "histories" "[I", Cond.fieldLink RX5 71 "BranchPredictorModel" "history" "I", Cond.methodLink RX5 119 yX5_isWrong, Cond.instanceMethod yX5_isWrong, Cond.selects RX5 yX5_isWrong yX5_isWrong, Cond.code yX5_isWrong cX5_isWrong 2 (some .boolean)]
def wsX5_resolve_r2 : List Cond := [Cond.fieldLink RX5 22 "BranchPredictorModel" "predictions" "[Z", Cond.methodLink RX5 111 yX5_appended, Cond.instanceMethod yX5_appended, Cond.selects RX5 yX5_appended yX5_appended, Cond.code yX5_appended cX5_appended 3 (some .int), Cond.fieldLink RX5 68 "BranchPredictorModel" "h" "I"]
def wsX5_resolve : List Cond := .code yX5_resolve cX5_resolve 3 (some .int) :: ((wsX5_resolve_r1 ++ wsX5_resolve_r2) ++ wsX50)
def wsX5_change : List Cond := .code yX5_change cX5_change 3 none :: ([.fieldLink RX5 9 "BranchPredictorModel" "counters" "[I", .methodLink RX5 131 Lib.Math.min.name, .static Lib.Math.min.name, .initialized "java/lang/Math", .code Lib.Math.min.name Lib.Math.min.code 2 (some .int), .methodLink RX5 136 Lib.Math.max.name, .static Lib.Math.max.name, .code Lib.Math.max.name Lib.Math.max.code 2 (some .int)] ++ wsX50)
def wsX5_audit : List Cond := .code yX5_audit cX5_audit 5 none :: ([.fieldLink RX5 13 "BranchPredictorModel" "latestPlaces" "[I", .fieldLink RX5 51 "BranchPredictorModel" "meetings" "[J", .methodLink RX5 95 yX5_says, .instanceMethod yX5_says, .selects RX5 yX5_says yX5_says, .initialized RX5, .code yX5_says cX5_says 2 (some .boolean), .fieldLink RX5 9 "BranchPredictorModel" "counters" "[I"] ++ wsX50)
def wsX5_makeLoop : List Cond := .code yX5_makeLoop cX5_makeLoop 4 none :: ([.fieldLink RX5 44 "BranchPredictorModel" "trusts" "[I", .fieldLink RX5 32 "BranchPredictorModel" "isLoop" "[Z", .fieldLink RX5 35 "BranchPredictorModel" "loopPlaces" "[I", .fieldLink RX5 38 "BranchPredictorModel" "loopCounts" "[I", .fieldLink RX5 41 "BranchPredictorModel" "trips" "[I"] ++ wsX50)
def wsX5_learnLoop : List Cond := .code yX5_learnLoop cX5_learnLoop 5 none :: ([.fieldLink RX5 38 "BranchPredictorModel" "loopCounts" "[I", .fieldLink RX5 32 "BranchPredictorModel" "isLoop" "[Z", .fieldLink RX5 41 "BranchPredictorModel" "trips" "[I", .fieldLink RX5 44 "BranchPredictorModel" "trusts" "[I", .methodLink RX5 131 Lib.Math.min.name, .static Lib.Math.min.name, .initialized "java/lang/Math", .code Lib.Math.min.name Lib.Math.min.code 2 (some .int), .methodLink RX5 105 yX5_loopOf, .instanceMethod yX5_loopOf, .selects RX5 yX5_loopOf yX5_loopOf, .initialized RX5, .code yX5_loopOf cX5_loopOf 3 (some .int), .fieldLink RX5 35 "BranchPredictorModel" "loopPlaces" "[I", .methodLink RX5 139 yX5_makeLoop, .instanceMethod yX5_makeLoop, .selects RX5 yX5_makeLoop yX5_makeLoop, .code yX5_makeLoop cX5_makeLoop 4 none] ++ wsX50)
def wsX5_learn_r1 : List Cond := [Cond.fieldLink RX5 16 "BranchPredictorModel" "places" "[I", Cond.fieldLink RX5 29 "BranchPredictorModel" "outcomes" "[Z", Cond.fieldLink RX5 22 "BranchPredictorModel" "predictions" "[Z", Cond.fieldLink RX5 19 "BranchPredictorModel" "histories" "[I", Cond.fieldLink RX5 47 "BranchPredictorModel" "misses" "[J", Cond.fieldLink RX5 77 "BranchPredictorModel" "commits" "J", Cond.fieldLink RX5 74 "BranchPredictorModel" "flying" "I", Cond.fieldLink RX5 26 "BranchPredictorModel" "areResolved" "[Z", Cond.methodLink RX5 119 yX5_isWrong, Cond.instanceMethod yX5_isWrong, Cond.selects RX5 yX5_isWrong yX5_isWrong, Cond.initialized RX5, Cond.code yX5_isWrong cX5_isWrong 2 (some .boolean), Cond.methodLink RX5 102 yX5_choiceIndex, Cond.instanceMethod yX5_choiceIndex, Cond.selects RX5 yX5_choiceIndex yX5_choiceIndex, Cond.code yX5_choiceIndex cX5_choiceIndex 2 (some .int), Cond.fieldLink RX5 62 "BranchPredictorModel" "p" "I", Cond.methodLink RX5 143 yX5_change, Cond.instanceMethod yX5_change, Cond.selects RX5 yX5_change yX5_change, Cond.code yX5_change cX5_change 3 none, Cond.fieldLink RX5 9 "BranchPredictorModel" "counters" "[I", Cond.methodLink RX5 131 Lib.Math.min.name]
def wsX5_learn_r2 : List Cond := [Cond.static Lib.Math.min.name, Cond.initialized "java/lang/Math", Cond.code Lib.Math.min.name Lib.Math.min.code 2 (some .int), Cond.methodLink RX5 136 Lib.Math.max.name, Cond.static Lib.Math.max.name, Cond.code Lib.Math.max.name Lib.Math.max.code 2 (some .int), Cond.methodLink RX5 98 yX5_globalIndex, Cond.instanceMethod yX5_globalIndex, Cond.selects RX5 yX5_globalIndex yX5_globalIndex, Cond.code yX5_globalIndex cX5_globalIndex 3 (some .int), Cond.fieldLink RX5 65 "BranchPredictorModel" "g" "I", Cond.methodLink RX5 91 yX5_plainIndex, Cond.instanceMethod yX5_plainIndex, Cond.selects RX5 yX5_plainIndex yX5_plainIndex, Cond.code yX5_plainIndex cX5_plainIndex 2 (some .int), Cond.methodLink RX5 147 yX5_audit, Cond.instanceMethod yX5_audit, Cond.selects RX5 yX5_audit yX5_audit, Cond.code yX5_audit cX5_audit 5 none, Cond.fieldLink RX5 13 "BranchPredictorModel" "latestPlaces" "[I", Cond.fieldLink RX5 51 "BranchPredictorModel" "meetings" "[J", Cond.methodLink RX5 95 yX5_says, Cond.instanceMethod yX5_says, Cond.selects RX5 yX5_says yX5_says]
def wsX5_learn_r3 : List Cond := [Cond.code yX5_says cX5_says 2 (some .boolean), Cond.methodLink RX5 151 yX5_learnLoop, Cond.instanceMethod yX5_learnLoop, Cond.selects RX5 yX5_learnLoop yX5_learnLoop, Cond.code yX5_learnLoop cX5_learnLoop 5 none, Cond.fieldLink RX5 38 "BranchPredictorModel" "loopCounts" "[I", Cond.fieldLink RX5 32 "BranchPredictorModel" "isLoop" "[Z", Cond.fieldLink RX5 41 "BranchPredictorModel" "trips" "[I", Cond.fieldLink RX5 44 "BranchPredictorModel" "trusts" "[I", Cond.methodLink RX5 105 yX5_loopOf, Cond.instanceMethod yX5_loopOf, Cond.selects RX5 yX5_loopOf yX5_loopOf, Cond.code yX5_loopOf cX5_loopOf 3 (some .int), Cond.fieldLink RX5 35 "BranchPredictorModel" "loopPlaces" "[I", Cond.methodLink RX5 139 yX5_makeLoop, Cond.instanceMethod yX5_makeLoop, Cond.selects RX5 yX5_makeLoop yX5_makeLoop, Cond.code yX5_makeLoop cX5_makeLoop 4 none]
def wsX5_learn : List Cond := .code yX5_learn cX5_learn 6 (some .boolean) :: ((wsX5_learn_r1 ++ (wsX5_learn_r2 ++ wsX5_learn_r3)) ++ wsX50)
def wsX5_commit_r1 : List Cond := [Cond.fieldLink RX5 58 "BranchPredictorModel" "thrown" "I", Cond.fieldLink RX5 74 "BranchPredictorModel" "flying" "I", Cond.fieldLink RX5 26 "BranchPredictorModel" "areResolved" "[Z", Cond.methodLink RX5 155 yX5_learn, Cond.instanceMethod yX5_learn, Cond.selects RX5 yX5_learn yX5_learn, Cond.initialized RX5, Cond.code yX5_learn cX5_learn 6 (some .boolean), Cond.fieldLink RX5 16 "BranchPredictorModel" "places" "[I", Cond.fieldLink RX5 29 "BranchPredictorModel" "outcomes" "[Z", Cond.fieldLink RX5 22 "BranchPredictorModel" "predictions" "[Z", Cond.fieldLink RX5 19 "BranchPredictorModel" "histories" "[I", Cond.fieldLink RX5 47 "BranchPredictorModel" "misses" "[J", Cond.fieldLink RX5 77 "BranchPredictorModel" "commits" "J", Cond.methodLink RX5 119 yX5_isWrong, Cond.instanceMethod yX5_isWrong, Cond.selects RX5 yX5_isWrong yX5_isWrong, Cond.code yX5_isWrong cX5_isWrong 2 (some .boolean), Cond.methodLink RX5 102 yX5_choiceIndex, Cond.instanceMethod yX5_choiceIndex, Cond.selects RX5 yX5_choiceIndex yX5_choiceIndex, Cond.code yX5_choiceIndex cX5_choiceIndex 2 (some .int), Cond.fieldLink RX5 62 "BranchPredictorModel" "p" "I", Cond.methodLink RX5 143 yX5_change]
def wsX5_commit_r2 : List Cond := [Cond.instanceMethod yX5_change, Cond.selects RX5 yX5_change yX5_change, Cond.code yX5_change cX5_change 3 none, Cond.fieldLink RX5 9 "BranchPredictorModel" "counters" "[I", Cond.methodLink RX5 131 Lib.Math.min.name, Cond.static Lib.Math.min.name, Cond.initialized "java/lang/Math", Cond.code Lib.Math.min.name Lib.Math.min.code 2 (some .int), Cond.methodLink RX5 136 Lib.Math.max.name, Cond.static Lib.Math.max.name, Cond.code Lib.Math.max.name Lib.Math.max.code 2 (some .int), Cond.methodLink RX5 98 yX5_globalIndex, Cond.instanceMethod yX5_globalIndex, Cond.selects RX5 yX5_globalIndex yX5_globalIndex, Cond.code yX5_globalIndex cX5_globalIndex 3 (some .int), Cond.fieldLink RX5 65 "BranchPredictorModel" "g" "I", Cond.methodLink RX5 91 yX5_plainIndex, Cond.instanceMethod yX5_plainIndex, Cond.selects RX5 yX5_plainIndex yX5_plainIndex, Cond.code yX5_plainIndex cX5_plainIndex 2 (some .int), Cond.methodLink RX5 147 yX5_audit, Cond.instanceMethod yX5_audit, Cond.selects RX5 yX5_audit yX5_audit, Cond.code yX5_audit cX5_audit 5 none]
def wsX5_commit_r3 : List Cond := [Cond.fieldLink RX5 13 "BranchPredictorModel" "latestPlaces" "[I", Cond.fieldLink RX5 51 "BranchPredictorModel" "meetings" "[J", Cond.methodLink RX5 95 yX5_says, Cond.instanceMethod yX5_says, Cond.selects RX5 yX5_says yX5_says, Cond.code yX5_says cX5_says 2 (some .boolean), Cond.methodLink RX5 151 yX5_learnLoop, Cond.instanceMethod yX5_learnLoop, Cond.selects RX5 yX5_learnLoop yX5_learnLoop, Cond.code yX5_learnLoop cX5_learnLoop 5 none, Cond.fieldLink RX5 38 "BranchPredictorModel" "loopCounts" "[I", Cond.fieldLink RX5 32 "BranchPredictorModel" "isLoop" "[Z", Cond.fieldLink RX5 41 "BranchPredictorModel" "trips" "[I", Cond.fieldLink RX5 44 "BranchPredictorModel" "trusts" "[I", Cond.methodLink RX5 105 yX5_loopOf, Cond.instanceMethod yX5_loopOf, Cond.selects RX5 yX5_loopOf yX5_loopOf, Cond.code yX5_loopOf cX5_loopOf 3 (some .int), Cond.fieldLink RX5 35 "BranchPredictorModel" "loopPlaces" "[I", Cond.methodLink RX5 139 yX5_makeLoop, Cond.instanceMethod yX5_makeLoop, Cond.selects RX5 yX5_makeLoop yX5_makeLoop, Cond.code yX5_makeLoop cX5_makeLoop 4 none, Cond.methodLink RX5 84 yX5_failed]
def wsX5_commit_r4 : List Cond := [Cond.instanceMethod yX5_failed, Cond.selects RX5 yX5_failed yX5_failed, Cond.code yX5_failed cX5_failed 2 (some .boolean)]
def wsX5_commit : List Cond := .code yX5_commit cX5_commit 1 (some .boolean) :: ((wsX5_commit_r1 ++ (wsX5_commit_r2 ++ (wsX5_commit_r3 ++ wsX5_commit_r4))) ++ wsX50)
def wsX5_train_r1 : List Cond := [Cond.fieldLink RX5 58 "BranchPredictorModel" "thrown" "I", Cond.constant RX5 115 (65536), Cond.fieldLink RX5 74 "BranchPredictorModel" "flying" "I", Cond.methodLink RX5 84 yX5_failed, Cond.instanceMethod yX5_failed, Cond.selects RX5 yX5_failed yX5_failed, Cond.initialized RX5, Cond.code yX5_failed cX5_failed 2 (some .boolean), Cond.methodLink RX5 116 yX5_add, Cond.instanceMethod yX5_add, Cond.selects RX5 yX5_add yX5_add, Cond.code yX5_add cX5_add 5 (some .boolean), Cond.fieldLink RX5 22 "BranchPredictorModel" "predictions" "[Z", Cond.fieldLink RX5 71 "BranchPredictorModel" "history" "I", Cond.fieldLink RX5 44 "BranchPredictorModel" "trusts" "[I", Cond.fieldLink RX5 41 "BranchPredictorModel" "trips" "[I", Cond.fieldLink RX5 16 "BranchPredictorModel" "places" "[I", Cond.fieldLink RX5 19 "BranchPredictorModel" "histories" "[I", Cond.fieldLink RX5 26 "BranchPredictorModel" "areResolved" "[Z", Cond.methodLink RX5 91 yX5_plainIndex, Cond.instanceMethod yX5_plainIndex, Cond.selects RX5 yX5_plainIndex yX5_plainIndex, Cond.code yX5_plainIndex cX5_plainIndex 2 (some .int), Cond.fieldLink RX5 62 "BranchPredictorModel" "p" "I"]
def wsX5_train_r2 : List Cond := [Cond.methodLink RX5 95 yX5_says, Cond.instanceMethod yX5_says, Cond.selects RX5 yX5_says yX5_says, Cond.code yX5_says cX5_says 2 (some .boolean), Cond.fieldLink RX5 9 "BranchPredictorModel" "counters" "[I", Cond.methodLink RX5 98 yX5_globalIndex, Cond.instanceMethod yX5_globalIndex, Cond.selects RX5 yX5_globalIndex yX5_globalIndex, Cond.code yX5_globalIndex cX5_globalIndex 3 (some .int), Cond.fieldLink RX5 65 "BranchPredictorModel" "g" "I", Cond.methodLink RX5 102 yX5_choiceIndex, Cond.instanceMethod yX5_choiceIndex, Cond.selects RX5 yX5_choiceIndex yX5_choiceIndex, Cond.code yX5_choiceIndex cX5_choiceIndex 2 (some .int), Cond.methodLink RX5 105 yX5_loopOf, Cond.instanceMethod yX5_loopOf, Cond.selects RX5 yX5_loopOf yX5_loopOf, Cond.code yX5_loopOf cX5_loopOf 3 (some .int), Cond.fieldLink RX5 32 "BranchPredictorModel" "isLoop" "[Z", Cond.fieldLink RX5 35 "BranchPredictorModel" "loopPlaces" "[I", Cond.methodLink RX5 108 yX5_presumed, Cond.instanceMethod yX5_presumed, Cond.selects RX5 yX5_presumed yX5_presumed, Cond.code yX5_presumed cX5_presumed 4 (some .int)]
def wsX5_train_r3 : List Cond := [Cond.fieldLink RX5 38 "BranchPredictorModel" "loopCounts" "[I", Cond.methodLink RX5 88 yX5_isTaken, Cond.instanceMethod yX5_isTaken, Cond.selects RX5 yX5_isTaken yX5_isTaken, Cond.code yX5_isTaken cX5_isTaken 2 (some .boolean), Cond.fieldLink RX5 29 "BranchPredictorModel" "outcomes" "[Z", Cond.methodLink RX5 111 yX5_appended, Cond.instanceMethod yX5_appended, Cond.selects RX5 yX5_appended yX5_appended, Cond.code yX5_appended cX5_appended 3 (some .int), Cond.fieldLink RX5 68 "BranchPredictorModel" "h" "I", Cond.methodLink RX5 128 yX5_settle, Cond.instanceMethod yX5_settle, Cond.selects RX5 yX5_settle yX5_settle, Cond.code yX5_settle cX5_settle 4 (some .int), Cond.fieldLink RX5 81 "BranchPredictorModel" "drops" "J", Cond.methodLink RX5 119 yX5_isWrong, Cond.instanceMethod yX5_isWrong, Cond.selects RX5 yX5_isWrong yX5_isWrong, Cond.code yX5_isWrong cX5_isWrong 2 (some .boolean), Cond.methodLink RX5 155 yX5_learn, Cond.instanceMethod yX5_learn, Cond.selects RX5 yX5_learn yX5_learn, Cond.code yX5_learn cX5_learn 6 (some .boolean)]
def wsX5_train_r4 : List Cond := [Cond.fieldLink RX5 47 "BranchPredictorModel" "misses" "[J", Cond.fieldLink RX5 77 "BranchPredictorModel" "commits" "J", Cond.methodLink RX5 143 yX5_change, Cond.instanceMethod yX5_change, Cond.selects RX5 yX5_change yX5_change, Cond.code yX5_change cX5_change 3 none, Cond.methodLink RX5 131 Lib.Math.min.name, Cond.static Lib.Math.min.name, Cond.initialized "java/lang/Math", Cond.code Lib.Math.min.name Lib.Math.min.code 2 (some .int), Cond.methodLink RX5 136 Lib.Math.max.name, Cond.static Lib.Math.max.name, Cond.code Lib.Math.max.name Lib.Math.max.code 2 (some .int), Cond.methodLink RX5 147 yX5_audit, Cond.instanceMethod yX5_audit, Cond.selects RX5 yX5_audit yX5_audit, Cond.code yX5_audit cX5_audit 5 none, Cond.fieldLink RX5 13 "BranchPredictorModel" "latestPlaces" "[I", Cond.fieldLink RX5 51 "BranchPredictorModel" "meetings" "[J", Cond.methodLink RX5 151 yX5_learnLoop, Cond.instanceMethod yX5_learnLoop, Cond.selects RX5 yX5_learnLoop yX5_learnLoop, Cond.code yX5_learnLoop cX5_learnLoop 5 none, Cond.methodLink RX5 139 yX5_makeLoop]
def wsX5_train_r5 : List Cond := [Cond.instanceMethod yX5_makeLoop, Cond.selects RX5 yX5_makeLoop yX5_makeLoop, Cond.code yX5_makeLoop cX5_makeLoop 4 none]
def wsX5_train : List Cond := .code yX5_train cX5_train 3 (some .boolean) :: ((wsX5_train_r1 ++ (wsX5_train_r2 ++ (wsX5_train_r3 ++ (wsX5_train_r4 ++ wsX5_train_r5)))) ++ wsX50)
def wsX5_flush : List Cond := .code yX5_flush cX5_flush 2 (some .int) :: ([.fieldLink RX5 58 "BranchPredictorModel" "thrown" "I", .fieldLink RX5 74 "BranchPredictorModel" "flying" "I", .fieldLink RX5 81 "BranchPredictorModel" "drops" "J", .fieldLink RX5 19 "BranchPredictorModel" "histories" "[I", .fieldLink RX5 71 "BranchPredictorModel" "history" "I", .methodLink RX5 125 yX5_fail, .instanceMethod yX5_fail, .selects RX5 yX5_fail yX5_fail, .initialized RX5, .code yX5_fail cX5_fail 2 (some .int)] ++ wsX50)
def wsX5_inFlight : List Cond := .code yX5_inFlight cX5_inFlight 1 (some .int) :: ([.fieldLink RX5 58 "BranchPredictorModel" "thrown" "I", .fieldLink RX5 74 "BranchPredictorModel" "flying" "I"] ++ wsX50)
def wsX5_place : List Cond := .code yX5_place cX5_place 2 (some .int) :: ([.fieldLink RX5 58 "BranchPredictorModel" "thrown" "I", .fieldLink RX5 16 "BranchPredictorModel" "places" "[I", .methodLink RX5 122 yX5_isFlying, .instanceMethod yX5_isFlying, .selects RX5 yX5_isFlying yX5_isFlying, .initialized RX5, .code yX5_isFlying cX5_isFlying 2 (some .boolean), .fieldLink RX5 74 "BranchPredictorModel" "flying" "I", .methodLink RX5 125 yX5_fail, .instanceMethod yX5_fail, .selects RX5 yX5_fail yX5_fail, .code yX5_fail cX5_fail 2 (some .int)] ++ wsX50)
def wsX5_stateOf : List Cond := .code yX5_stateOf cX5_stateOf 2 (some .int) :: ([.fieldLink RX5 26 "BranchPredictorModel" "areResolved" "[Z", .methodLink RX5 119 yX5_isWrong, .instanceMethod yX5_isWrong, .selects RX5 yX5_isWrong yX5_isWrong, .initialized RX5, .code yX5_isWrong cX5_isWrong 2 (some .boolean), .fieldLink RX5 29 "BranchPredictorModel" "outcomes" "[Z", .fieldLink RX5 22 "BranchPredictorModel" "predictions" "[Z"] ++ wsX50)
def wsX5_state : List Cond := .code yX5_state cX5_state 2 (some .int) :: ([.fieldLink RX5 58 "BranchPredictorModel" "thrown" "I", .methodLink RX5 122 yX5_isFlying, .instanceMethod yX5_isFlying, .selects RX5 yX5_isFlying yX5_isFlying, .initialized RX5, .code yX5_isFlying cX5_isFlying 2 (some .boolean), .fieldLink RX5 74 "BranchPredictorModel" "flying" "I", .methodLink RX5 159 yX5_stateOf, .instanceMethod yX5_stateOf, .selects RX5 yX5_stateOf yX5_stateOf, .code yX5_stateOf cX5_stateOf 2 (some .int), .fieldLink RX5 26 "BranchPredictorModel" "areResolved" "[Z", .methodLink RX5 119 yX5_isWrong, .instanceMethod yX5_isWrong, .selects RX5 yX5_isWrong yX5_isWrong, .code yX5_isWrong cX5_isWrong 2 (some .boolean), .fieldLink RX5 29 "BranchPredictorModel" "outcomes" "[Z", .fieldLink RX5 22 "BranchPredictorModel" "predictions" "[Z", .methodLink RX5 125 yX5_fail, .instanceMethod yX5_fail, .selects RX5 yX5_fail yX5_fail, .code yX5_fail cX5_fail 2 (some .int)] ++ wsX50)
def wsX5_isKind : List Cond := .code yX5_isKind cX5_isKind 1 (some .boolean) :: ([])
def wsX5_predicted : List Cond := .code yX5_predicted cX5_predicted 3 (some .boolean) :: ([.fieldLink RX5 58 "BranchPredictorModel" "thrown" "I", .fieldLink RX5 22 "BranchPredictorModel" "predictions" "[Z", .methodLink RX5 122 yX5_isFlying, .instanceMethod yX5_isFlying, .selects RX5 yX5_isFlying yX5_isFlying, .initialized RX5, .code yX5_isFlying cX5_isFlying 2 (some .boolean), .fieldLink RX5 74 "BranchPredictorModel" "flying" "I", .methodLink RX5 162 yX5_isKind, .static yX5_isKind, .code yX5_isKind cX5_isKind 1 (some .boolean), .methodLink RX5 84 yX5_failed, .instanceMethod yX5_failed, .selects RX5 yX5_failed yX5_failed, .code yX5_failed cX5_failed 2 (some .boolean)] ++ wsX50)
def wsX5_history : List Cond := .code yX5_history cX5_history 1 (some .int) :: ([.fieldLink RX5 58 "BranchPredictorModel" "thrown" "I", .fieldLink RX5 71 "BranchPredictorModel" "history" "I"] ++ wsX50)
def wsX5_sizeOf : List Cond := .code yX5_sizeOf cX5_sizeOf 2 (some .int) :: ([.fieldLink RX5 65 "BranchPredictorModel" "g" "I", .fieldLink RX5 62 "BranchPredictorModel" "p" "I"] ++ wsX50)
def wsX5_counter : List Cond := .code yX5_counter cX5_counter 3 (some .int) :: ([.fieldLink RX5 58 "BranchPredictorModel" "thrown" "I", .fieldLink RX5 9 "BranchPredictorModel" "counters" "[I", .methodLink RX5 165 yX5_sizeOf, .instanceMethod yX5_sizeOf, .selects RX5 yX5_sizeOf yX5_sizeOf, .initialized RX5, .code yX5_sizeOf cX5_sizeOf 2 (some .int), .fieldLink RX5 65 "BranchPredictorModel" "g" "I", .fieldLink RX5 62 "BranchPredictorModel" "p" "I", .methodLink RX5 125 yX5_fail, .instanceMethod yX5_fail, .selects RX5 yX5_fail yX5_fail, .code yX5_fail cX5_fail 2 (some .int)] ++ wsX50)
def wsX5_ofLoop : List Cond := .code yX5_ofLoop cX5_ofLoop 3 (some .int) :: ([.fieldLink RX5 32 "BranchPredictorModel" "isLoop" "[Z", .fieldLink RX5 35 "BranchPredictorModel" "loopPlaces" "[I", .fieldLink RX5 38 "BranchPredictorModel" "loopCounts" "[I", .fieldLink RX5 41 "BranchPredictorModel" "trips" "[I", .fieldLink RX5 44 "BranchPredictorModel" "trusts" "[I", .methodLink RX5 108 yX5_presumed, .instanceMethod yX5_presumed, .selects RX5 yX5_presumed yX5_presumed, .initialized RX5, .code yX5_presumed cX5_presumed 4 (some .int), .fieldLink RX5 74 "BranchPredictorModel" "flying" "I", .fieldLink RX5 16 "BranchPredictorModel" "places" "[I", .methodLink RX5 88 yX5_isTaken, .instanceMethod yX5_isTaken, .selects RX5 yX5_isTaken yX5_isTaken, .code yX5_isTaken cX5_isTaken 2 (some .boolean), .fieldLink RX5 26 "BranchPredictorModel" "areResolved" "[Z", .fieldLink RX5 29 "BranchPredictorModel" "outcomes" "[Z", .fieldLink RX5 22 "BranchPredictorModel" "predictions" "[Z"] ++ wsX50)
def wsX5_loop_r1 : List Cond := [Cond.fieldLink RX5 58 "BranchPredictorModel" "thrown" "I", Cond.methodLink RX5 168 yX5_ofLoop, Cond.instanceMethod yX5_ofLoop, Cond.selects RX5 yX5_ofLoop yX5_ofLoop, Cond.initialized RX5, Cond.code yX5_ofLoop cX5_ofLoop 3 (some .int), Cond.fieldLink RX5 32 "BranchPredictorModel" "isLoop" "[Z", Cond.fieldLink RX5 35 "BranchPredictorModel" "loopPlaces" "[I", Cond.fieldLink RX5 38 "BranchPredictorModel" "loopCounts" "[I", Cond.fieldLink RX5 41 "BranchPredictorModel" "trips" "[I", Cond.fieldLink RX5 44 "BranchPredictorModel" "trusts" "[I", Cond.methodLink RX5 108 yX5_presumed, Cond.instanceMethod yX5_presumed, Cond.selects RX5 yX5_presumed yX5_presumed, Cond.code yX5_presumed cX5_presumed 4 (some .int), Cond.fieldLink RX5 74 "BranchPredictorModel" "flying" "I", Cond.fieldLink RX5 16 "BranchPredictorModel" "places" "[I", Cond.methodLink RX5 88 yX5_isTaken, Cond.instanceMethod yX5_isTaken, Cond.selects RX5 yX5_isTaken yX5_isTaken, Cond.code yX5_isTaken cX5_isTaken 2 (some .boolean), Cond.fieldLink RX5 26 "BranchPredictorModel" "areResolved" "[Z", Cond.fieldLink RX5 29 "BranchPredictorModel" "outcomes" "[Z", Cond.fieldLink RX5 22 "BranchPredictorModel" "predictions" "[Z"]
def wsX5_loop_r2 : List Cond := [Cond.methodLink RX5 125 yX5_fail, Cond.instanceMethod yX5_fail, Cond.selects RX5 yX5_fail yX5_fail, Cond.code yX5_fail cX5_fail 2 (some .int)]
def wsX5_loop : List Cond := .code yX5_loop cX5_loop 3 (some .int) :: ((wsX5_loop_r1 ++ wsX5_loop_r2) ++ wsX50)
def wsX5_commits : List Cond := .code yX5_commits cX5_commits 1 (some .long) :: ([.fieldLink RX5 58 "BranchPredictorModel" "thrown" "I", .fieldLink RX5 77 "BranchPredictorModel" "commits" "J"] ++ wsX50)
def wsX5_misses : List Cond := .code yX5_misses cX5_misses 2 (some .long) :: ([.fieldLink RX5 58 "BranchPredictorModel" "thrown" "I", .fieldLink RX5 47 "BranchPredictorModel" "misses" "[J", .methodLink RX5 162 yX5_isKind, .static yX5_isKind, .initialized RX5, .code yX5_isKind cX5_isKind 1 (some .boolean), .methodLink RX5 125 yX5_fail, .instanceMethod yX5_fail, .selects RX5 yX5_fail yX5_fail, .code yX5_fail cX5_fail 2 (some .int)] ++ wsX50)
def wsX5_drops : List Cond := .code yX5_drops cX5_drops 1 (some .long) :: ([.fieldLink RX5 58 "BranchPredictorModel" "thrown" "I", .fieldLink RX5 81 "BranchPredictorModel" "drops" "J"] ++ wsX50)
def wsX5_meetings : List Cond := .code yX5_meetings cX5_meetings 3 (some .long) :: ([.fieldLink RX5 58 "BranchPredictorModel" "thrown" "I", .fieldLink RX5 51 "BranchPredictorModel" "meetings" "[J", .methodLink RX5 125 yX5_fail, .instanceMethod yX5_fail, .selects RX5 yX5_fail yX5_fail, .initialized RX5, .code yX5_fail cX5_fail 2 (some .int)] ++ wsX50)
def wsX5_accuracy : List Cond := .code yX5_accuracy cX5_accuracy 1 (some .double) :: ([.fieldLink RX5 58 "BranchPredictorModel" "thrown" "I", .fieldLink RX5 77 "BranchPredictorModel" "commits" "J", .fieldLink RX5 47 "BranchPredictorModel" "misses" "[J"] ++ wsX50)
def wsX5_digest_r1 : List Cond := [Cond.fieldLink RX5 58 "BranchPredictorModel" "thrown" "I", Cond.constantLong RX5 171 (2201), Cond.fieldLink RX5 62 "BranchPredictorModel" "p" "I", Cond.constantLong RX5 173 (31), Cond.fieldLink RX5 65 "BranchPredictorModel" "g" "I", Cond.fieldLink RX5 68 "BranchPredictorModel" "h" "I", Cond.fieldLink RX5 71 "BranchPredictorModel" "history" "I", Cond.fieldLink RX5 9 "BranchPredictorModel" "counters" "[I", Cond.fieldLink RX5 74 "BranchPredictorModel" "flying" "I", Cond.fieldLink RX5 16 "BranchPredictorModel" "places" "[I", Cond.fieldLink RX5 77 "BranchPredictorModel" "commits" "J", Cond.fieldLink RX5 81 "BranchPredictorModel" "drops" "J", Cond.fieldLink RX5 51 "BranchPredictorModel" "meetings" "[J", Cond.methodLink RX5 165 yX5_sizeOf, Cond.instanceMethod yX5_sizeOf, Cond.selects RX5 yX5_sizeOf yX5_sizeOf, Cond.initialized RX5, Cond.code yX5_sizeOf cX5_sizeOf 2 (some .int), Cond.methodLink RX5 168 yX5_ofLoop, Cond.instanceMethod yX5_ofLoop, Cond.selects RX5 yX5_ofLoop yX5_ofLoop, Cond.code yX5_ofLoop cX5_ofLoop 3 (some .int), Cond.fieldLink RX5 32 "BranchPredictorModel" "isLoop" "[Z", Cond.fieldLink RX5 35 "BranchPredictorModel" "loopPlaces" "[I"]
def wsX5_digest_r2 : List Cond := [Cond.fieldLink RX5 38 "BranchPredictorModel" "loopCounts" "[I", Cond.fieldLink RX5 41 "BranchPredictorModel" "trips" "[I", Cond.fieldLink RX5 44 "BranchPredictorModel" "trusts" "[I", Cond.methodLink RX5 108 yX5_presumed, Cond.instanceMethod yX5_presumed, Cond.selects RX5 yX5_presumed yX5_presumed, Cond.code yX5_presumed cX5_presumed 4 (some .int), Cond.methodLink RX5 88 yX5_isTaken, Cond.instanceMethod yX5_isTaken, Cond.selects RX5 yX5_isTaken yX5_isTaken, Cond.code yX5_isTaken cX5_isTaken 2 (some .boolean), Cond.fieldLink RX5 26 "BranchPredictorModel" "areResolved" "[Z", Cond.fieldLink RX5 29 "BranchPredictorModel" "outcomes" "[Z", Cond.fieldLink RX5 22 "BranchPredictorModel" "predictions" "[Z", Cond.methodLink RX5 159 yX5_stateOf, Cond.instanceMethod yX5_stateOf, Cond.selects RX5 yX5_stateOf yX5_stateOf, Cond.code yX5_stateOf cX5_stateOf 2 (some .int), Cond.methodLink RX5 119 yX5_isWrong, Cond.instanceMethod yX5_isWrong, Cond.selects RX5 yX5_isWrong yX5_isWrong, Cond.code yX5_isWrong cX5_isWrong 2 (some .boolean)]
def wsX5_digest : List Cond := .code yX5_digest cX5_digest 5 (some .long) :: ((wsX5_digest_r1 ++ wsX5_digest_r2) ++ wsX50)
def wsJ9_max_7cf53 : List Cond := .code yJ9_max_7cf53 cJ9_max_7cf53 2 (some .int) :: ([])
def wsJ9_min_7cf53 : List Cond := .code yJ9_min_7cf53 cJ9_min_7cf53 2 (some .int) :: ([])
def wsL_setSizes_r1 : List Cond := [Cond.classLink RL 13 "java/lang/IllegalArgumentException", Cond.methodLink RL 7 yX4_setSizes, Cond.instanceMethod yX4_setSizes, Cond.selects RX4 yX4_setSizes yX4_setSizes, Cond.initialized RX4, Cond.code yX4_setSizes cX4_setSizes 5 (some .boolean), Cond.classLink RX4 68 "java/lang/IllegalArgumentException", Cond.initialized "java/lang/IllegalArgumentException", Cond.fieldLink RX4 48 "BranchPredictor" "plainBits" "I", Cond.fieldLink RX4 52 "BranchPredictor" "globalBits" "I", Cond.fieldLink RX4 55 "BranchPredictor" "historyBits" "I", Cond.methodLink RX4 64 yX4_isTableBits, Cond.static yX4_isTableBits, Cond.code yX4_isTableBits cX4_isTableBits 1 (some .boolean), Cond.methodLink RX4 60 yX4_startAnew, Cond.instanceMethod yX4_startAnew, Cond.selects RX4 yX4_startAnew yX4_startAnew, Cond.code yX4_startAnew cX4_startAnew 5 none, Cond.fieldLink RX4 12 "BranchPredictor" "plainTable" "LBranchPredictor$CounterTable;", Cond.fieldLink RX4 16 "BranchPredictor" "globalTable" "LBranchPredictor$CounterTable;", Cond.fieldLink RX4 19 "BranchPredictor" "choiceTable" "LBranchPredictor$CounterTable;", Cond.fieldLink RX4 25 "BranchPredictor" "plainAudit" "LBranchPredictor$Audit;", Cond.fieldLink RX4 29 "BranchPredictor" "globalAudit" "LBranchPredictor$Audit;", Cond.fieldLink RX4 40 "BranchPredictor" "loops" "[LBranchPredictor$Loop;"]
def wsL_setSizes_r2 : List Cond := [Cond.fieldLink RX4 157 "BranchPredictor$Loop" "place" "I", Cond.fieldLink RX4 44 "BranchPredictor" "missed" "[J", Cond.fieldLink RX4 119 "BranchPredictor" "outcomes" "I", Cond.fieldLink RX4 210 "BranchPredictor" "oldest" "I", Cond.fieldLink RX4 79 "BranchPredictor" "flying" "I", Cond.fieldLink RX4 171 "BranchPredictor" "committed" "J", Cond.fieldLink RX4 175 "BranchPredictor" "dropped" "J", Cond.methodLink RX4 206 yX2_startAnew, Cond.instanceMethod yX2_startAnew, Cond.selects RX2 yX2_startAnew yX2_startAnew, Cond.initialized RX2, Cond.code yX2_startAnew cX2_startAnew 3 none, Cond.fieldLink RX2 15 "BranchPredictor$CounterTable" "size" "I", Cond.fieldLink RX2 9 "BranchPredictor$CounterTable" "values" "[I", Cond.methodLink RX4 208 yX0_startAnew, Cond.instanceMethod yX0_startAnew, Cond.selects RX0 yX0_startAnew yX0_startAnew, Cond.initialized RX0, Cond.code yX0_startAnew cX0_startAnew 2 none, Cond.fieldLink RX0 9 "BranchPredictor$Audit" "latestPlaces" "[I", Cond.fieldLink RX0 15 "BranchPredictor$Audit" "allMeetings" "J", Cond.fieldLink RX0 19 "BranchPredictor$Audit" "harmfulMeetings" "J"]
def wsL_setSizes : List Cond := .codeWith yL_setSizes cL_setSizes 6 (some .int) [(0, 19, 22, 13)] :: ((wsL_setSizes_r1 ++ wsL_setSizes_r2) ++ wsX40 ++ wsX30 ++ wsX20 ++ wsX00 ++ (vx_atS RX4 72 "java/lang/IllegalArgumentException" ["java/lang/RuntimeException", "java/lang/Exception"]).filter goodWord)
def wsL_predict_r1 : List Cond := [Cond.classLink RL 13 "java/lang/IllegalArgumentException", Cond.classLink RL 19 "java/lang/IllegalStateException", Cond.methodLink RL 15 yX4_predict, Cond.instanceMethod yX4_predict, Cond.selects RX4 yX4_predict yX4_predict, Cond.initialized RX4, Cond.code yX4_predict cX4_predict 2 (some .boolean), Cond.classLink RX4 82 "java/lang/IllegalStateException", Cond.initialized "java/lang/IllegalStateException", Cond.fieldLink RX4 79 "BranchPredictor" "flying" "I", Cond.methodLink RX4 75 yX4_requirePlace, Cond.static yX4_requirePlace, Cond.code yX4_requirePlace cX4_requirePlace 1 none, Cond.classLink RX4 68 "java/lang/IllegalArgumentException", Cond.initialized "java/lang/IllegalArgumentException", Cond.constant RX4 199 (65535), Cond.methodLink RX4 87 yX4_launch, Cond.instanceMethod yX4_launch, Cond.selects RX4 yX4_launch yX4_launch, Cond.code yX4_launch cX4_launch 3 (some .boolean), Cond.fieldLink RX4 126 "BranchPredictor$Branch" "place" "I", Cond.fieldLink RX4 97 "BranchPredictor$Branch" "state" "I", Cond.fieldLink RX4 119 "BranchPredictor" "outcomes" "I", Cond.fieldLink RX4 116 "BranchPredictor$Branch" "historyAhead" "I"]
def wsL_predict_r2 : List Cond := [Cond.fieldLink RX4 12 "BranchPredictor" "plainTable" "LBranchPredictor$CounterTable;", Cond.fieldLink RX4 216 "BranchPredictor$Branch" "plainIndex" "I", Cond.fieldLink RX4 16 "BranchPredictor" "globalTable" "LBranchPredictor$CounterTable;", Cond.fieldLink RX4 219 "BranchPredictor$Branch" "globalIndex" "I", Cond.fieldLink RX4 225 "BranchPredictor$Branch" "isPlainTaken" "Z", Cond.fieldLink RX4 229 "BranchPredictor$Branch" "isGlobalTaken" "Z", Cond.fieldLink RX4 19 "BranchPredictor" "choiceTable" "LBranchPredictor$CounterTable;", Cond.fieldLink RX4 232 "BranchPredictor$Branch" "isChoiceTaken" "Z", Cond.fieldLink RX4 239 "BranchPredictor$Branch" "isPredictedTaken" "Z", Cond.methodLink RX4 93 yX4_branchAt, Cond.instanceMethod yX4_branchAt, Cond.selects RX4 yX4_branchAt yX4_branchAt, Cond.code yX4_branchAt cX4_branchAt 2 (some (.object "BranchPredictor$Branch")), Cond.fieldLink RX4 34 "BranchPredictor" "ring" "[LBranchPredictor$Branch;", Cond.fieldLink RX4 210 "BranchPredictor" "oldest" "I", Cond.methodLink RX4 213 yX2_indexFor, Cond.instanceMethod yX2_indexFor, Cond.selects RX2 yX2_indexFor yX2_indexFor, Cond.initialized RX2, Cond.code yX2_indexFor cX2_indexFor 2 (some .int), Cond.fieldLink RX2 15 "BranchPredictor$CounterTable" "size" "I", Cond.methodLink RX4 222 yX2_saysTaken, Cond.instanceMethod yX2_saysTaken, Cond.selects RX2 yX2_saysTaken yX2_saysTaken]
def wsL_predict_r3 : List Cond := [Cond.code yX2_saysTaken cX2_saysTaken 2 (some .boolean), Cond.methodLink RX2 19 yX2_valueAt, Cond.instanceMethod yX2_valueAt, Cond.selects RX2 yX2_valueAt yX2_valueAt, Cond.code yX2_valueAt cX2_valueAt 2 (some .int), Cond.fieldLink RX2 9 "BranchPredictor$CounterTable" "values" "[I", Cond.methodLink RX4 235 yX4_loopPrediction, Cond.instanceMethod yX4_loopPrediction, Cond.selects RX4 yX4_loopPrediction yX4_loopPrediction, Cond.code yX4_loopPrediction cX4_loopPrediction 4 (some .boolean), Cond.fieldLink RX4 40 "BranchPredictor" "loops" "[LBranchPredictor$Loop;", Cond.fieldLink RX4 164 "BranchPredictor$Loop" "trust" "I", Cond.fieldLink RX4 161 "BranchPredictor$Loop" "trip" "I", Cond.methodLink RX4 245 yX4_loopWith, Cond.instanceMethod yX4_loopWith, Cond.selects RX4 yX4_loopWith yX4_loopWith, Cond.code yX4_loopWith cX4_loopWith 3 (some .int), Cond.fieldLink RX4 157 "BranchPredictor$Loop" "place" "I", Cond.methodLink RX4 167 yX4_presumedCount, Cond.instanceMethod yX4_presumedCount, Cond.selects RX4 yX4_presumedCount yX4_presumedCount, Cond.code yX4_presumedCount cX4_presumedCount 5 (some .int), Cond.fieldLink RX4 158 "BranchPredictor$Loop" "count" "I", Cond.methodLink RX4 248 yX1_isPresumedTaken]
def wsL_predict_r4 : List Cond := [Cond.instanceMethod yX1_isPresumedTaken, Cond.selects RX1 yX1_isPresumedTaken yX1_isPresumedTaken, Cond.initialized RX1, Cond.code yX1_isPresumedTaken cX1_isPresumedTaken 1 (some .boolean), Cond.fieldLink RX1 24 "BranchPredictor$Branch" "state" "I", Cond.fieldLink RX1 21 "BranchPredictor$Branch" "isPredictedTaken" "Z", Cond.methodLink RX4 242 yX4_appended, Cond.instanceMethod yX4_appended, Cond.selects RX4 yX4_appended yX4_appended, Cond.code yX4_appended cX4_appended 4 (some .int), Cond.fieldLink RX4 55 "BranchPredictor" "historyBits" "I"]
def wsL_predict : List Cond := .codeWith yL_predict cL_predict 4 (some .int) [(0, 16, 19, 13), (0, 16, 22, 19)] :: ((wsL_predict_r1 ++ (wsL_predict_r2 ++ (wsL_predict_r3 ++ wsL_predict_r4))) ++ wsX40 ++ wsX10 ++ wsX20 ++ wsX30 ++ (vx_atS RX4 86 "java/lang/IllegalStateException" ["java/lang/RuntimeException", "java/lang/Exception"]).filter goodWord ++ (vx_atS RX4 72 "java/lang/IllegalArgumentException" ["java/lang/RuntimeException", "java/lang/Exception"]).filter goodWord)
def wsL_resolve_r1 : List Cond := [Cond.classLink RL 25 "java/lang/IndexOutOfBoundsException", Cond.classLink RL 19 "java/lang/IllegalStateException", Cond.methodLink RL 21 yX4_resolve, Cond.instanceMethod yX4_resolve, Cond.selects RX4 yX4_resolve yX4_resolve, Cond.initialized RX4, Cond.code yX4_resolve cX4_resolve 3 (some .int), Cond.classLink RX4 82 "java/lang/IllegalStateException", Cond.initialized "java/lang/IllegalStateException", Cond.fieldLink RX4 97 "BranchPredictor$Branch" "state" "I", Cond.methodLink RX4 90 yX4_requireInFlight, Cond.instanceMethod yX4_requireInFlight, Cond.selects RX4 yX4_requireInFlight yX4_requireInFlight, Cond.code yX4_requireInFlight cX4_requireInFlight 2 none, Cond.classLink RX4 135 "java/lang/IndexOutOfBoundsException", Cond.initialized "java/lang/IndexOutOfBoundsException", Cond.fieldLink RX4 79 "BranchPredictor" "flying" "I", Cond.methodLink RX4 93 yX4_branchAt, Cond.instanceMethod yX4_branchAt, Cond.selects RX4 yX4_branchAt yX4_branchAt, Cond.code yX4_branchAt cX4_branchAt 2 (some (.object "BranchPredictor$Branch")), Cond.fieldLink RX4 34 "BranchPredictor" "ring" "[LBranchPredictor$Branch;", Cond.fieldLink RX4 210 "BranchPredictor" "oldest" "I", Cond.methodLink RX4 102 yX4_settle]
def wsL_resolve_r2 : List Cond := [Cond.instanceMethod yX4_settle, Cond.selects RX4 yX4_settle yX4_settle, Cond.code yX4_settle cX4_settle 4 (some .int), Cond.fieldLink RX4 239 "BranchPredictor$Branch" "isPredictedTaken" "Z", Cond.fieldLink RX4 116 "BranchPredictor$Branch" "historyAhead" "I", Cond.fieldLink RX4 119 "BranchPredictor" "outcomes" "I", Cond.methodLink RX4 242 yX4_appended, Cond.instanceMethod yX4_appended, Cond.selects RX4 yX4_appended yX4_appended, Cond.code yX4_appended cX4_appended 4 (some .int), Cond.fieldLink RX4 55 "BranchPredictor" "historyBits" "I", Cond.methodLink RX4 122 yX4_dropFrom, Cond.instanceMethod yX4_dropFrom, Cond.selects RX4 yX4_dropFrom yX4_dropFrom, Cond.code yX4_dropFrom cX4_dropFrom 3 (some .int), Cond.fieldLink RX4 175 "BranchPredictor" "dropped" "J"]
def wsL_resolve : List Cond := .codeWith yL_resolve cL_resolve 5 (some .int) [(0, 10, 13, 25), (0, 10, 17, 19)] :: ((wsL_resolve_r1 ++ wsL_resolve_r2) ++ wsX10 ++ wsX40 ++ (vx_atS RX4 86 "java/lang/IllegalStateException" ["java/lang/RuntimeException", "java/lang/Exception"]).filter goodWord ++ (vx_atS RX4 139 "java/lang/IndexOutOfBoundsException" ["java/lang/RuntimeException", "java/lang/Exception"]).filter goodWord)
def wsL_commit_r1 : List Cond := [Cond.classLink RL 19 "java/lang/IllegalStateException", Cond.methodLink RL 27 yX4_commit, Cond.instanceMethod yX4_commit, Cond.selects RX4 yX4_commit yX4_commit, Cond.initialized RX4, Cond.code yX4_commit cX4_commit 1 (some .boolean), Cond.classLink RX4 82 "java/lang/IllegalStateException", Cond.initialized "java/lang/IllegalStateException", Cond.fieldLink RX4 79 "BranchPredictor" "flying" "I", Cond.fieldLink RX4 97 "BranchPredictor$Branch" "state" "I", Cond.methodLink RX4 93 yX4_branchAt, Cond.instanceMethod yX4_branchAt, Cond.selects RX4 yX4_branchAt yX4_branchAt, Cond.code yX4_branchAt cX4_branchAt 2 (some (.object "BranchPredictor$Branch")), Cond.fieldLink RX4 34 "BranchPredictor" "ring" "[LBranchPredictor$Branch;", Cond.fieldLink RX4 210 "BranchPredictor" "oldest" "I", Cond.methodLink RX4 108 yX4_retire, Cond.instanceMethod yX4_retire, Cond.selects RX4 yX4_retire yX4_retire, Cond.code yX4_retire cX4_retire 3 (some .boolean), Cond.fieldLink RX4 12 "BranchPredictor" "plainTable" "LBranchPredictor$CounterTable;", Cond.fieldLink RX4 25 "BranchPredictor" "plainAudit" "LBranchPredictor$Audit;", Cond.fieldLink RX4 216 "BranchPredictor$Branch" "plainIndex" "I", Cond.fieldLink RX4 126 "BranchPredictor$Branch" "place" "I"]
def wsL_commit_r2 : List Cond := [Cond.fieldLink RX4 16 "BranchPredictor" "globalTable" "LBranchPredictor$CounterTable;", Cond.fieldLink RX4 29 "BranchPredictor" "globalAudit" "LBranchPredictor$Audit;", Cond.fieldLink RX4 219 "BranchPredictor$Branch" "globalIndex" "I", Cond.fieldLink RX4 171 "BranchPredictor" "committed" "J", Cond.methodLink RX4 248 yX1_isPresumedTaken, Cond.instanceMethod yX1_isPresumedTaken, Cond.selects RX1 yX1_isPresumedTaken yX1_isPresumedTaken, Cond.initialized RX1, Cond.code yX1_isPresumedTaken cX1_isPresumedTaken 1 (some .boolean), Cond.fieldLink RX1 24 "BranchPredictor$Branch" "state" "I", Cond.fieldLink RX1 21 "BranchPredictor$Branch" "isPredictedTaken" "Z", Cond.methodLink RX4 251 yX4_countMisses, Cond.instanceMethod yX4_countMisses, Cond.selects RX4 yX4_countMisses yX4_countMisses, Cond.code yX4_countMisses cX4_countMisses 4 none, Cond.fieldLink RX4 44 "BranchPredictor" "missed" "[J", Cond.methodLink RX4 132 yX1_saidTaken, Cond.instanceMethod yX1_saidTaken, Cond.selects RX1 yX1_saidTaken yX1_saidTaken, Cond.code yX1_saidTaken cX1_saidTaken 2 (some .boolean), Cond.fieldLink RX1 9 "BranchPredictor$Branch" "isPlainTaken" "Z", Cond.fieldLink RX1 15 "BranchPredictor$Branch" "isGlobalTaken" "Z", Cond.fieldLink RX1 18 "BranchPredictor$Branch" "isChoiceTaken" "Z", Cond.methodLink RX4 255 yX4_learnChoice]
def wsL_commit_r3 : List Cond := [Cond.instanceMethod yX4_learnChoice, Cond.selects RX4 yX4_learnChoice yX4_learnChoice, Cond.code yX4_learnChoice cX4_learnChoice 3 none, Cond.fieldLink RX4 225 "BranchPredictor$Branch" "isPlainTaken" "Z", Cond.fieldLink RX4 229 "BranchPredictor$Branch" "isGlobalTaken" "Z", Cond.fieldLink RX4 19 "BranchPredictor" "choiceTable" "LBranchPredictor$CounterTable;", Cond.methodLink RX4 265 yX2_move, Cond.instanceMethod yX2_move, Cond.selects RX2 yX2_move yX2_move, Cond.initialized RX2, Cond.code yX2_move cX2_move 5 none, Cond.methodLink RX2 23 Lib.Math.min.name, Cond.static Lib.Math.min.name, Cond.initialized "java/lang/Math", Cond.code Lib.Math.min.name Lib.Math.min.code 2 (some .int), Cond.methodLink RX2 29 Lib.Math.max.name, Cond.static Lib.Math.max.name, Cond.code Lib.Math.max.name Lib.Math.max.code 2 (some .int), Cond.fieldLink RX2 9 "BranchPredictor$CounterTable" "values" "[I", Cond.methodLink RX2 19 yX2_valueAt, Cond.instanceMethod yX2_valueAt, Cond.selects RX2 yX2_valueAt yX2_valueAt, Cond.code yX2_valueAt cX2_valueAt 2 (some .int), Cond.methodLink RX4 258 yX4_learnOutcome]
def wsL_commit_r4 : List Cond := [Cond.static yX4_learnOutcome, Cond.code yX4_learnOutcome cX4_learnOutcome 5 none, Cond.methodLink RX4 222 yX2_saysTaken, Cond.instanceMethod yX2_saysTaken, Cond.selects RX2 yX2_saysTaken yX2_saysTaken, Cond.code yX2_saysTaken cX2_saysTaken 2 (some .boolean), Cond.methodLink RX4 269 yX0_note, Cond.instanceMethod yX0_note, Cond.selects RX0 yX0_note yX0_note, Cond.initialized RX0, Cond.code yX0_note cX0_note 6 none, Cond.fieldLink RX0 9 "BranchPredictor$Audit" "latestPlaces" "[I", Cond.fieldLink RX0 15 "BranchPredictor$Audit" "allMeetings" "J", Cond.fieldLink RX0 19 "BranchPredictor$Audit" "harmfulMeetings" "J", Cond.methodLink RX4 262 yX4_learnLoop, Cond.instanceMethod yX4_learnLoop, Cond.selects RX4 yX4_learnLoop yX4_learnLoop, Cond.code yX4_learnLoop cX4_learnLoop 4 none, Cond.fieldLink RX4 40 "BranchPredictor" "loops" "[LBranchPredictor$Loop;", Cond.methodLink RX4 245 yX4_loopWith, Cond.instanceMethod yX4_loopWith, Cond.selects RX4 yX4_loopWith yX4_loopWith, Cond.code yX4_loopWith cX4_loopWith 3 (some .int), Cond.fieldLink RX4 157 "BranchPredictor$Loop" "place" "I"]
def wsL_commit_r5 : List Cond := [Cond.methodLink RX4 273 yX3_learn, Cond.instanceMethod yX3_learn, Cond.selects RX3 yX3_learn yX3_learn, Cond.initialized RX3, Cond.code yX3_learn cX3_learn 2 none, Cond.fieldLink RX3 15 "BranchPredictor$Loop" "count" "I", Cond.fieldLink RX3 9 "BranchPredictor$Loop" "place" "I", Cond.fieldLink RX3 18 "BranchPredictor$Loop" "trip" "I", Cond.fieldLink RX3 21 "BranchPredictor$Loop" "trust" "I", Cond.methodLink RX3 24 Lib.Math.min.name, Cond.methodLink RX4 277 yX4_numberForNewLoop, Cond.instanceMethod yX4_numberForNewLoop, Cond.selects RX4 yX4_numberForNewLoop yX4_numberForNewLoop, Cond.code yX4_numberForNewLoop cX4_numberForNewLoop 3 (some .int), Cond.fieldLink RX4 164 "BranchPredictor$Loop" "trust" "I", Cond.methodLink RX4 154 yX3_isFree, Cond.instanceMethod yX3_isFree, Cond.selects RX3 yX3_isFree yX3_isFree, Cond.code yX3_isFree cX3_isFree 1 (some .boolean), Cond.methodLink RX4 281 yX3_startAnew, Cond.instanceMethod yX3_startAnew, Cond.selects RX3 yX3_startAnew yX3_startAnew, Cond.code yX3_startAnew cX3_startAnew 2 none]
def wsL_commit : List Cond := .codeWith yL_commit cL_commit 3 (some .int) [(0, 15, 18, 19)] :: ((wsL_commit_r1 ++ (wsL_commit_r2 ++ (wsL_commit_r3 ++ (wsL_commit_r4 ++ wsL_commit_r5)))) ++ wsX40 ++ wsX10 ++ wsX20 ++ wsX00 ++ wsX30 ++ (vx_atS RX4 86 "java/lang/IllegalStateException" ["java/lang/RuntimeException", "java/lang/Exception"]).filter goodWord)
def wsL_train_r1 : List Cond := [Cond.classLink RL 13 "java/lang/IllegalArgumentException", Cond.classLink RL 19 "java/lang/IllegalStateException", Cond.methodLink RL 31 yX4_train, Cond.instanceMethod yX4_train, Cond.selects RX4 yX4_train yX4_train, Cond.initialized RX4, Cond.code yX4_train cX4_train 3 (some .boolean), Cond.classLink RX4 82 "java/lang/IllegalStateException", Cond.initialized "java/lang/IllegalStateException", Cond.fieldLink RX4 79 "BranchPredictor" "flying" "I", Cond.methodLink RX4 75 yX4_requirePlace, Cond.static yX4_requirePlace, Cond.code yX4_requirePlace cX4_requirePlace 1 none, Cond.classLink RX4 68 "java/lang/IllegalArgumentException", Cond.initialized "java/lang/IllegalArgumentException", Cond.constant RX4 199 (65535), Cond.methodLink RX4 87 yX4_launch, Cond.instanceMethod yX4_launch, Cond.selects RX4 yX4_launch yX4_launch, Cond.code yX4_launch cX4_launch 3 (some .boolean), Cond.fieldLink RX4 126 "BranchPredictor$Branch" "place" "I", Cond.fieldLink RX4 97 "BranchPredictor$Branch" "state" "I", Cond.fieldLink RX4 119 "BranchPredictor" "outcomes" "I", Cond.fieldLink RX4 116 "BranchPredictor$Branch" "historyAhead" "I"]
def wsL_train_r2 : List Cond := [Cond.fieldLink RX4 12 "BranchPredictor" "plainTable" "LBranchPredictor$CounterTable;", Cond.fieldLink RX4 216 "BranchPredictor$Branch" "plainIndex" "I", Cond.fieldLink RX4 16 "BranchPredictor" "globalTable" "LBranchPredictor$CounterTable;", Cond.fieldLink RX4 219 "BranchPredictor$Branch" "globalIndex" "I", Cond.fieldLink RX4 225 "BranchPredictor$Branch" "isPlainTaken" "Z", Cond.fieldLink RX4 229 "BranchPredictor$Branch" "isGlobalTaken" "Z", Cond.fieldLink RX4 19 "BranchPredictor" "choiceTable" "LBranchPredictor$CounterTable;", Cond.fieldLink RX4 232 "BranchPredictor$Branch" "isChoiceTaken" "Z", Cond.fieldLink RX4 239 "BranchPredictor$Branch" "isPredictedTaken" "Z", Cond.methodLink RX4 93 yX4_branchAt, Cond.instanceMethod yX4_branchAt, Cond.selects RX4 yX4_branchAt yX4_branchAt, Cond.code yX4_branchAt cX4_branchAt 2 (some (.object "BranchPredictor$Branch")), Cond.fieldLink RX4 34 "BranchPredictor" "ring" "[LBranchPredictor$Branch;", Cond.fieldLink RX4 210 "BranchPredictor" "oldest" "I", Cond.methodLink RX4 213 yX2_indexFor, Cond.instanceMethod yX2_indexFor, Cond.selects RX2 yX2_indexFor yX2_indexFor, Cond.initialized RX2, Cond.code yX2_indexFor cX2_indexFor 2 (some .int), Cond.fieldLink RX2 15 "BranchPredictor$CounterTable" "size" "I", Cond.methodLink RX4 222 yX2_saysTaken, Cond.instanceMethod yX2_saysTaken, Cond.selects RX2 yX2_saysTaken yX2_saysTaken]
def wsL_train_r3 : List Cond := [Cond.code yX2_saysTaken cX2_saysTaken 2 (some .boolean), Cond.methodLink RX2 19 yX2_valueAt, Cond.instanceMethod yX2_valueAt, Cond.selects RX2 yX2_valueAt yX2_valueAt, Cond.code yX2_valueAt cX2_valueAt 2 (some .int), Cond.fieldLink RX2 9 "BranchPredictor$CounterTable" "values" "[I", Cond.methodLink RX4 235 yX4_loopPrediction, Cond.instanceMethod yX4_loopPrediction, Cond.selects RX4 yX4_loopPrediction yX4_loopPrediction, Cond.code yX4_loopPrediction cX4_loopPrediction 4 (some .boolean), Cond.fieldLink RX4 40 "BranchPredictor" "loops" "[LBranchPredictor$Loop;", Cond.fieldLink RX4 164 "BranchPredictor$Loop" "trust" "I", Cond.fieldLink RX4 161 "BranchPredictor$Loop" "trip" "I", Cond.methodLink RX4 245 yX4_loopWith, Cond.instanceMethod yX4_loopWith, Cond.selects RX4 yX4_loopWith yX4_loopWith, Cond.code yX4_loopWith cX4_loopWith 3 (some .int), Cond.fieldLink RX4 157 "BranchPredictor$Loop" "place" "I", Cond.methodLink RX4 167 yX4_presumedCount, Cond.instanceMethod yX4_presumedCount, Cond.selects RX4 yX4_presumedCount yX4_presumedCount, Cond.code yX4_presumedCount cX4_presumedCount 5 (some .int), Cond.fieldLink RX4 158 "BranchPredictor$Loop" "count" "I", Cond.methodLink RX4 248 yX1_isPresumedTaken]
def wsL_train_r4 : List Cond := [Cond.instanceMethod yX1_isPresumedTaken, Cond.selects RX1 yX1_isPresumedTaken yX1_isPresumedTaken, Cond.initialized RX1, Cond.code yX1_isPresumedTaken cX1_isPresumedTaken 1 (some .boolean), Cond.fieldLink RX1 24 "BranchPredictor$Branch" "state" "I", Cond.fieldLink RX1 21 "BranchPredictor$Branch" "isPredictedTaken" "Z", Cond.methodLink RX4 242 yX4_appended, Cond.instanceMethod yX4_appended, Cond.selects RX4 yX4_appended yX4_appended, Cond.code yX4_appended cX4_appended 4 (some .int), Cond.fieldLink RX4 55 "BranchPredictor" "historyBits" "I", Cond.methodLink RX4 102 yX4_settle, Cond.instanceMethod yX4_settle, Cond.selects RX4 yX4_settle yX4_settle, Cond.code yX4_settle cX4_settle 4 (some .int), Cond.methodLink RX4 122 yX4_dropFrom, Cond.instanceMethod yX4_dropFrom, Cond.selects RX4 yX4_dropFrom yX4_dropFrom, Cond.code yX4_dropFrom cX4_dropFrom 3 (some .int), Cond.fieldLink RX4 175 "BranchPredictor" "dropped" "J", Cond.methodLink RX4 108 yX4_retire, Cond.instanceMethod yX4_retire, Cond.selects RX4 yX4_retire yX4_retire, Cond.code yX4_retire cX4_retire 3 (some .boolean)]
def wsL_train_r5 : List Cond := [Cond.fieldLink RX4 25 "BranchPredictor" "plainAudit" "LBranchPredictor$Audit;", Cond.fieldLink RX4 29 "BranchPredictor" "globalAudit" "LBranchPredictor$Audit;", Cond.fieldLink RX4 171 "BranchPredictor" "committed" "J", Cond.methodLink RX4 251 yX4_countMisses, Cond.instanceMethod yX4_countMisses, Cond.selects RX4 yX4_countMisses yX4_countMisses, Cond.code yX4_countMisses cX4_countMisses 4 none, Cond.fieldLink RX4 44 "BranchPredictor" "missed" "[J", Cond.methodLink RX4 132 yX1_saidTaken, Cond.instanceMethod yX1_saidTaken, Cond.selects RX1 yX1_saidTaken yX1_saidTaken, Cond.code yX1_saidTaken cX1_saidTaken 2 (some .boolean), Cond.fieldLink RX1 9 "BranchPredictor$Branch" "isPlainTaken" "Z", Cond.fieldLink RX1 15 "BranchPredictor$Branch" "isGlobalTaken" "Z", Cond.fieldLink RX1 18 "BranchPredictor$Branch" "isChoiceTaken" "Z", Cond.methodLink RX4 255 yX4_learnChoice, Cond.instanceMethod yX4_learnChoice, Cond.selects RX4 yX4_learnChoice yX4_learnChoice, Cond.code yX4_learnChoice cX4_learnChoice 3 none, Cond.methodLink RX4 265 yX2_move, Cond.instanceMethod yX2_move, Cond.selects RX2 yX2_move yX2_move, Cond.code yX2_move cX2_move 5 none, Cond.methodLink RX2 23 Lib.Math.min.name]
def wsL_train_r6 : List Cond := [Cond.static Lib.Math.min.name, Cond.initialized "java/lang/Math", Cond.code Lib.Math.min.name Lib.Math.min.code 2 (some .int), Cond.methodLink RX2 29 Lib.Math.max.name, Cond.static Lib.Math.max.name, Cond.code Lib.Math.max.name Lib.Math.max.code 2 (some .int), Cond.methodLink RX4 258 yX4_learnOutcome, Cond.static yX4_learnOutcome, Cond.code yX4_learnOutcome cX4_learnOutcome 5 none, Cond.methodLink RX4 269 yX0_note, Cond.instanceMethod yX0_note, Cond.selects RX0 yX0_note yX0_note, Cond.initialized RX0, Cond.code yX0_note cX0_note 6 none, Cond.fieldLink RX0 9 "BranchPredictor$Audit" "latestPlaces" "[I", Cond.fieldLink RX0 15 "BranchPredictor$Audit" "allMeetings" "J", Cond.fieldLink RX0 19 "BranchPredictor$Audit" "harmfulMeetings" "J", Cond.methodLink RX4 262 yX4_learnLoop, Cond.instanceMethod yX4_learnLoop, Cond.selects RX4 yX4_learnLoop yX4_learnLoop, Cond.code yX4_learnLoop cX4_learnLoop 4 none, Cond.methodLink RX4 273 yX3_learn, Cond.instanceMethod yX3_learn, Cond.selects RX3 yX3_learn yX3_learn]
def wsL_train_r7 : List Cond := [Cond.initialized RX3, Cond.code yX3_learn cX3_learn 2 none, Cond.fieldLink RX3 15 "BranchPredictor$Loop" "count" "I", Cond.fieldLink RX3 9 "BranchPredictor$Loop" "place" "I", Cond.fieldLink RX3 18 "BranchPredictor$Loop" "trip" "I", Cond.fieldLink RX3 21 "BranchPredictor$Loop" "trust" "I", Cond.methodLink RX3 24 Lib.Math.min.name, Cond.methodLink RX4 277 yX4_numberForNewLoop, Cond.instanceMethod yX4_numberForNewLoop, Cond.selects RX4 yX4_numberForNewLoop yX4_numberForNewLoop, Cond.code yX4_numberForNewLoop cX4_numberForNewLoop 3 (some .int), Cond.methodLink RX4 154 yX3_isFree, Cond.instanceMethod yX3_isFree, Cond.selects RX3 yX3_isFree yX3_isFree, Cond.code yX3_isFree cX3_isFree 1 (some .boolean), Cond.methodLink RX4 281 yX3_startAnew, Cond.instanceMethod yX3_startAnew, Cond.selects RX3 yX3_startAnew yX3_startAnew, Cond.code yX3_startAnew cX3_startAnew 2 none]
def wsL_train : List Cond := .codeWith yL_train cL_train 5 (some .int) [(0, 17, 20, 13), (0, 17, 24, 19)] :: ((wsL_train_r1 ++ (wsL_train_r2 ++ (wsL_train_r3 ++ (wsL_train_r4 ++ (wsL_train_r5 ++ (wsL_train_r6 ++ wsL_train_r7)))))) ++ wsX40 ++ wsX10 ++ wsX20 ++ wsX30 ++ wsX00 ++ (vx_atS RX4 86 "java/lang/IllegalStateException" ["java/lang/RuntimeException", "java/lang/Exception"]).filter goodWord ++ (vx_atS RX4 72 "java/lang/IllegalArgumentException" ["java/lang/RuntimeException", "java/lang/Exception"]).filter goodWord)
def wsL_flush : List Cond := .codeWith yL_flush cL_flush 4 (some .int) [(0, 9, 12, 13)] :: ([.classLink RL 13 "java/lang/IllegalArgumentException", .methodLink RL 35 yX4_flush, .instanceMethod yX4_flush, .selects RX4 yX4_flush yX4_flush, .initialized RX4, .code yX4_flush cX4_flush 3 (some .int), .classLink RX4 68 "java/lang/IllegalArgumentException", .initialized "java/lang/IllegalArgumentException", .fieldLink RX4 79 "BranchPredictor" "flying" "I", .fieldLink RX4 116 "BranchPredictor$Branch" "historyAhead" "I", .fieldLink RX4 119 "BranchPredictor" "outcomes" "I", .methodLink RX4 93 yX4_branchAt, .instanceMethod yX4_branchAt, .selects RX4 yX4_branchAt yX4_branchAt, .code yX4_branchAt cX4_branchAt 2 (some (.object "BranchPredictor$Branch")), .fieldLink RX4 34 "BranchPredictor" "ring" "[LBranchPredictor$Branch;", .fieldLink RX4 210 "BranchPredictor" "oldest" "I", .methodLink RX4 122 yX4_dropFrom, .instanceMethod yX4_dropFrom, .selects RX4 yX4_dropFrom yX4_dropFrom, .code yX4_dropFrom cX4_dropFrom 3 (some .int), .fieldLink RX4 175 "BranchPredictor" "dropped" "J"] ++ wsX40 ++ wsX10 ++ (vx_atS RX4 72 "java/lang/IllegalArgumentException" ["java/lang/RuntimeException", "java/lang/Exception"]).filter goodWord)
def wsL_place : List Cond := .codeWith yL_place cL_place 4 (some .int) [(0, 9, 12, 25)] :: ([.classLink RL 25 "java/lang/IndexOutOfBoundsException", .methodLink RL 39 yX4_place, .instanceMethod yX4_place, .selects RX4 yX4_place yX4_place, .initialized RX4, .code yX4_place cX4_place 2 (some .int), .fieldLink RX4 126 "BranchPredictor$Branch" "place" "I", .methodLink RX4 90 yX4_requireInFlight, .instanceMethod yX4_requireInFlight, .selects RX4 yX4_requireInFlight yX4_requireInFlight, .code yX4_requireInFlight cX4_requireInFlight 2 none, .classLink RX4 135 "java/lang/IndexOutOfBoundsException", .initialized "java/lang/IndexOutOfBoundsException", .fieldLink RX4 79 "BranchPredictor" "flying" "I", .methodLink RX4 93 yX4_branchAt, .instanceMethod yX4_branchAt, .selects RX4 yX4_branchAt yX4_branchAt, .code yX4_branchAt cX4_branchAt 2 (some (.object "BranchPredictor$Branch")), .fieldLink RX4 34 "BranchPredictor" "ring" "[LBranchPredictor$Branch;", .fieldLink RX4 210 "BranchPredictor" "oldest" "I"] ++ wsX10 ++ wsX40 ++ (vx_atS RX4 139 "java/lang/IndexOutOfBoundsException" ["java/lang/RuntimeException", "java/lang/Exception"]).filter goodWord)
def wsL_state : List Cond := .codeWith yL_state cL_state 4 (some .int) [(0, 9, 12, 25)] :: ([.classLink RL 25 "java/lang/IndexOutOfBoundsException", .methodLink RL 42 yX4_state, .instanceMethod yX4_state, .selects RX4 yX4_state yX4_state, .initialized RX4, .code yX4_state cX4_state 2 (some .int), .fieldLink RX4 97 "BranchPredictor$Branch" "state" "I", .methodLink RX4 90 yX4_requireInFlight, .instanceMethod yX4_requireInFlight, .selects RX4 yX4_requireInFlight yX4_requireInFlight, .code yX4_requireInFlight cX4_requireInFlight 2 none, .classLink RX4 135 "java/lang/IndexOutOfBoundsException", .initialized "java/lang/IndexOutOfBoundsException", .fieldLink RX4 79 "BranchPredictor" "flying" "I", .methodLink RX4 93 yX4_branchAt, .instanceMethod yX4_branchAt, .selects RX4 yX4_branchAt yX4_branchAt, .code yX4_branchAt cX4_branchAt 2 (some (.object "BranchPredictor$Branch")), .fieldLink RX4 34 "BranchPredictor" "ring" "[LBranchPredictor$Branch;", .fieldLink RX4 210 "BranchPredictor" "oldest" "I"] ++ wsX10 ++ wsX40 ++ (vx_atS RX4 139 "java/lang/IndexOutOfBoundsException" ["java/lang/RuntimeException", "java/lang/Exception"]).filter goodWord)
def wsL_predicted_r1 : List Cond := [Cond.classLink RL 25 "java/lang/IndexOutOfBoundsException", Cond.methodLink RL 45 yX4_predicted, Cond.instanceMethod yX4_predicted, Cond.selects RX4 yX4_predicted yX4_predicted, Cond.initialized RX4, Cond.code yX4_predicted cX4_predicted 3 (some .boolean), Cond.methodLink RX4 90 yX4_requireInFlight, Cond.instanceMethod yX4_requireInFlight, Cond.selects RX4 yX4_requireInFlight yX4_requireInFlight, Cond.code yX4_requireInFlight cX4_requireInFlight 2 none, Cond.classLink RX4 135 "java/lang/IndexOutOfBoundsException", Cond.initialized "java/lang/IndexOutOfBoundsException", Cond.fieldLink RX4 79 "BranchPredictor" "flying" "I", Cond.methodLink RX4 129 yX4_requireKind, Cond.static yX4_requireKind, Cond.code yX4_requireKind cX4_requireKind 1 none, Cond.methodLink RX4 93 yX4_branchAt, Cond.instanceMethod yX4_branchAt, Cond.selects RX4 yX4_branchAt yX4_branchAt, Cond.code yX4_branchAt cX4_branchAt 2 (some (.object "BranchPredictor$Branch")), Cond.fieldLink RX4 34 "BranchPredictor" "ring" "[LBranchPredictor$Branch;", Cond.fieldLink RX4 210 "BranchPredictor" "oldest" "I", Cond.methodLink RX4 132 yX1_saidTaken, Cond.instanceMethod yX1_saidTaken]
def wsL_predicted_r2 : List Cond := [Cond.selects RX1 yX1_saidTaken yX1_saidTaken, Cond.initialized RX1, Cond.code yX1_saidTaken cX1_saidTaken 2 (some .boolean), Cond.fieldLink RX1 9 "BranchPredictor$Branch" "isPlainTaken" "Z", Cond.fieldLink RX1 15 "BranchPredictor$Branch" "isGlobalTaken" "Z", Cond.fieldLink RX1 18 "BranchPredictor$Branch" "isChoiceTaken" "Z", Cond.fieldLink RX1 21 "BranchPredictor$Branch" "isPredictedTaken" "Z"]
def wsL_predicted : List Cond := .codeWith yL_predicted cL_predicted 5 (some .int) [(0, 17, 20, 25)] :: ((wsL_predicted_r1 ++ wsL_predicted_r2) ++ wsX40 ++ wsX10 ++ (vx_atS RX4 139 "java/lang/IndexOutOfBoundsException" ["java/lang/RuntimeException", "java/lang/Exception"]).filter goodWord)
def wsL_counter : List Cond := .codeWith yL_counter cL_counter 5 (some .int) [(0, 10, 13, 25)] :: ([.classLink RL 25 "java/lang/IndexOutOfBoundsException", .methodLink RL 49 yX4_counter, .instanceMethod yX4_counter, .selects RX4 yX4_counter yX4_counter, .initialized RX4, .code yX4_counter cX4_counter 4 (some .int), .classLink RX4 135 "java/lang/IndexOutOfBoundsException", .initialized "java/lang/IndexOutOfBoundsException", .fieldLink RX4 144 "BranchPredictor$CounterTable" "size" "I", .methodLink RX4 140 yX4_tableWith, .instanceMethod yX4_tableWith, .selects RX4 yX4_tableWith yX4_tableWith, .code yX4_tableWith cX4_tableWith 2 (some (.object "BranchPredictor$CounterTable")), .fieldLink RX4 12 "BranchPredictor" "plainTable" "LBranchPredictor$CounterTable;", .fieldLink RX4 16 "BranchPredictor" "globalTable" "LBranchPredictor$CounterTable;", .fieldLink RX4 19 "BranchPredictor" "choiceTable" "LBranchPredictor$CounterTable;", .methodLink RX4 149 yX2_valueAt, .instanceMethod yX2_valueAt, .selects RX2 yX2_valueAt yX2_valueAt, .initialized RX2, .code yX2_valueAt cX2_valueAt 2 (some .int), .fieldLink RX2 9 "BranchPredictor$CounterTable" "values" "[I"] ++ wsX20 ++ wsX40 ++ (vx_atS RX4 139 "java/lang/IndexOutOfBoundsException" ["java/lang/RuntimeException", "java/lang/Exception"]).filter goodWord)
def wsL_loop_r1 : List Cond := [Cond.classLink RL 25 "java/lang/IndexOutOfBoundsException", Cond.methodLink RL 53 yX4_loop, Cond.instanceMethod yX4_loop, Cond.selects RX4 yX4_loop yX4_loop, Cond.initialized RX4, Cond.code yX4_loop cX4_loop 4 (some .int), Cond.classLink RX4 135 "java/lang/IndexOutOfBoundsException", Cond.initialized "java/lang/IndexOutOfBoundsException", Cond.fieldLink RX4 40 "BranchPredictor" "loops" "[LBranchPredictor$Loop;", Cond.fieldLink RX4 157 "BranchPredictor$Loop" "place" "I", Cond.fieldLink RX4 158 "BranchPredictor$Loop" "count" "I", Cond.fieldLink RX4 161 "BranchPredictor$Loop" "trip" "I", Cond.fieldLink RX4 164 "BranchPredictor$Loop" "trust" "I", Cond.methodLink RX4 154 yX3_isFree, Cond.instanceMethod yX3_isFree, Cond.selects RX3 yX3_isFree yX3_isFree, Cond.initialized RX3, Cond.code yX3_isFree cX3_isFree 1 (some .boolean), Cond.fieldLink RX3 9 "BranchPredictor$Loop" "place" "I", Cond.methodLink RX4 167 yX4_presumedCount, Cond.instanceMethod yX4_presumedCount, Cond.selects RX4 yX4_presumedCount yX4_presumedCount, Cond.code yX4_presumedCount cX4_presumedCount 5 (some .int), Cond.fieldLink RX4 79 "BranchPredictor" "flying" "I"]
def wsL_loop_r2 : List Cond := [Cond.fieldLink RX4 126 "BranchPredictor$Branch" "place" "I", Cond.methodLink RX4 93 yX4_branchAt, Cond.instanceMethod yX4_branchAt, Cond.selects RX4 yX4_branchAt yX4_branchAt, Cond.code yX4_branchAt cX4_branchAt 2 (some (.object "BranchPredictor$Branch")), Cond.fieldLink RX4 34 "BranchPredictor" "ring" "[LBranchPredictor$Branch;", Cond.fieldLink RX4 210 "BranchPredictor" "oldest" "I", Cond.methodLink RX4 248 yX1_isPresumedTaken, Cond.instanceMethod yX1_isPresumedTaken, Cond.selects RX1 yX1_isPresumedTaken yX1_isPresumedTaken, Cond.initialized RX1, Cond.code yX1_isPresumedTaken cX1_isPresumedTaken 1 (some .boolean), Cond.fieldLink RX1 24 "BranchPredictor$Branch" "state" "I", Cond.fieldLink RX1 21 "BranchPredictor$Branch" "isPredictedTaken" "Z"]
def wsL_loop : List Cond := .codeWith yL_loop cL_loop 5 (some .int) [(0, 10, 13, 25)] :: ((wsL_loop_r1 ++ wsL_loop_r2) ++ wsX40 ++ wsX30 ++ wsX10 ++ (vx_atS RX4 139 "java/lang/IndexOutOfBoundsException" ["java/lang/RuntimeException", "java/lang/Exception"]).filter goodWord)
def wsL_misses : List Cond := .codeWith yL_misses cL_misses 4 (some .int) [(0, 8, 11, 25)] :: ([.classLink RL 25 "java/lang/IndexOutOfBoundsException", .methodLink RL 56 yX4_misses, .instanceMethod yX4_misses, .selects RX4 yX4_misses yX4_misses, .initialized RX4, .code yX4_misses cX4_misses 2 (some .long), .fieldLink RX4 44 "BranchPredictor" "missed" "[J", .methodLink RX4 129 yX4_requireKind, .static yX4_requireKind, .code yX4_requireKind cX4_requireKind 1 none, .classLink RX4 135 "java/lang/IndexOutOfBoundsException", .initialized "java/lang/IndexOutOfBoundsException"] ++ wsX40 ++ (vx_atS RX4 139 "java/lang/IndexOutOfBoundsException" ["java/lang/RuntimeException", "java/lang/Exception"]).filter goodWord)
def wsL_meetings : List Cond := .codeWith yL_meetings cL_meetings 5 (some .int) [(0, 9, 12, 25)] :: ([.classLink RL 25 "java/lang/IndexOutOfBoundsException", .methodLink RL 60 yX4_meetings, .instanceMethod yX4_meetings, .selects RX4 yX4_meetings yX4_meetings, .initialized RX4, .code yX4_meetings cX4_meetings 4 (some .long), .classLink RX4 135 "java/lang/IndexOutOfBoundsException", .initialized "java/lang/IndexOutOfBoundsException", .fieldLink RX4 25 "BranchPredictor" "plainAudit" "LBranchPredictor$Audit;", .fieldLink RX4 29 "BranchPredictor" "globalAudit" "LBranchPredictor$Audit;", .fieldLink RX4 180 "BranchPredictor$Audit" "harmfulMeetings" "J", .fieldLink RX4 183 "BranchPredictor$Audit" "allMeetings" "J"] ++ wsX40 ++ wsX00 ++ (vx_atS RX4 139 "java/lang/IndexOutOfBoundsException" ["java/lang/RuntimeException", "java/lang/Exception"]).filter goodWord)
def wsL_law0_r1 : List Cond := [Cond.classLink RL 8 RX4, Cond.instantiable RX4 16, Cond.initialized RX4, Cond.classLink RL 65 RX5, Cond.instantiable RX5 22, Cond.initialized RX5, Cond.arrayClass .long, Cond.methodLink RL 64 yX4_init, Cond.instanceMethod yX4_init, Cond.code yX4_init cX4_init 2 none, Cond.methodLink RX4 3 objectInit, Cond.instanceMethod objectInit, Cond.code objectInit ⟨#[0xb1]⟩ 1 none, Cond.classLink RX4 9 RX2, Cond.instantiable RX2 2, Cond.initialized RX2, Cond.fieldLink RX4 12 "BranchPredictor" "plainTable" "LBranchPredictor$CounterTable;", Cond.fieldLink RX4 16 "BranchPredictor" "globalTable" "LBranchPredictor$CounterTable;", Cond.fieldLink RX4 19 "BranchPredictor" "choiceTable" "LBranchPredictor$CounterTable;", Cond.classLink RX4 22 RX0, Cond.instantiable RX0 3, Cond.initialized RX0, Cond.fieldLink RX4 25 "BranchPredictor" "plainAudit" "LBranchPredictor$Audit;", Cond.fieldLink RX4 29 "BranchPredictor" "globalAudit" "LBranchPredictor$Audit;"]
def wsL_law0_r2 : List Cond := [Cond.classLink RX4 32 RX1, Cond.fieldLink RX4 34 "BranchPredictor" "ring" "[LBranchPredictor$Branch;", Cond.classLink RX4 38 RX3, Cond.fieldLink RX4 40 "BranchPredictor" "loops" "[LBranchPredictor$Loop;", Cond.fieldLink RX4 44 "BranchPredictor" "missed" "[J", Cond.fieldLink RX4 48 "BranchPredictor" "plainBits" "I", Cond.fieldLink RX4 52 "BranchPredictor" "globalBits" "I", Cond.fieldLink RX4 55 "BranchPredictor" "historyBits" "I", Cond.instantiable RX1 9, Cond.initialized RX1, Cond.instantiable RX3 4, Cond.initialized RX3, Cond.instanceMethod yX2_init, Cond.code yX2_init cX2_init 1 none, Cond.methodLink RX2 3 objectInit, Cond.arrayClass .int, Cond.fieldLink RX2 9 "BranchPredictor$CounterTable" "values" "[I", Cond.fieldLink RX2 15 "BranchPredictor$CounterTable" "size" "I", Cond.instanceMethod yX0_init, Cond.code yX0_init cX0_init 1 none, Cond.methodLink RX0 3 objectInit, Cond.fieldLink RX0 9 "BranchPredictor$Audit" "latestPlaces" "[I", Cond.instanceMethod yX1_init, Cond.code yX1_init cX1_init 1 none]
def wsL_law0_r3 : List Cond := [Cond.methodLink RX1 3 objectInit, Cond.instanceMethod yX3_init, Cond.code yX3_init cX3_init 1 none, Cond.methodLink RX3 3 objectInit, Cond.fieldLink RX3 9 "BranchPredictor$Loop" "place" "I", Cond.methodLink RX4 60 yX4_startAnew, Cond.instanceMethod yX4_startAnew, Cond.selects RX4 yX4_startAnew yX4_startAnew, Cond.code yX4_startAnew cX4_startAnew 5 none, Cond.fieldLink RX4 157 "BranchPredictor$Loop" "place" "I", Cond.fieldLink RX4 119 "BranchPredictor" "outcomes" "I", Cond.fieldLink RX4 210 "BranchPredictor" "oldest" "I", Cond.fieldLink RX4 79 "BranchPredictor" "flying" "I", Cond.fieldLink RX4 171 "BranchPredictor" "committed" "J", Cond.fieldLink RX4 175 "BranchPredictor" "dropped" "J", Cond.methodLink RX4 206 yX2_startAnew, Cond.instanceMethod yX2_startAnew, Cond.selects RX2 yX2_startAnew yX2_startAnew, Cond.code yX2_startAnew cX2_startAnew 3 none, Cond.methodLink RX4 208 yX0_startAnew, Cond.instanceMethod yX0_startAnew, Cond.selects RX0 yX0_startAnew yX0_startAnew, Cond.code yX0_startAnew cX0_startAnew 2 none, Cond.fieldLink RX0 15 "BranchPredictor$Audit" "allMeetings" "J"]
def wsL_law0_r4 : List Cond := [Cond.fieldLink RX0 19 "BranchPredictor$Audit" "harmfulMeetings" "J", Cond.methodLink RL 67 yX5_init, Cond.instanceMethod yX5_init, Cond.code yX5_init cX5_init 1 none, Cond.methodLink RX5 1 objectInit, Cond.fieldLink RX5 9 "BranchPredictorModel" "counters" "[I", Cond.fieldLink RX5 13 "BranchPredictorModel" "latestPlaces" "[I", Cond.fieldLink RX5 16 "BranchPredictorModel" "places" "[I", Cond.fieldLink RX5 19 "BranchPredictorModel" "histories" "[I", Cond.arrayClass .boolean, Cond.fieldLink RX5 22 "BranchPredictorModel" "predictions" "[Z", Cond.fieldLink RX5 26 "BranchPredictorModel" "areResolved" "[Z", Cond.fieldLink RX5 29 "BranchPredictorModel" "outcomes" "[Z", Cond.fieldLink RX5 32 "BranchPredictorModel" "isLoop" "[Z", Cond.fieldLink RX5 35 "BranchPredictorModel" "loopPlaces" "[I", Cond.fieldLink RX5 38 "BranchPredictorModel" "loopCounts" "[I", Cond.fieldLink RX5 41 "BranchPredictorModel" "trips" "[I", Cond.fieldLink RX5 44 "BranchPredictorModel" "trusts" "[I", Cond.fieldLink RX5 47 "BranchPredictorModel" "misses" "[J", Cond.fieldLink RX5 51 "BranchPredictorModel" "meetings" "[J", Cond.methodLink RX5 54 yX5_begin, Cond.instanceMethod yX5_begin, Cond.selects RX5 yX5_begin yX5_begin, Cond.code yX5_begin cX5_begin 5 none]
def wsL_law0_r5 : List Cond := [Cond.fieldLink RX5 62 "BranchPredictorModel" "p" "I", Cond.fieldLink RX5 65 "BranchPredictorModel" "g" "I", Cond.fieldLink RX5 68 "BranchPredictorModel" "h" "I", Cond.fieldLink RX5 71 "BranchPredictorModel" "history" "I", Cond.fieldLink RX5 74 "BranchPredictorModel" "flying" "I", Cond.fieldLink RX5 77 "BranchPredictorModel" "commits" "J", Cond.fieldLink RX5 81 "BranchPredictorModel" "drops" "J", Cond.methodLink RL 68 yL_setSizes, Cond.static yL_setSizes, Cond.initialized RL, Cond.codeWith yL_setSizes cL_setSizes 6 (some .int) [(0, 19, 22, 13)], Cond.classLink RL 13 "java/lang/IllegalArgumentException", Cond.methodLink RL 7 yX4_setSizes, Cond.instanceMethod yX4_setSizes, Cond.selects RX4 yX4_setSizes yX4_setSizes, Cond.code yX4_setSizes cX4_setSizes 5 (some .boolean), Cond.classLink RX4 68 "java/lang/IllegalArgumentException", Cond.initialized "java/lang/IllegalArgumentException", Cond.methodLink RX4 64 yX4_isTableBits, Cond.static yX4_isTableBits, Cond.code yX4_isTableBits cX4_isTableBits 1 (some .boolean), Cond.methodLink RL 73 yX5_setSizes, Cond.instanceMethod yX5_setSizes, Cond.selects RX5 yX5_setSizes yX5_setSizes]
def wsL_law0_r6 : List Cond := [Cond.code yX5_setSizes cX5_setSizes 5 (some .boolean), Cond.fieldLink RX5 58 "BranchPredictorModel" "thrown" "I", Cond.methodLink RX5 84 yX5_failed, Cond.instanceMethod yX5_failed, Cond.selects RX5 yX5_failed yX5_failed, Cond.code yX5_failed cX5_failed 2 (some .boolean), Cond.methodLink RL 74 yX5_thrown, Cond.instanceMethod yX5_thrown, Cond.selects RX5 yX5_thrown yX5_thrown, Cond.code yX5_thrown cX5_thrown 1 (some .int), Cond.methodLink RL 78 yL_predict, Cond.static yL_predict, Cond.codeWith yL_predict cL_predict 4 (some .int) [(0, 16, 19, 13), (0, 16, 22, 19)], Cond.classLink RL 19 "java/lang/IllegalStateException", Cond.methodLink RL 15 yX4_predict, Cond.instanceMethod yX4_predict, Cond.selects RX4 yX4_predict yX4_predict, Cond.code yX4_predict cX4_predict 2 (some .boolean), Cond.classLink RX4 82 "java/lang/IllegalStateException", Cond.initialized "java/lang/IllegalStateException", Cond.methodLink RX4 75 yX4_requirePlace, Cond.static yX4_requirePlace, Cond.code yX4_requirePlace cX4_requirePlace 1 none, Cond.constant RX4 199 (65535)]
def wsL_law0_r7 : List Cond := [Cond.methodLink RX4 87 yX4_launch, Cond.instanceMethod yX4_launch, Cond.selects RX4 yX4_launch yX4_launch, Cond.code yX4_launch cX4_launch 3 (some .boolean), Cond.fieldLink RX4 126 "BranchPredictor$Branch" "place" "I", Cond.fieldLink RX4 97 "BranchPredictor$Branch" "state" "I", Cond.fieldLink RX4 116 "BranchPredictor$Branch" "historyAhead" "I", Cond.fieldLink RX4 216 "BranchPredictor$Branch" "plainIndex" "I", Cond.fieldLink RX4 219 "BranchPredictor$Branch" "globalIndex" "I", Cond.fieldLink RX4 225 "BranchPredictor$Branch" "isPlainTaken" "Z", Cond.fieldLink RX4 229 "BranchPredictor$Branch" "isGlobalTaken" "Z", Cond.fieldLink RX4 232 "BranchPredictor$Branch" "isChoiceTaken" "Z", Cond.fieldLink RX4 239 "BranchPredictor$Branch" "isPredictedTaken" "Z", Cond.methodLink RX4 93 yX4_branchAt, Cond.instanceMethod yX4_branchAt, Cond.selects RX4 yX4_branchAt yX4_branchAt, Cond.code yX4_branchAt cX4_branchAt 2 (some (.object "BranchPredictor$Branch")), Cond.methodLink RX4 213 yX2_indexFor, Cond.instanceMethod yX2_indexFor, Cond.selects RX2 yX2_indexFor yX2_indexFor, Cond.code yX2_indexFor cX2_indexFor 2 (some .int), Cond.methodLink RX4 222 yX2_saysTaken, Cond.instanceMethod yX2_saysTaken, Cond.selects RX2 yX2_saysTaken yX2_saysTaken]
def wsL_law0_r8 : List Cond := [Cond.code yX2_saysTaken cX2_saysTaken 2 (some .boolean), Cond.methodLink RX2 19 yX2_valueAt, Cond.instanceMethod yX2_valueAt, Cond.selects RX2 yX2_valueAt yX2_valueAt, Cond.code yX2_valueAt cX2_valueAt 2 (some .int), Cond.methodLink RX4 235 yX4_loopPrediction, Cond.instanceMethod yX4_loopPrediction, Cond.selects RX4 yX4_loopPrediction yX4_loopPrediction, Cond.code yX4_loopPrediction cX4_loopPrediction 4 (some .boolean), Cond.fieldLink RX4 164 "BranchPredictor$Loop" "trust" "I", Cond.fieldLink RX4 161 "BranchPredictor$Loop" "trip" "I", Cond.methodLink RX4 245 yX4_loopWith, Cond.instanceMethod yX4_loopWith, Cond.selects RX4 yX4_loopWith yX4_loopWith, Cond.code yX4_loopWith cX4_loopWith 3 (some .int), Cond.methodLink RX4 167 yX4_presumedCount, Cond.instanceMethod yX4_presumedCount, Cond.selects RX4 yX4_presumedCount yX4_presumedCount, Cond.code yX4_presumedCount cX4_presumedCount 5 (some .int), Cond.fieldLink RX4 158 "BranchPredictor$Loop" "count" "I", Cond.methodLink RX4 248 yX1_isPresumedTaken, Cond.instanceMethod yX1_isPresumedTaken, Cond.selects RX1 yX1_isPresumedTaken yX1_isPresumedTaken, Cond.code yX1_isPresumedTaken cX1_isPresumedTaken 1 (some .boolean)]
def wsL_law0_r9 : List Cond := [Cond.fieldLink RX1 24 "BranchPredictor$Branch" "state" "I", Cond.fieldLink RX1 21 "BranchPredictor$Branch" "isPredictedTaken" "Z", Cond.methodLink RX4 242 yX4_appended, Cond.instanceMethod yX4_appended, Cond.selects RX4 yX4_appended yX4_appended, Cond.code yX4_appended cX4_appended 4 (some .int), Cond.methodLink RL 81 yX5_predict, Cond.instanceMethod yX5_predict, Cond.selects RX5 yX5_predict yX5_predict, Cond.code yX5_predict cX5_predict 2 (some .boolean), Cond.constant RX5 115 (65536), Cond.methodLink RX5 116 yX5_add, Cond.instanceMethod yX5_add, Cond.selects RX5 yX5_add yX5_add, Cond.code yX5_add cX5_add 5 (some .boolean), Cond.methodLink RX5 91 yX5_plainIndex, Cond.instanceMethod yX5_plainIndex, Cond.selects RX5 yX5_plainIndex yX5_plainIndex, Cond.code yX5_plainIndex cX5_plainIndex 2 (some .int), Cond.methodLink RX5 95 yX5_says, Cond.instanceMethod yX5_says, Cond.selects RX5 yX5_says yX5_says, Cond.code yX5_says cX5_says 2 (some .boolean), Cond.methodLink RX5 98 yX5_globalIndex]
def wsL_law0_r10 : List Cond := [Cond.instanceMethod yX5_globalIndex, Cond.selects RX5 yX5_globalIndex yX5_globalIndex, Cond.code yX5_globalIndex cX5_globalIndex 3 (some .int), Cond.methodLink RX5 102 yX5_choiceIndex, Cond.instanceMethod yX5_choiceIndex, Cond.selects RX5 yX5_choiceIndex yX5_choiceIndex, Cond.code yX5_choiceIndex cX5_choiceIndex 2 (some .int), Cond.methodLink RX5 105 yX5_loopOf, Cond.instanceMethod yX5_loopOf, Cond.selects RX5 yX5_loopOf yX5_loopOf, Cond.code yX5_loopOf cX5_loopOf 3 (some .int), Cond.methodLink RX5 108 yX5_presumed, Cond.instanceMethod yX5_presumed, Cond.selects RX5 yX5_presumed yX5_presumed, Cond.code yX5_presumed cX5_presumed 4 (some .int), Cond.methodLink RX5 88 yX5_isTaken, Cond.instanceMethod yX5_isTaken, Cond.selects RX5 yX5_isTaken yX5_isTaken, Cond.code yX5_isTaken cX5_isTaken 2 (some .boolean), Cond.methodLink RX5 111 yX5_appended, Cond.instanceMethod yX5_appended, Cond.selects RX5 yX5_appended yX5_appended, Cond.code yX5_appended cX5_appended 3 (some .int), Cond.methodLink RL 82 yL_resolve]
def wsL_law0_r11 : List Cond := [Cond.static yL_resolve, Cond.codeWith yL_resolve cL_resolve 5 (some .int) [(0, 10, 13, 25), (0, 10, 17, 19)], Cond.classLink RL 25 "java/lang/IndexOutOfBoundsException", Cond.methodLink RL 21 yX4_resolve, Cond.instanceMethod yX4_resolve, Cond.selects RX4 yX4_resolve yX4_resolve, Cond.code yX4_resolve cX4_resolve 3 (some .int), Cond.methodLink RX4 90 yX4_requireInFlight, Cond.instanceMethod yX4_requireInFlight, Cond.selects RX4 yX4_requireInFlight yX4_requireInFlight, Cond.code yX4_requireInFlight cX4_requireInFlight 2 none, Cond.classLink RX4 135 "java/lang/IndexOutOfBoundsException", Cond.initialized "java/lang/IndexOutOfBoundsException", Cond.methodLink RX4 102 yX4_settle, Cond.instanceMethod yX4_settle, Cond.selects RX4 yX4_settle yX4_settle, Cond.code yX4_settle cX4_settle 4 (some .int), Cond.methodLink RX4 122 yX4_dropFrom, Cond.instanceMethod yX4_dropFrom, Cond.selects RX4 yX4_dropFrom yX4_dropFrom, Cond.code yX4_dropFrom cX4_dropFrom 3 (some .int), Cond.methodLink RL 85 yX5_resolve, Cond.instanceMethod yX5_resolve, Cond.selects RX5 yX5_resolve yX5_resolve]
def wsL_law0_r12 : List Cond := [Cond.code yX5_resolve cX5_resolve 3 (some .int), Cond.methodLink RX5 122 yX5_isFlying, Cond.instanceMethod yX5_isFlying, Cond.selects RX5 yX5_isFlying yX5_isFlying, Cond.code yX5_isFlying cX5_isFlying 2 (some .boolean), Cond.methodLink RX5 125 yX5_fail, Cond.instanceMethod yX5_fail, Cond.selects RX5 yX5_fail yX5_fail, Cond.code yX5_fail cX5_fail 2 (some .int), Cond.methodLink RX5 128 yX5_settle, Cond.instanceMethod yX5_settle, Cond.selects RX5 yX5_settle yX5_settle, Cond.code yX5_settle cX5_settle 4 (some .int), Cond.methodLink RX5 119 yX5_isWrong, Cond.instanceMethod yX5_isWrong, Cond.selects RX5 yX5_isWrong yX5_isWrong, Cond.code yX5_isWrong cX5_isWrong 2 (some .boolean), Cond.methodLink RL 86 yL_commit, Cond.static yL_commit, Cond.codeWith yL_commit cL_commit 3 (some .int) [(0, 15, 18, 19)], Cond.methodLink RL 27 yX4_commit, Cond.instanceMethod yX4_commit, Cond.selects RX4 yX4_commit yX4_commit, Cond.code yX4_commit cX4_commit 1 (some .boolean)]
def wsL_law0_r13 : List Cond := [Cond.methodLink RX4 108 yX4_retire, Cond.instanceMethod yX4_retire, Cond.selects RX4 yX4_retire yX4_retire, Cond.code yX4_retire cX4_retire 3 (some .boolean), Cond.methodLink RX4 251 yX4_countMisses, Cond.instanceMethod yX4_countMisses, Cond.selects RX4 yX4_countMisses yX4_countMisses, Cond.code yX4_countMisses cX4_countMisses 4 none, Cond.methodLink RX4 132 yX1_saidTaken, Cond.instanceMethod yX1_saidTaken, Cond.selects RX1 yX1_saidTaken yX1_saidTaken, Cond.code yX1_saidTaken cX1_saidTaken 2 (some .boolean), Cond.fieldLink RX1 9 "BranchPredictor$Branch" "isPlainTaken" "Z", Cond.fieldLink RX1 15 "BranchPredictor$Branch" "isGlobalTaken" "Z", Cond.fieldLink RX1 18 "BranchPredictor$Branch" "isChoiceTaken" "Z", Cond.methodLink RX4 255 yX4_learnChoice, Cond.instanceMethod yX4_learnChoice, Cond.selects RX4 yX4_learnChoice yX4_learnChoice, Cond.code yX4_learnChoice cX4_learnChoice 3 none, Cond.methodLink RX4 265 yX2_move, Cond.instanceMethod yX2_move, Cond.selects RX2 yX2_move yX2_move, Cond.code yX2_move cX2_move 5 none, Cond.methodLink RX2 23 Lib.Math.min.name]
def wsL_law0_r14 : List Cond := [Cond.static Lib.Math.min.name, Cond.initialized "java/lang/Math", Cond.code Lib.Math.min.name Lib.Math.min.code 2 (some .int), Cond.methodLink RX2 29 Lib.Math.max.name, Cond.static Lib.Math.max.name, Cond.code Lib.Math.max.name Lib.Math.max.code 2 (some .int), Cond.methodLink RX4 258 yX4_learnOutcome, Cond.static yX4_learnOutcome, Cond.code yX4_learnOutcome cX4_learnOutcome 5 none, Cond.methodLink RX4 269 yX0_note, Cond.instanceMethod yX0_note, Cond.selects RX0 yX0_note yX0_note, Cond.code yX0_note cX0_note 6 none, Cond.methodLink RX4 262 yX4_learnLoop, Cond.instanceMethod yX4_learnLoop, Cond.selects RX4 yX4_learnLoop yX4_learnLoop, Cond.code yX4_learnLoop cX4_learnLoop 4 none, Cond.methodLink RX4 273 yX3_learn, Cond.instanceMethod yX3_learn, Cond.selects RX3 yX3_learn yX3_learn, Cond.code yX3_learn cX3_learn 2 none, Cond.fieldLink RX3 15 "BranchPredictor$Loop" "count" "I", Cond.fieldLink RX3 18 "BranchPredictor$Loop" "trip" "I", Cond.fieldLink RX3 21 "BranchPredictor$Loop" "trust" "I"]
def wsL_law0_r15 : List Cond := [Cond.methodLink RX3 24 Lib.Math.min.name, Cond.methodLink RX4 277 yX4_numberForNewLoop, Cond.instanceMethod yX4_numberForNewLoop, Cond.selects RX4 yX4_numberForNewLoop yX4_numberForNewLoop, Cond.code yX4_numberForNewLoop cX4_numberForNewLoop 3 (some .int), Cond.methodLink RX4 154 yX3_isFree, Cond.instanceMethod yX3_isFree, Cond.selects RX3 yX3_isFree yX3_isFree, Cond.code yX3_isFree cX3_isFree 1 (some .boolean), Cond.methodLink RX4 281 yX3_startAnew, Cond.instanceMethod yX3_startAnew, Cond.selects RX3 yX3_startAnew yX3_startAnew, Cond.code yX3_startAnew cX3_startAnew 2 none, Cond.methodLink RL 89 yX5_commit, Cond.instanceMethod yX5_commit, Cond.selects RX5 yX5_commit yX5_commit, Cond.code yX5_commit cX5_commit 1 (some .boolean), Cond.methodLink RX5 155 yX5_learn, Cond.instanceMethod yX5_learn, Cond.selects RX5 yX5_learn yX5_learn, Cond.code yX5_learn cX5_learn 6 (some .boolean), Cond.methodLink RX5 143 yX5_change, Cond.instanceMethod yX5_change, Cond.selects RX5 yX5_change yX5_change]
def wsL_law0_r16 : List Cond := [Cond.code yX5_change cX5_change 3 none, Cond.methodLink RX5 131 Lib.Math.min.name, Cond.methodLink RX5 136 Lib.Math.max.name, Cond.methodLink RX5 147 yX5_audit, Cond.instanceMethod yX5_audit, Cond.selects RX5 yX5_audit yX5_audit, Cond.code yX5_audit cX5_audit 5 none, Cond.methodLink RX5 151 yX5_learnLoop, Cond.instanceMethod yX5_learnLoop, Cond.selects RX5 yX5_learnLoop yX5_learnLoop, Cond.code yX5_learnLoop cX5_learnLoop 5 none, Cond.methodLink RX5 139 yX5_makeLoop, Cond.instanceMethod yX5_makeLoop, Cond.selects RX5 yX5_makeLoop yX5_makeLoop, Cond.code yX5_makeLoop cX5_makeLoop 4 none, Cond.methodLink RL 90 yL_train, Cond.static yL_train, Cond.codeWith yL_train cL_train 5 (some .int) [(0, 17, 20, 13), (0, 17, 24, 19)], Cond.methodLink RL 31 yX4_train, Cond.instanceMethod yX4_train, Cond.selects RX4 yX4_train yX4_train, Cond.code yX4_train cX4_train 3 (some .boolean), Cond.methodLink RL 92 yX5_train, Cond.instanceMethod yX5_train]
def wsL_law0_r17 : List Cond := [Cond.selects RX5 yX5_train yX5_train, Cond.code yX5_train cX5_train 3 (some .boolean), Cond.methodLink RL 93 yL_flush, Cond.static yL_flush, Cond.codeWith yL_flush cL_flush 4 (some .int) [(0, 9, 12, 13)], Cond.methodLink RL 35 yX4_flush, Cond.instanceMethod yX4_flush, Cond.selects RX4 yX4_flush yX4_flush, Cond.code yX4_flush cX4_flush 3 (some .int), Cond.methodLink RL 95 yX5_flush, Cond.instanceMethod yX5_flush, Cond.selects RX5 yX5_flush yX5_flush, Cond.code yX5_flush cX5_flush 2 (some .int), Cond.methodLink RL 96 yX4_inFlight, Cond.instanceMethod yX4_inFlight, Cond.selects RX4 yX4_inFlight yX4_inFlight, Cond.code yX4_inFlight cX4_inFlight 1 (some .int), Cond.methodLink RL 99 yX5_inFlight, Cond.instanceMethod yX5_inFlight, Cond.selects RX5 yX5_inFlight yX5_inFlight, Cond.code yX5_inFlight cX5_inFlight 1 (some .int), Cond.methodLink RL 100 yL_place, Cond.static yL_place, Cond.codeWith yL_place cL_place 4 (some .int) [(0, 9, 12, 25)]]
def wsL_law0_r18 : List Cond := [Cond.methodLink RL 39 yX4_place, Cond.instanceMethod yX4_place, Cond.selects RX4 yX4_place yX4_place, Cond.code yX4_place cX4_place 2 (some .int), Cond.methodLink RL 102 yX5_place, Cond.instanceMethod yX5_place, Cond.selects RX5 yX5_place yX5_place, Cond.code yX5_place cX5_place 2 (some .int), Cond.methodLink RL 103 yL_state, Cond.static yL_state, Cond.codeWith yL_state cL_state 4 (some .int) [(0, 9, 12, 25)], Cond.methodLink RL 42 yX4_state, Cond.instanceMethod yX4_state, Cond.selects RX4 yX4_state yX4_state, Cond.code yX4_state cX4_state 2 (some .int), Cond.methodLink RL 105 yX5_state, Cond.instanceMethod yX5_state, Cond.selects RX5 yX5_state yX5_state, Cond.code yX5_state cX5_state 2 (some .int), Cond.methodLink RX5 159 yX5_stateOf, Cond.instanceMethod yX5_stateOf, Cond.selects RX5 yX5_stateOf yX5_stateOf, Cond.code yX5_stateOf cX5_stateOf 2 (some .int), Cond.methodLink RL 106 yL_predicted]
def wsL_law0_r19 : List Cond := [Cond.static yL_predicted, Cond.codeWith yL_predicted cL_predicted 5 (some .int) [(0, 17, 20, 25)], Cond.methodLink RL 45 yX4_predicted, Cond.instanceMethod yX4_predicted, Cond.selects RX4 yX4_predicted yX4_predicted, Cond.code yX4_predicted cX4_predicted 3 (some .boolean), Cond.methodLink RX4 129 yX4_requireKind, Cond.static yX4_requireKind, Cond.code yX4_requireKind cX4_requireKind 1 none, Cond.methodLink RL 109 yX5_predicted, Cond.instanceMethod yX5_predicted, Cond.selects RX5 yX5_predicted yX5_predicted, Cond.code yX5_predicted cX5_predicted 3 (some .boolean), Cond.methodLink RX5 162 yX5_isKind, Cond.static yX5_isKind, Cond.code yX5_isKind cX5_isKind 1 (some .boolean), Cond.methodLink RL 110 yX4_history, Cond.instanceMethod yX4_history, Cond.selects RX4 yX4_history yX4_history, Cond.code yX4_history cX4_history 1 (some .int), Cond.methodLink RL 113 yX5_history, Cond.instanceMethod yX5_history, Cond.selects RX5 yX5_history yX5_history, Cond.code yX5_history cX5_history 1 (some .int)]
def wsL_law0_r20 : List Cond := [Cond.methodLink RL 114 yL_counter, Cond.static yL_counter, Cond.codeWith yL_counter cL_counter 5 (some .int) [(0, 10, 13, 25)], Cond.methodLink RL 49 yX4_counter, Cond.instanceMethod yX4_counter, Cond.selects RX4 yX4_counter yX4_counter, Cond.code yX4_counter cX4_counter 4 (some .int), Cond.fieldLink RX4 144 "BranchPredictor$CounterTable" "size" "I", Cond.methodLink RX4 140 yX4_tableWith, Cond.instanceMethod yX4_tableWith, Cond.selects RX4 yX4_tableWith yX4_tableWith, Cond.code yX4_tableWith cX4_tableWith 2 (some (.object "BranchPredictor$CounterTable")), Cond.methodLink RX4 149 yX2_valueAt, Cond.methodLink RL 116 yX5_counter, Cond.instanceMethod yX5_counter, Cond.selects RX5 yX5_counter yX5_counter, Cond.code yX5_counter cX5_counter 3 (some .int), Cond.methodLink RX5 165 yX5_sizeOf, Cond.instanceMethod yX5_sizeOf, Cond.selects RX5 yX5_sizeOf yX5_sizeOf, Cond.code yX5_sizeOf cX5_sizeOf 2 (some .int), Cond.methodLink RL 117 yL_loop, Cond.static yL_loop, Cond.codeWith yL_loop cL_loop 5 (some .int) [(0, 10, 13, 25)]]
def wsL_law0_r21 : List Cond := [Cond.methodLink RL 53 yX4_loop, Cond.instanceMethod yX4_loop, Cond.selects RX4 yX4_loop yX4_loop, Cond.code yX4_loop cX4_loop 4 (some .int), Cond.methodLink RL 119 yX5_loop, Cond.instanceMethod yX5_loop, Cond.selects RX5 yX5_loop yX5_loop, Cond.code yX5_loop cX5_loop 3 (some .int), Cond.methodLink RX5 168 yX5_ofLoop, Cond.instanceMethod yX5_ofLoop, Cond.selects RX5 yX5_ofLoop yX5_ofLoop, Cond.code yX5_ofLoop cX5_ofLoop 3 (some .int), Cond.methodLink RL 120 yX4_commits, Cond.instanceMethod yX4_commits, Cond.selects RX4 yX4_commits yX4_commits, Cond.code yX4_commits cX4_commits 1 (some .long), Cond.methodLink RL 124 yX5_commits, Cond.instanceMethod yX5_commits, Cond.selects RX5 yX5_commits yX5_commits, Cond.code yX5_commits cX5_commits 1 (some .long), Cond.methodLink RL 125 yL_misses, Cond.static yL_misses, Cond.codeWith yL_misses cL_misses 4 (some .int) [(0, 8, 11, 25)], Cond.methodLink RL 56 yX4_misses]
def wsL_law0_r22 : List Cond := [Cond.instanceMethod yX4_misses, Cond.selects RX4 yX4_misses yX4_misses, Cond.code yX4_misses cX4_misses 2 (some .long), Cond.methodLink RL 127 yX5_misses, Cond.instanceMethod yX5_misses, Cond.selects RX5 yX5_misses yX5_misses, Cond.code yX5_misses cX5_misses 2 (some .long), Cond.methodLink RL 128 yX4_drops, Cond.instanceMethod yX4_drops, Cond.selects RX4 yX4_drops yX4_drops, Cond.code yX4_drops cX4_drops 1 (some .long), Cond.methodLink RL 131 yX5_drops, Cond.instanceMethod yX5_drops, Cond.selects RX5 yX5_drops yX5_drops, Cond.code yX5_drops cX5_drops 1 (some .long), Cond.methodLink RL 132 yL_meetings, Cond.static yL_meetings, Cond.codeWith yL_meetings cL_meetings 5 (some .int) [(0, 9, 12, 25)], Cond.methodLink RL 60 yX4_meetings, Cond.instanceMethod yX4_meetings, Cond.selects RX4 yX4_meetings yX4_meetings, Cond.code yX4_meetings cX4_meetings 4 (some .long), Cond.fieldLink RX4 180 "BranchPredictor$Audit" "harmfulMeetings" "J", Cond.fieldLink RX4 183 "BranchPredictor$Audit" "allMeetings" "J"]
def wsL_law0_r23 : List Cond := [Cond.methodLink RL 134 yX5_meetings, Cond.instanceMethod yX5_meetings, Cond.selects RX5 yX5_meetings yX5_meetings, Cond.code yX5_meetings cX5_meetings 3 (some .long), Cond.methodLink RL 135 yX4_accuracy, Cond.instanceMethod yX4_accuracy, Cond.selects RX4 yX4_accuracy yX4_accuracy, Cond.code yX4_accuracy cX4_accuracy 3 (some .double), Cond.methodLink RL 139 yX5_accuracy, Cond.instanceMethod yX5_accuracy, Cond.selects RX5 yX5_accuracy yX5_accuracy, Cond.code yX5_accuracy cX5_accuracy 1 (some .double), Cond.methodLink RL 140 yX4_digest, Cond.instanceMethod yX4_digest, Cond.selects RX4 yX4_digest yX4_digest, Cond.code yX4_digest cX4_digest 4 (some .long), Cond.constantLong RX4 186 (71), Cond.methodLink RX4 188 yX4_mix, Cond.static yX4_mix, Cond.code yX4_mix cX4_mix 4 (some .long), Cond.constantLong RX4 197 (31), Cond.methodLink RX4 192 yX2_mixInto, Cond.instanceMethod yX2_mixInto, Cond.selects RX2 yX2_mixInto yX2_mixInto]
def wsL_law0_r24 : List Cond := [Cond.code yX2_mixInto cX2_mixInto 6 (some .long), Cond.methodLink RX4 196 yX3_mixInto, Cond.instanceMethod yX3_mixInto, Cond.selects RX3 yX3_mixInto yX3_mixInto, Cond.code yX3_mixInto cX3_mixInto 6 (some .long), Cond.constantLong RX3 34 (-1), Cond.methodLink RX3 30 yX3_isFree, Cond.methodLink RL 143 yX5_digest, Cond.instanceMethod yX5_digest, Cond.selects RX5 yX5_digest yX5_digest, Cond.code yX5_digest cX5_digest 5 (some .long), Cond.constantLong RX5 171 (2201), Cond.constantLong RX5 173 (31)]
def wsL_law0 : List Cond := (wsL_law0_r1 ++ (wsL_law0_r2 ++ (wsL_law0_r3 ++ (wsL_law0_r4 ++ (wsL_law0_r5 ++ (wsL_law0_r6 ++ (wsL_law0_r7 ++ (wsL_law0_r8 ++ (wsL_law0_r9 ++ (wsL_law0_r10 ++ (wsL_law0_r11 ++ (wsL_law0_r12 ++ (wsL_law0_r13 ++ (wsL_law0_r14 ++ (wsL_law0_r15 ++ (wsL_law0_r16 ++ (wsL_law0_r17 ++ (wsL_law0_r18 ++ (wsL_law0_r19 ++ (wsL_law0_r20 ++ (wsL_law0_r21 ++ (wsL_law0_r22 ++ (wsL_law0_r23 ++ wsL_law0_r24))))))))))))))))))))))) ++ wsX40 ++ wsX50 ++ wsX20 ++ wsX00 ++ wsX10 ++ wsX30 ++ ([] : List Cond)
def wsL_law : List Cond := wsL_law0 ++ (vx_atS RX4 72 "java/lang/IllegalArgumentException" ["java/lang/RuntimeException", "java/lang/Exception"]).filter goodWord ++ (vx_atS RX4 86 "java/lang/IllegalStateException" ["java/lang/RuntimeException", "java/lang/Exception"]).filter goodWord ++ (vx_atS RX4 139 "java/lang/IndexOutOfBoundsException" ["java/lang/RuntimeException", "java/lang/Exception"]).filter goodWord
end
section
theorem dX0_init_0 : decode cX0_init 0 = .ok (.aload_n 0, 1) := by decide +kernel
theorem dX0_init_1 : decode cX0_init 1 = .ok (.invokespecial 3, 3) := by decide +kernel
theorem dX0_init_4 : decode cX0_init 4 = .ok (.aload_n 0, 1) := by decide +kernel
theorem dX0_init_5 : decode cX0_init 5 = .ok (.sipush 256, 3) := by decide +kernel
theorem dX0_init_8 : decode cX0_init 8 = .ok (.newarray .int, 2) := by decide +kernel
theorem dX0_init_10 : decode cX0_init 10 = .ok (.putfield 9, 3) := by decide +kernel
theorem dX0_init_13 : decode cX0_init 13 = .ok (.return_, 1) := by decide +kernel
theorem dX0_startAnew_0 : decode cX0_startAnew 0 = .ok (.iconst 0, 1) := by decide +kernel
theorem dX0_startAnew_1 : decode cX0_startAnew 1 = .ok (.istore_n 1, 1) := by decide +kernel
theorem dX0_startAnew_2 : decode cX0_startAnew 2 = .ok (.iload_n 1, 1) := by decide +kernel
theorem dX0_startAnew_3 : decode cX0_startAnew 3 = .ok (.sipush 256, 3) := by decide +kernel
theorem dX0_startAnew_6 : decode cX0_startAnew 6 = .ok (.if_icmp .ge 16, 3) := by decide +kernel
theorem dX0_startAnew_9 : decode cX0_startAnew 9 = .ok (.aload_n 0, 1) := by decide +kernel
theorem dX0_startAnew_10 : decode cX0_startAnew 10 = .ok (.getfield 9, 3) := by decide +kernel
theorem dX0_startAnew_13 : decode cX0_startAnew 13 = .ok (.iload_n 1, 1) := by decide +kernel
theorem dX0_startAnew_14 : decode cX0_startAnew 14 = .ok (.iconst (-1), 1) := by decide +kernel
theorem dX0_startAnew_15 : decode cX0_startAnew 15 = .ok (.iastore, 1) := by decide +kernel
theorem dX0_startAnew_16 : decode cX0_startAnew 16 = .ok (.iinc 1 1, 3) := by decide +kernel
theorem dX0_startAnew_19 : decode cX0_startAnew 19 = .ok (.goto (-17), 3) := by decide +kernel
theorem dX0_startAnew_22 : decode cX0_startAnew 22 = .ok (.aload_n 0, 1) := by decide +kernel
theorem dX0_startAnew_23 : decode cX0_startAnew 23 = .ok (.lconst 0, 1) := by decide +kernel
theorem dX0_startAnew_24 : decode cX0_startAnew 24 = .ok (.putfield 15, 3) := by decide +kernel
theorem dX0_startAnew_27 : decode cX0_startAnew 27 = .ok (.aload_n 0, 1) := by decide +kernel
theorem dX0_startAnew_28 : decode cX0_startAnew 28 = .ok (.lconst 0, 1) := by decide +kernel
theorem dX0_startAnew_29 : decode cX0_startAnew 29 = .ok (.putfield 19, 3) := by decide +kernel
theorem dX0_startAnew_32 : decode cX0_startAnew 32 = .ok (.return_, 1) := by decide +kernel
theorem dX0_note_0 : decode cX0_note 0 = .ok (.iload_n 1, 1) := by decide +kernel
theorem dX0_note_1 : decode cX0_note 1 = .ok (.sipush 255, 3) := by decide +kernel
theorem dX0_note_4 : decode cX0_note 4 = .ok (.iand, 1) := by decide +kernel
theorem dX0_note_5 : decode cX0_note 5 = .ok (.istore 4, 2) := by decide +kernel
theorem dX0_note_7 : decode cX0_note 7 = .ok (.aload_n 0, 1) := by decide +kernel
theorem dX0_note_8 : decode cX0_note 8 = .ok (.getfield 9, 3) := by decide +kernel
theorem dX0_note_11 : decode cX0_note 11 = .ok (.iload 4, 2) := by decide +kernel
theorem dX0_note_13 : decode cX0_note 13 = .ok (.iaload, 1) := by decide +kernel
theorem dX0_note_14 : decode cX0_note 14 = .ok (.istore 5, 2) := by decide +kernel
theorem dX0_note_16 : decode cX0_note 16 = .ok (.iload 5, 2) := by decide +kernel
theorem dX0_note_18 : decode cX0_note 18 = .ok (.iconst (-1), 1) := by decide +kernel
theorem dX0_note_19 : decode cX0_note 19 = .ok (.if_icmp .eq 33, 3) := by decide +kernel
theorem dX0_note_22 : decode cX0_note 22 = .ok (.iload 5, 2) := by decide +kernel
theorem dX0_note_24 : decode cX0_note 24 = .ok (.iload_n 2, 1) := by decide +kernel
theorem dX0_note_25 : decode cX0_note 25 = .ok (.if_icmp .eq 27, 3) := by decide +kernel
theorem dX0_note_28 : decode cX0_note 28 = .ok (.aload_n 0, 1) := by decide +kernel
theorem dX0_note_29 : decode cX0_note 29 = .ok (.dup, 1) := by decide +kernel
theorem dX0_note_30 : decode cX0_note 30 = .ok (.getfield 15, 3) := by decide +kernel
theorem dX0_note_33 : decode cX0_note 33 = .ok (.lconst 1, 1) := by decide +kernel
theorem dX0_note_34 : decode cX0_note 34 = .ok (.ladd, 1) := by decide +kernel
theorem dX0_note_35 : decode cX0_note 35 = .ok (.putfield 15, 3) := by decide +kernel
theorem dX0_note_38 : decode cX0_note 38 = .ok (.iload_n 3, 1) := by decide +kernel
theorem dX0_note_39 : decode cX0_note 39 = .ok (.ifCond .eq 13, 3) := by decide +kernel
theorem dX0_note_42 : decode cX0_note 42 = .ok (.aload_n 0, 1) := by decide +kernel
theorem dX0_note_43 : decode cX0_note 43 = .ok (.dup, 1) := by decide +kernel
theorem dX0_note_44 : decode cX0_note 44 = .ok (.getfield 19, 3) := by decide +kernel
theorem dX0_note_47 : decode cX0_note 47 = .ok (.lconst 1, 1) := by decide +kernel
theorem dX0_note_48 : decode cX0_note 48 = .ok (.ladd, 1) := by decide +kernel
theorem dX0_note_49 : decode cX0_note 49 = .ok (.putfield 19, 3) := by decide +kernel
theorem dX0_note_52 : decode cX0_note 52 = .ok (.aload_n 0, 1) := by decide +kernel
theorem dX0_note_53 : decode cX0_note 53 = .ok (.getfield 9, 3) := by decide +kernel
theorem dX0_note_56 : decode cX0_note 56 = .ok (.iload 4, 2) := by decide +kernel
theorem dX0_note_58 : decode cX0_note 58 = .ok (.iload_n 2, 1) := by decide +kernel
theorem dX0_note_59 : decode cX0_note 59 = .ok (.iastore, 1) := by decide +kernel
theorem dX0_note_60 : decode cX0_note 60 = .ok (.return_, 1) := by decide +kernel
theorem dX1_init_0 : decode cX1_init 0 = .ok (.aload_n 0, 1) := by decide +kernel
theorem dX1_init_1 : decode cX1_init 1 = .ok (.invokespecial 3, 3) := by decide +kernel
theorem dX1_init_4 : decode cX1_init 4 = .ok (.return_, 1) := by decide +kernel
theorem dX1_saidTaken_0 : decode cX1_saidTaken 0 = .ok (.iload_n 1, 1) := by decide +kernel
theorem dX1_saidTaken_1 : decode cX1_saidTaken 1 = .ok (.tableswitch 42 0 2 #[27, 32, 37], 27) := by decide +kernel
theorem dX1_saidTaken_28 : decode cX1_saidTaken 28 = .ok (.aload_n 0, 1) := by decide +kernel
theorem dX1_saidTaken_29 : decode cX1_saidTaken 29 = .ok (.getfield 9, 3) := by decide +kernel
theorem dX1_saidTaken_32 : decode cX1_saidTaken 32 = .ok (.ireturn, 1) := by decide +kernel
theorem dX1_saidTaken_33 : decode cX1_saidTaken 33 = .ok (.aload_n 0, 1) := by decide +kernel
theorem dX1_saidTaken_34 : decode cX1_saidTaken 34 = .ok (.getfield 15, 3) := by decide +kernel
theorem dX1_saidTaken_37 : decode cX1_saidTaken 37 = .ok (.ireturn, 1) := by decide +kernel
theorem dX1_saidTaken_38 : decode cX1_saidTaken 38 = .ok (.aload_n 0, 1) := by decide +kernel
theorem dX1_saidTaken_39 : decode cX1_saidTaken 39 = .ok (.getfield 18, 3) := by decide +kernel
theorem dX1_saidTaken_42 : decode cX1_saidTaken 42 = .ok (.ireturn, 1) := by decide +kernel
theorem dX1_saidTaken_43 : decode cX1_saidTaken 43 = .ok (.aload_n 0, 1) := by decide +kernel
theorem dX1_saidTaken_44 : decode cX1_saidTaken 44 = .ok (.getfield 21, 3) := by decide +kernel
theorem dX1_saidTaken_47 : decode cX1_saidTaken 47 = .ok (.ireturn, 1) := by decide +kernel
theorem dX1_isPresumedTaken_0 : decode cX1_isPresumedTaken 0 = .ok (.aload_n 0, 1) := by decide +kernel
theorem dX1_isPresumedTaken_1 : decode cX1_isPresumedTaken 1 = .ok (.getfield 24, 3) := by decide +kernel
theorem dX1_isPresumedTaken_4 : decode cX1_isPresumedTaken 4 = .ok (.iconst 2, 1) := by decide +kernel
theorem dX1_isPresumedTaken_5 : decode cX1_isPresumedTaken 5 = .ok (.if_icmp .ne 7, 3) := by decide +kernel
theorem dX1_isPresumedTaken_8 : decode cX1_isPresumedTaken 8 = .ok (.iconst 1, 1) := by decide +kernel
theorem dX1_isPresumedTaken_9 : decode cX1_isPresumedTaken 9 = .ok (.goto 4, 3) := by decide +kernel
theorem dX1_isPresumedTaken_12 : decode cX1_isPresumedTaken 12 = .ok (.iconst 0, 1) := by decide +kernel
theorem dX1_isPresumedTaken_13 : decode cX1_isPresumedTaken 13 = .ok (.aload_n 0, 1) := by decide +kernel
theorem dX1_isPresumedTaken_14 : decode cX1_isPresumedTaken 14 = .ok (.getfield 21, 3) := by decide +kernel
theorem dX1_isPresumedTaken_17 : decode cX1_isPresumedTaken 17 = .ok (.if_icmp .eq 7, 3) := by decide +kernel
theorem dX1_isPresumedTaken_20 : decode cX1_isPresumedTaken 20 = .ok (.iconst 1, 1) := by decide +kernel
theorem dX1_isPresumedTaken_21 : decode cX1_isPresumedTaken 21 = .ok (.goto 4, 3) := by decide +kernel
theorem dX1_isPresumedTaken_24 : decode cX1_isPresumedTaken 24 = .ok (.iconst 0, 1) := by decide +kernel
theorem dX1_isPresumedTaken_25 : decode cX1_isPresumedTaken 25 = .ok (.ireturn, 1) := by decide +kernel
theorem dX2_init_0 : decode cX2_init 0 = .ok (.aload_n 0, 1) := by decide +kernel
theorem dX2_init_1 : decode cX2_init 1 = .ok (.invokespecial 3, 3) := by decide +kernel
theorem dX2_init_4 : decode cX2_init 4 = .ok (.aload_n 0, 1) := by decide +kernel
theorem dX2_init_5 : decode cX2_init 5 = .ok (.sipush 256, 3) := by decide +kernel
theorem dX2_init_8 : decode cX2_init 8 = .ok (.newarray .int, 2) := by decide +kernel
theorem dX2_init_10 : decode cX2_init 10 = .ok (.putfield 9, 3) := by decide +kernel
theorem dX2_init_13 : decode cX2_init 13 = .ok (.aload_n 0, 1) := by decide +kernel
theorem dX2_init_14 : decode cX2_init 14 = .ok (.iconst 1, 1) := by decide +kernel
theorem dX2_init_15 : decode cX2_init 15 = .ok (.putfield 15, 3) := by decide +kernel
theorem dX2_init_18 : decode cX2_init 18 = .ok (.return_, 1) := by decide +kernel
theorem dX2_startAnew_0 : decode cX2_startAnew 0 = .ok (.aload_n 0, 1) := by decide +kernel
theorem dX2_startAnew_1 : decode cX2_startAnew 1 = .ok (.iconst 1, 1) := by decide +kernel
theorem dX2_startAnew_2 : decode cX2_startAnew 2 = .ok (.iload_n 1, 1) := by decide +kernel
theorem dX2_startAnew_3 : decode cX2_startAnew 3 = .ok (.ishl, 1) := by decide +kernel
theorem dX2_startAnew_4 : decode cX2_startAnew 4 = .ok (.putfield 15, 3) := by decide +kernel
theorem dX2_startAnew_7 : decode cX2_startAnew 7 = .ok (.iconst 0, 1) := by decide +kernel
theorem dX2_startAnew_8 : decode cX2_startAnew 8 = .ok (.istore_n 2, 1) := by decide +kernel
theorem dX2_startAnew_9 : decode cX2_startAnew 9 = .ok (.iload_n 2, 1) := by decide +kernel
theorem dX2_startAnew_10 : decode cX2_startAnew 10 = .ok (.sipush 256, 3) := by decide +kernel
theorem dX2_startAnew_13 : decode cX2_startAnew 13 = .ok (.if_icmp .ge 16, 3) := by decide +kernel
theorem dX2_startAnew_16 : decode cX2_startAnew 16 = .ok (.aload_n 0, 1) := by decide +kernel
theorem dX2_startAnew_17 : decode cX2_startAnew 17 = .ok (.getfield 9, 3) := by decide +kernel
theorem dX2_startAnew_20 : decode cX2_startAnew 20 = .ok (.iload_n 2, 1) := by decide +kernel
theorem dX2_startAnew_21 : decode cX2_startAnew 21 = .ok (.iconst 1, 1) := by decide +kernel
theorem dX2_startAnew_22 : decode cX2_startAnew 22 = .ok (.iastore, 1) := by decide +kernel
theorem dX2_startAnew_23 : decode cX2_startAnew 23 = .ok (.iinc 2 1, 3) := by decide +kernel
theorem dX2_startAnew_26 : decode cX2_startAnew 26 = .ok (.goto (-17), 3) := by decide +kernel
theorem dX2_startAnew_29 : decode cX2_startAnew 29 = .ok (.return_, 1) := by decide +kernel
theorem dX2_indexFor_0 : decode cX2_indexFor 0 = .ok (.iload_n 1, 1) := by decide +kernel
theorem dX2_indexFor_1 : decode cX2_indexFor 1 = .ok (.aload_n 0, 1) := by decide +kernel
theorem dX2_indexFor_2 : decode cX2_indexFor 2 = .ok (.getfield 15, 3) := by decide +kernel
theorem dX2_indexFor_5 : decode cX2_indexFor 5 = .ok (.iconst 1, 1) := by decide +kernel
theorem dX2_indexFor_6 : decode cX2_indexFor 6 = .ok (.isub, 1) := by decide +kernel
theorem dX2_indexFor_7 : decode cX2_indexFor 7 = .ok (.iand, 1) := by decide +kernel
theorem dX2_indexFor_8 : decode cX2_indexFor 8 = .ok (.ireturn, 1) := by decide +kernel
theorem dX2_valueAt_0 : decode cX2_valueAt 0 = .ok (.aload_n 0, 1) := by decide +kernel
theorem dX2_valueAt_1 : decode cX2_valueAt 1 = .ok (.getfield 9, 3) := by decide +kernel
theorem dX2_valueAt_4 : decode cX2_valueAt 4 = .ok (.iload_n 1, 1) := by decide +kernel
theorem dX2_valueAt_5 : decode cX2_valueAt 5 = .ok (.sipush 255, 3) := by decide +kernel
theorem dX2_valueAt_8 : decode cX2_valueAt 8 = .ok (.iand, 1) := by decide +kernel
theorem dX2_valueAt_9 : decode cX2_valueAt 9 = .ok (.iaload, 1) := by decide +kernel
theorem dX2_valueAt_10 : decode cX2_valueAt 10 = .ok (.ireturn, 1) := by decide +kernel
set_option maxRecDepth 20000 in
theorem ggX2_saysTaken_X2_valueAt : GoodIn wsX2_saysTaken wsX2_valueAt := goodIn_r _ [5, 6, 7, 8] (by decide +kernel) (by decide +kernel)
set_option maxRecDepth 20000 in
theorem gX2_saysTaken_X2_valueAt : GoodIn wsX2_saysTaken (wsV RX2 19 RX2 yX2_valueAt wsX2_valueAt) := goodIn_app (goodIn_of _ (by decide +kernel)) ggX2_saysTaken_X2_valueAt
theorem dX2_saysTaken_0 : decode cX2_saysTaken 0 = .ok (.aload_n 0, 1) := by decide +kernel
theorem dX2_saysTaken_1 : decode cX2_saysTaken 1 = .ok (.iload_n 1, 1) := by decide +kernel
theorem dX2_saysTaken_2 : decode cX2_saysTaken 2 = .ok (.invokevirtual 19, 3) := by decide +kernel
theorem dX2_saysTaken_5 : decode cX2_saysTaken 5 = .ok (.iconst 2, 1) := by decide +kernel
theorem dX2_saysTaken_6 : decode cX2_saysTaken 6 = .ok (.if_icmp .lt 7, 3) := by decide +kernel
theorem dX2_saysTaken_9 : decode cX2_saysTaken 9 = .ok (.iconst 1, 1) := by decide +kernel
theorem dX2_saysTaken_10 : decode cX2_saysTaken 10 = .ok (.goto 4, 3) := by decide +kernel
theorem dX2_saysTaken_13 : decode cX2_saysTaken 13 = .ok (.iconst 0, 1) := by decide +kernel
theorem dX2_saysTaken_14 : decode cX2_saysTaken 14 = .ok (.ireturn, 1) := by decide +kernel
set_option maxRecDepth 20000 in
theorem ggX2_move_X2_valueAt : GoodIn wsX2_move wsX2_valueAt := goodIn_r _ [13, 8, 14, 15] (by decide +kernel) (by decide +kernel)
set_option maxRecDepth 20000 in
theorem gX2_move_X2_valueAt : GoodIn wsX2_move (wsV RX2 19 RX2 yX2_valueAt wsX2_valueAt) := goodIn_app (goodIn_of _ (by decide +kernel)) ggX2_move_X2_valueAt
theorem dX2_move_0 : decode cX2_move 0 = .ok (.aload_n 0, 1) := by decide +kernel
theorem dX2_move_1 : decode cX2_move 1 = .ok (.iload_n 1, 1) := by decide +kernel
theorem dX2_move_2 : decode cX2_move 2 = .ok (.invokevirtual 19, 3) := by decide +kernel
theorem dX2_move_5 : decode cX2_move 5 = .ok (.istore_n 3, 1) := by decide +kernel
theorem dX2_move_6 : decode cX2_move 6 = .ok (.iload_n 2, 1) := by decide +kernel
theorem dX2_move_7 : decode cX2_move 7 = .ok (.ifCond .eq 13, 3) := by decide +kernel
theorem dX2_move_10 : decode cX2_move 10 = .ok (.iload_n 3, 1) := by decide +kernel
theorem dX2_move_11 : decode cX2_move 11 = .ok (.iconst 1, 1) := by decide +kernel
theorem dX2_move_12 : decode cX2_move 12 = .ok (.iadd, 1) := by decide +kernel
theorem dX2_move_13 : decode cX2_move 13 = .ok (.iconst 3, 1) := by decide +kernel
theorem dX2_move_14 : decode cX2_move 14 = .ok (.invokestatic 23, 3) := by decide +kernel
theorem dX2_move_17 : decode cX2_move 17 = .ok (.goto 10, 3) := by decide +kernel
theorem dX2_move_20 : decode cX2_move 20 = .ok (.iload_n 3, 1) := by decide +kernel
theorem dX2_move_21 : decode cX2_move 21 = .ok (.iconst 1, 1) := by decide +kernel
theorem dX2_move_22 : decode cX2_move 22 = .ok (.isub, 1) := by decide +kernel
theorem dX2_move_23 : decode cX2_move 23 = .ok (.iconst 0, 1) := by decide +kernel
theorem dX2_move_24 : decode cX2_move 24 = .ok (.invokestatic 29, 3) := by decide +kernel
theorem dX2_move_27 : decode cX2_move 27 = .ok (.istore 4, 2) := by decide +kernel
theorem dX2_move_29 : decode cX2_move 29 = .ok (.aload_n 0, 1) := by decide +kernel
theorem dX2_move_30 : decode cX2_move 30 = .ok (.getfield 9, 3) := by decide +kernel
theorem dX2_move_33 : decode cX2_move 33 = .ok (.iload_n 1, 1) := by decide +kernel
theorem dX2_move_34 : decode cX2_move 34 = .ok (.sipush 255, 3) := by decide +kernel
theorem dX2_move_37 : decode cX2_move 37 = .ok (.iand, 1) := by decide +kernel
theorem dX2_move_38 : decode cX2_move 38 = .ok (.iload 4, 2) := by decide +kernel
theorem dX2_move_40 : decode cX2_move 40 = .ok (.iastore, 1) := by decide +kernel
theorem dX2_move_41 : decode cX2_move 41 = .ok (.return_, 1) := by decide +kernel
set_option maxRecDepth 20000 in
theorem ggX2_mixInto_X4_mix : GoodIn wsX2_mixInto wsX4_mix := goodIn_r _ [5, 6] (by decide +kernel) (by decide +kernel)
set_option maxRecDepth 20000 in
theorem gX2_mixInto_X4_mix_n32 : GoodIn wsX2_mixInto (wsX4_mix) := ggX2_mixInto_X4_mix
theorem dX2_mixInto_0 : decode cX2_mixInto 0 = .ok (.lload_n 1, 1) := by decide +kernel
theorem dX2_mixInto_1 : decode cX2_mixInto 1 = .ok (.lstore_n 3, 1) := by decide +kernel
theorem dX2_mixInto_2 : decode cX2_mixInto 2 = .ok (.iconst 0, 1) := by decide +kernel
theorem dX2_mixInto_3 : decode cX2_mixInto 3 = .ok (.istore 5, 2) := by decide +kernel
theorem dX2_mixInto_5 : decode cX2_mixInto 5 = .ok (.iload 5, 2) := by decide +kernel
theorem dX2_mixInto_7 : decode cX2_mixInto 7 = .ok (.aload_n 0, 1) := by decide +kernel
theorem dX2_mixInto_8 : decode cX2_mixInto 8 = .ok (.getfield 15, 3) := by decide +kernel
theorem dX2_mixInto_11 : decode cX2_mixInto 11 = .ok (.if_icmp .ge 30, 3) := by decide +kernel
theorem dX2_mixInto_14 : decode cX2_mixInto 14 = .ok (.iload 5, 2) := by decide +kernel
theorem dX2_mixInto_16 : decode cX2_mixInto 16 = .ok (.sipush 256, 3) := by decide +kernel
theorem dX2_mixInto_19 : decode cX2_mixInto 19 = .ok (.if_icmp .ge 22, 3) := by decide +kernel
theorem dX2_mixInto_22 : decode cX2_mixInto 22 = .ok (.lload_n 3, 1) := by decide +kernel
theorem dX2_mixInto_23 : decode cX2_mixInto 23 = .ok (.aload_n 0, 1) := by decide +kernel
theorem dX2_mixInto_24 : decode cX2_mixInto 24 = .ok (.getfield 9, 3) := by decide +kernel
theorem dX2_mixInto_27 : decode cX2_mixInto 27 = .ok (.iload 5, 2) := by decide +kernel
theorem dX2_mixInto_29 : decode cX2_mixInto 29 = .ok (.iaload, 1) := by decide +kernel
theorem dX2_mixInto_30 : decode cX2_mixInto 30 = .ok (.i2l, 1) := by decide +kernel
theorem dX2_mixInto_31 : decode cX2_mixInto 31 = .ok (.invokestatic 32, 3) := by decide +kernel
theorem dX2_mixInto_34 : decode cX2_mixInto 34 = .ok (.lstore_n 3, 1) := by decide +kernel
theorem dX2_mixInto_35 : decode cX2_mixInto 35 = .ok (.iinc 5 1, 3) := by decide +kernel
theorem dX2_mixInto_38 : decode cX2_mixInto 38 = .ok (.goto (-33), 3) := by decide +kernel
theorem dX2_mixInto_41 : decode cX2_mixInto 41 = .ok (.lload_n 3, 1) := by decide +kernel
theorem dX2_mixInto_42 : decode cX2_mixInto 42 = .ok (.lreturn, 1) := by decide +kernel
theorem dX3_init_0 : decode cX3_init 0 = .ok (.aload_n 0, 1) := by decide +kernel
theorem dX3_init_1 : decode cX3_init 1 = .ok (.invokespecial 3, 3) := by decide +kernel
theorem dX3_init_4 : decode cX3_init 4 = .ok (.aload_n 0, 1) := by decide +kernel
theorem dX3_init_5 : decode cX3_init 5 = .ok (.iconst (-1), 1) := by decide +kernel
theorem dX3_init_6 : decode cX3_init 6 = .ok (.putfield 9, 3) := by decide +kernel
theorem dX3_init_9 : decode cX3_init 9 = .ok (.return_, 1) := by decide +kernel
theorem dX3_isFree_0 : decode cX3_isFree 0 = .ok (.aload_n 0, 1) := by decide +kernel
theorem dX3_isFree_1 : decode cX3_isFree 1 = .ok (.getfield 9, 3) := by decide +kernel
theorem dX3_isFree_4 : decode cX3_isFree 4 = .ok (.iconst (-1), 1) := by decide +kernel
theorem dX3_isFree_5 : decode cX3_isFree 5 = .ok (.if_icmp .ne 7, 3) := by decide +kernel
theorem dX3_isFree_8 : decode cX3_isFree 8 = .ok (.iconst 1, 1) := by decide +kernel
theorem dX3_isFree_9 : decode cX3_isFree 9 = .ok (.goto 4, 3) := by decide +kernel
theorem dX3_isFree_12 : decode cX3_isFree 12 = .ok (.iconst 0, 1) := by decide +kernel
theorem dX3_isFree_13 : decode cX3_isFree 13 = .ok (.ireturn, 1) := by decide +kernel
theorem dX3_startAnew_0 : decode cX3_startAnew 0 = .ok (.aload_n 0, 1) := by decide +kernel
theorem dX3_startAnew_1 : decode cX3_startAnew 1 = .ok (.iload_n 1, 1) := by decide +kernel
theorem dX3_startAnew_2 : decode cX3_startAnew 2 = .ok (.putfield 9, 3) := by decide +kernel
theorem dX3_startAnew_5 : decode cX3_startAnew 5 = .ok (.aload_n 0, 1) := by decide +kernel
theorem dX3_startAnew_6 : decode cX3_startAnew 6 = .ok (.iconst 0, 1) := by decide +kernel
theorem dX3_startAnew_7 : decode cX3_startAnew 7 = .ok (.putfield 15, 3) := by decide +kernel
theorem dX3_startAnew_10 : decode cX3_startAnew 10 = .ok (.aload_n 0, 1) := by decide +kernel
theorem dX3_startAnew_11 : decode cX3_startAnew 11 = .ok (.iconst 0, 1) := by decide +kernel
theorem dX3_startAnew_12 : decode cX3_startAnew 12 = .ok (.putfield 18, 3) := by decide +kernel
theorem dX3_startAnew_15 : decode cX3_startAnew 15 = .ok (.aload_n 0, 1) := by decide +kernel
theorem dX3_startAnew_16 : decode cX3_startAnew 16 = .ok (.iconst 0, 1) := by decide +kernel
theorem dX3_startAnew_17 : decode cX3_startAnew 17 = .ok (.putfield 21, 3) := by decide +kernel
theorem dX3_startAnew_20 : decode cX3_startAnew 20 = .ok (.return_, 1) := by decide +kernel
theorem dX3_learn_0 : decode cX3_learn 0 = .ok (.iload_n 1, 1) := by decide +kernel
theorem dX3_learn_1 : decode cX3_learn 1 = .ok (.ifCond .eq 29, 3) := by decide +kernel
theorem dX3_learn_4 : decode cX3_learn 4 = .ok (.aload_n 0, 1) := by decide +kernel
theorem dX3_learn_5 : decode cX3_learn 5 = .ok (.dup, 1) := by decide +kernel
theorem dX3_learn_6 : decode cX3_learn 6 = .ok (.getfield 15, 3) := by decide +kernel
theorem dX3_learn_9 : decode cX3_learn 9 = .ok (.iconst 1, 1) := by decide +kernel
theorem dX3_learn_10 : decode cX3_learn 10 = .ok (.iadd, 1) := by decide +kernel
theorem dX3_learn_11 : decode cX3_learn 11 = .ok (.putfield 15, 3) := by decide +kernel
theorem dX3_learn_14 : decode cX3_learn 14 = .ok (.aload_n 0, 1) := by decide +kernel
theorem dX3_learn_15 : decode cX3_learn 15 = .ok (.getfield 15, 3) := by decide +kernel
theorem dX3_learn_18 : decode cX3_learn 18 = .ok (.sipush 1000, 3) := by decide +kernel
theorem dX3_learn_21 : decode cX3_learn 21 = .ok (.if_icmp .le 8, 3) := by decide +kernel
theorem dX3_learn_24 : decode cX3_learn 24 = .ok (.aload_n 0, 1) := by decide +kernel
theorem dX3_learn_25 : decode cX3_learn 25 = .ok (.iconst (-1), 1) := by decide +kernel
theorem dX3_learn_26 : decode cX3_learn 26 = .ok (.putfield 9, 3) := by decide +kernel
theorem dX3_learn_29 : decode cX3_learn 29 = .ok (.return_, 1) := by decide +kernel
theorem dX3_learn_30 : decode cX3_learn 30 = .ok (.aload_n 0, 1) := by decide +kernel
theorem dX3_learn_31 : decode cX3_learn 31 = .ok (.getfield 18, 3) := by decide +kernel
theorem dX3_learn_34 : decode cX3_learn 34 = .ok (.ifCond .eq 31, 3) := by decide +kernel
theorem dX3_learn_37 : decode cX3_learn 37 = .ok (.aload_n 0, 1) := by decide +kernel
theorem dX3_learn_38 : decode cX3_learn 38 = .ok (.getfield 18, 3) := by decide +kernel
theorem dX3_learn_41 : decode cX3_learn 41 = .ok (.aload_n 0, 1) := by decide +kernel
theorem dX3_learn_42 : decode cX3_learn 42 = .ok (.getfield 15, 3) := by decide +kernel
theorem dX3_learn_45 : decode cX3_learn 45 = .ok (.if_icmp .ne 20, 3) := by decide +kernel
theorem dX3_learn_48 : decode cX3_learn 48 = .ok (.aload_n 0, 1) := by decide +kernel
theorem dX3_learn_49 : decode cX3_learn 49 = .ok (.aload_n 0, 1) := by decide +kernel
theorem dX3_learn_50 : decode cX3_learn 50 = .ok (.getfield 21, 3) := by decide +kernel
theorem dX3_learn_53 : decode cX3_learn 53 = .ok (.iconst 1, 1) := by decide +kernel
theorem dX3_learn_54 : decode cX3_learn 54 = .ok (.iadd, 1) := by decide +kernel
theorem dX3_learn_55 : decode cX3_learn 55 = .ok (.iconst 3, 1) := by decide +kernel
theorem dX3_learn_56 : decode cX3_learn 56 = .ok (.invokestatic 24, 3) := by decide +kernel
theorem dX3_learn_59 : decode cX3_learn 59 = .ok (.putfield 21, 3) := by decide +kernel
theorem dX3_learn_62 : decode cX3_learn 62 = .ok (.goto 16, 3) := by decide +kernel
theorem dX3_learn_65 : decode cX3_learn 65 = .ok (.aload_n 0, 1) := by decide +kernel
theorem dX3_learn_66 : decode cX3_learn 66 = .ok (.aload_n 0, 1) := by decide +kernel
theorem dX3_learn_67 : decode cX3_learn 67 = .ok (.getfield 15, 3) := by decide +kernel
theorem dX3_learn_70 : decode cX3_learn 70 = .ok (.putfield 18, 3) := by decide +kernel
theorem dX3_learn_73 : decode cX3_learn 73 = .ok (.aload_n 0, 1) := by decide +kernel
theorem dX3_learn_74 : decode cX3_learn 74 = .ok (.iconst 0, 1) := by decide +kernel
theorem dX3_learn_75 : decode cX3_learn 75 = .ok (.putfield 21, 3) := by decide +kernel
theorem dX3_learn_78 : decode cX3_learn 78 = .ok (.aload_n 0, 1) := by decide +kernel
theorem dX3_learn_79 : decode cX3_learn 79 = .ok (.iconst 0, 1) := by decide +kernel
theorem dX3_learn_80 : decode cX3_learn 80 = .ok (.putfield 15, 3) := by decide +kernel
theorem dX3_learn_83 : decode cX3_learn 83 = .ok (.return_, 1) := by decide +kernel
set_option maxRecDepth 20000 in
theorem ggX3_mixInto_X3_isFree : GoodIn wsX3_mixInto wsX3_isFree := goodIn_r _ [10, 2, 15, 16, 17, 18] (by decide +kernel) (by decide +kernel)
set_option maxRecDepth 20000 in
theorem gX3_mixInto_X3_isFree : GoodIn wsX3_mixInto (wsV RX3 30 RX3 yX3_isFree wsX3_isFree) := goodIn_app (goodIn_of _ (by decide +kernel)) ggX3_mixInto_X3_isFree
set_option maxRecDepth 20000 in
theorem ggX3_mixInto_X4_mix : GoodIn wsX3_mixInto wsX4_mix := goodIn_r _ [13, 14] (by decide +kernel) (by decide +kernel)
set_option maxRecDepth 20000 in
theorem gX3_mixInto_X4_mix_n36 : GoodIn wsX3_mixInto (wsX4_mix) := ggX3_mixInto_X4_mix
theorem dX3_mixInto_0 : decode cX3_mixInto 0 = .ok (.aload_n 0, 1) := by decide +kernel
theorem dX3_mixInto_1 : decode cX3_mixInto 1 = .ok (.invokevirtual 30, 3) := by decide +kernel
theorem dX3_mixInto_4 : decode cX3_mixInto 4 = .ok (.istore_n 3, 1) := by decide +kernel
theorem dX3_mixInto_5 : decode cX3_mixInto 5 = .ok (.lload_n 1, 1) := by decide +kernel
theorem dX3_mixInto_6 : decode cX3_mixInto 6 = .ok (.iload_n 3, 1) := by decide +kernel
theorem dX3_mixInto_7 : decode cX3_mixInto 7 = .ok (.ifCond .eq 9, 3) := by decide +kernel
theorem dX3_mixInto_10 : decode cX3_mixInto 10 = .ok (.ldc2_w 34, 3) := by decide +kernel
theorem dX3_mixInto_13 : decode cX3_mixInto 13 = .ok (.goto 8, 3) := by decide +kernel
theorem dX3_mixInto_16 : decode cX3_mixInto 16 = .ok (.aload_n 0, 1) := by decide +kernel
theorem dX3_mixInto_17 : decode cX3_mixInto 17 = .ok (.getfield 9, 3) := by decide +kernel
theorem dX3_mixInto_20 : decode cX3_mixInto 20 = .ok (.i2l, 1) := by decide +kernel
theorem dX3_mixInto_21 : decode cX3_mixInto 21 = .ok (.invokestatic 36, 3) := by decide +kernel
theorem dX3_mixInto_24 : decode cX3_mixInto 24 = .ok (.lstore 4, 2) := by decide +kernel
theorem dX3_mixInto_26 : decode cX3_mixInto 26 = .ok (.lload 4, 2) := by decide +kernel
theorem dX3_mixInto_28 : decode cX3_mixInto 28 = .ok (.iload_n 3, 1) := by decide +kernel
theorem dX3_mixInto_29 : decode cX3_mixInto 29 = .ok (.ifCond .eq 9, 3) := by decide +kernel
theorem dX3_mixInto_32 : decode cX3_mixInto 32 = .ok (.ldc2_w 34, 3) := by decide +kernel
theorem dX3_mixInto_35 : decode cX3_mixInto 35 = .ok (.goto 8, 3) := by decide +kernel
theorem dX3_mixInto_38 : decode cX3_mixInto 38 = .ok (.aload_n 0, 1) := by decide +kernel
theorem dX3_mixInto_39 : decode cX3_mixInto 39 = .ok (.getfield 15, 3) := by decide +kernel
theorem dX3_mixInto_42 : decode cX3_mixInto 42 = .ok (.i2l, 1) := by decide +kernel
theorem dX3_mixInto_43 : decode cX3_mixInto 43 = .ok (.invokestatic 36, 3) := by decide +kernel
theorem dX3_mixInto_46 : decode cX3_mixInto 46 = .ok (.lstore 4, 2) := by decide +kernel
theorem dX3_mixInto_48 : decode cX3_mixInto 48 = .ok (.lload 4, 2) := by decide +kernel
theorem dX3_mixInto_50 : decode cX3_mixInto 50 = .ok (.iload_n 3, 1) := by decide +kernel
theorem dX3_mixInto_51 : decode cX3_mixInto 51 = .ok (.ifCond .eq 9, 3) := by decide +kernel
theorem dX3_mixInto_54 : decode cX3_mixInto 54 = .ok (.ldc2_w 34, 3) := by decide +kernel
theorem dX3_mixInto_57 : decode cX3_mixInto 57 = .ok (.goto 8, 3) := by decide +kernel
theorem dX3_mixInto_60 : decode cX3_mixInto 60 = .ok (.aload_n 0, 1) := by decide +kernel
theorem dX3_mixInto_61 : decode cX3_mixInto 61 = .ok (.getfield 18, 3) := by decide +kernel
theorem dX3_mixInto_64 : decode cX3_mixInto 64 = .ok (.i2l, 1) := by decide +kernel
theorem dX3_mixInto_65 : decode cX3_mixInto 65 = .ok (.invokestatic 36, 3) := by decide +kernel
theorem dX3_mixInto_68 : decode cX3_mixInto 68 = .ok (.lstore 4, 2) := by decide +kernel
theorem dX3_mixInto_70 : decode cX3_mixInto 70 = .ok (.lload 4, 2) := by decide +kernel
theorem dX3_mixInto_72 : decode cX3_mixInto 72 = .ok (.iload_n 3, 1) := by decide +kernel
theorem dX3_mixInto_73 : decode cX3_mixInto 73 = .ok (.ifCond .eq 9, 3) := by decide +kernel
theorem dX3_mixInto_76 : decode cX3_mixInto 76 = .ok (.ldc2_w 34, 3) := by decide +kernel
theorem dX3_mixInto_79 : decode cX3_mixInto 79 = .ok (.goto 8, 3) := by decide +kernel
theorem dX3_mixInto_82 : decode cX3_mixInto 82 = .ok (.aload_n 0, 1) := by decide +kernel
theorem dX3_mixInto_83 : decode cX3_mixInto 83 = .ok (.getfield 21, 3) := by decide +kernel
theorem dX3_mixInto_86 : decode cX3_mixInto 86 = .ok (.i2l, 1) := by decide +kernel
theorem dX3_mixInto_87 : decode cX3_mixInto 87 = .ok (.invokestatic 36, 3) := by decide +kernel
theorem dX3_mixInto_90 : decode cX3_mixInto 90 = .ok (.lreturn, 1) := by decide +kernel
set_option maxRecDepth 20000 in
theorem ggX4_init_X2_init : GoodIn wsX4_init wsX2_init := goodIn_r _ [29, 30, 2, 3, 31, 32, 33, 66, 67] (by decide +kernel) (by decide +kernel)
set_option maxRecDepth 20000 in
theorem gX4_init_X2_init_n11 : GoodIn wsX4_init (wsX2_init) := ggX4_init_X2_init
set_option maxRecDepth 20000 in
theorem ggX4_init_X0_init : GoodIn wsX4_init wsX0_init := goodIn_r _ [35, 36, 2, 3, 31, 37, 84, 85, 86] (by decide +kernel) (by decide +kernel)
set_option maxRecDepth 20000 in
theorem gX4_init_X0_init_n24 : GoodIn wsX4_init (wsX0_init) := ggX4_init_X0_init
set_option maxRecDepth 20000 in
theorem ggX4_init_X1_init : GoodIn wsX4_init wsX1_init := goodIn_r _ [39, 40, 2, 3] (by decide +kernel) (by decide +kernel)
set_option maxRecDepth 20000 in
theorem gX4_init_X1_init_n58 : GoodIn wsX4_init (wsX1_init) := ggX4_init_X1_init
set_option maxRecDepth 20000 in
theorem ggX4_init_X3_init : GoodIn wsX4_init wsX3_init := goodIn_r _ [42, 43, 2, 3, 44, 96, 97, 98, 99] (by decide +kernel) (by decide +kernel)
set_option maxRecDepth 20000 in
theorem gX4_init_X3_init_n59 : GoodIn wsX4_init (wsX3_init) := ggX4_init_X3_init
set_option maxRecDepth 20000 in
theorem ggX4_init_X4_startAnew : GoodIn wsX4_init wsX4_startAnew := goodIn_r _ [49, 21, 22, 23, 7, 8, 9, 13, 14, 18, 50, 20, 51, 52, 53, 54, 55, 56, 57, 58, 6, 59, 33, 32, 60, 61, 62, 12, 63, 37, 64, 65, 68, 69, 70, 71, 72, 73, 74, 75, 76, 77, 78, 79, 80, 81, 82, 83, 96, 97, 98, 99, 66, 67, 84, 85, 86] (by decide +kernel) (by decide +kernel)
set_option maxRecDepth 20000 in
theorem gX4_init_X4_startAnew : GoodIn wsX4_init (wsV RX4 60 RX4 yX4_startAnew wsX4_startAnew) := goodIn_app (goodIn_of _ (by decide +kernel)) ggX4_init_X4_startAnew
theorem dX4_init_0 : decode cX4_init 0 = .ok (.aload_n 0, 1) := by decide +kernel
theorem dX4_init_1 : decode cX4_init 1 = .ok (.invokespecial 3, 3) := by decide +kernel
theorem dX4_init_4 : decode cX4_init 4 = .ok (.aload_n 0, 1) := by decide +kernel
theorem dX4_init_5 : decode cX4_init 5 = .ok (.new 9, 3) := by decide +kernel
theorem dX4_init_8 : decode cX4_init 8 = .ok (.dup, 1) := by decide +kernel
theorem dX4_init_9 : decode cX4_init 9 = .ok (.invokespecial 11, 3) := by decide +kernel
theorem dX4_init_12 : decode cX4_init 12 = .ok (.putfield 12, 3) := by decide +kernel
theorem dX4_init_15 : decode cX4_init 15 = .ok (.aload_n 0, 1) := by decide +kernel
theorem dX4_init_16 : decode cX4_init 16 = .ok (.new 9, 3) := by decide +kernel
theorem dX4_init_19 : decode cX4_init 19 = .ok (.dup, 1) := by decide +kernel
theorem dX4_init_20 : decode cX4_init 20 = .ok (.invokespecial 11, 3) := by decide +kernel
theorem dX4_init_23 : decode cX4_init 23 = .ok (.putfield 16, 3) := by decide +kernel
theorem dX4_init_26 : decode cX4_init 26 = .ok (.aload_n 0, 1) := by decide +kernel
theorem dX4_init_27 : decode cX4_init 27 = .ok (.new 9, 3) := by decide +kernel
theorem dX4_init_30 : decode cX4_init 30 = .ok (.dup, 1) := by decide +kernel
theorem dX4_init_31 : decode cX4_init 31 = .ok (.invokespecial 11, 3) := by decide +kernel
theorem dX4_init_34 : decode cX4_init 34 = .ok (.putfield 19, 3) := by decide +kernel
theorem dX4_init_37 : decode cX4_init 37 = .ok (.aload_n 0, 1) := by decide +kernel
theorem dX4_init_38 : decode cX4_init 38 = .ok (.new 22, 3) := by decide +kernel
theorem dX4_init_41 : decode cX4_init 41 = .ok (.dup, 1) := by decide +kernel
theorem dX4_init_42 : decode cX4_init 42 = .ok (.invokespecial 24, 3) := by decide +kernel
theorem dX4_init_45 : decode cX4_init 45 = .ok (.putfield 25, 3) := by decide +kernel
theorem dX4_init_48 : decode cX4_init 48 = .ok (.aload_n 0, 1) := by decide +kernel
theorem dX4_init_49 : decode cX4_init 49 = .ok (.new 22, 3) := by decide +kernel
theorem dX4_init_52 : decode cX4_init 52 = .ok (.dup, 1) := by decide +kernel
theorem dX4_init_53 : decode cX4_init 53 = .ok (.invokespecial 24, 3) := by decide +kernel
theorem dX4_init_56 : decode cX4_init 56 = .ok (.putfield 29, 3) := by decide +kernel
theorem dX4_init_59 : decode cX4_init 59 = .ok (.aload_n 0, 1) := by decide +kernel
theorem dX4_init_60 : decode cX4_init 60 = .ok (.bipush 16, 2) := by decide +kernel
theorem dX4_init_62 : decode cX4_init 62 = .ok (.anewarray 32, 3) := by decide +kernel
theorem dX4_init_65 : decode cX4_init 65 = .ok (.putfield 34, 3) := by decide +kernel
theorem dX4_init_68 : decode cX4_init 68 = .ok (.aload_n 0, 1) := by decide +kernel
theorem dX4_init_69 : decode cX4_init 69 = .ok (.bipush 8, 2) := by decide +kernel
theorem dX4_init_71 : decode cX4_init 71 = .ok (.anewarray 38, 3) := by decide +kernel
theorem dX4_init_74 : decode cX4_init 74 = .ok (.putfield 40, 3) := by decide +kernel
theorem dX4_init_77 : decode cX4_init 77 = .ok (.aload_n 0, 1) := by decide +kernel
theorem dX4_init_78 : decode cX4_init 78 = .ok (.iconst 4, 1) := by decide +kernel
theorem dX4_init_79 : decode cX4_init 79 = .ok (.newarray .long, 2) := by decide +kernel
theorem dX4_init_81 : decode cX4_init 81 = .ok (.putfield 44, 3) := by decide +kernel
theorem dX4_init_84 : decode cX4_init 84 = .ok (.aload_n 0, 1) := by decide +kernel
theorem dX4_init_85 : decode cX4_init 85 = .ok (.iconst 4, 1) := by decide +kernel
theorem dX4_init_86 : decode cX4_init 86 = .ok (.putfield 48, 3) := by decide +kernel
theorem dX4_init_89 : decode cX4_init 89 = .ok (.aload_n 0, 1) := by decide +kernel
theorem dX4_init_90 : decode cX4_init 90 = .ok (.iconst 4, 1) := by decide +kernel
theorem dX4_init_91 : decode cX4_init 91 = .ok (.putfield 52, 3) := by decide +kernel
theorem dX4_init_94 : decode cX4_init 94 = .ok (.aload_n 0, 1) := by decide +kernel
theorem dX4_init_95 : decode cX4_init 95 = .ok (.iconst 4, 1) := by decide +kernel
theorem dX4_init_96 : decode cX4_init 96 = .ok (.putfield 55, 3) := by decide +kernel
theorem dX4_init_99 : decode cX4_init 99 = .ok (.iconst 0, 1) := by decide +kernel
theorem dX4_init_100 : decode cX4_init 100 = .ok (.istore_n 1, 1) := by decide +kernel
theorem dX4_init_101 : decode cX4_init 101 = .ok (.iload_n 1, 1) := by decide +kernel
theorem dX4_init_102 : decode cX4_init 102 = .ok (.bipush 16, 2) := by decide +kernel
theorem dX4_init_104 : decode cX4_init 104 = .ok (.if_icmp .ge 22, 3) := by decide +kernel
theorem dX4_init_107 : decode cX4_init 107 = .ok (.aload_n 0, 1) := by decide +kernel
theorem dX4_init_108 : decode cX4_init 108 = .ok (.getfield 34, 3) := by decide +kernel
theorem dX4_init_111 : decode cX4_init 111 = .ok (.iload_n 1, 1) := by decide +kernel
theorem dX4_init_112 : decode cX4_init 112 = .ok (.new 32, 3) := by decide +kernel
theorem dX4_init_115 : decode cX4_init 115 = .ok (.dup, 1) := by decide +kernel
theorem dX4_init_116 : decode cX4_init 116 = .ok (.invokespecial 58, 3) := by decide +kernel
theorem dX4_init_119 : decode cX4_init 119 = .ok (.aastore, 1) := by decide +kernel
theorem dX4_init_120 : decode cX4_init 120 = .ok (.iinc 1 1, 3) := by decide +kernel
theorem dX4_init_123 : decode cX4_init 123 = .ok (.goto (-22), 3) := by decide +kernel
theorem dX4_init_126 : decode cX4_init 126 = .ok (.iconst 0, 1) := by decide +kernel
theorem dX4_init_127 : decode cX4_init 127 = .ok (.istore_n 1, 1) := by decide +kernel
theorem dX4_init_128 : decode cX4_init 128 = .ok (.iload_n 1, 1) := by decide +kernel
theorem dX4_init_129 : decode cX4_init 129 = .ok (.bipush 8, 2) := by decide +kernel
theorem dX4_init_131 : decode cX4_init 131 = .ok (.if_icmp .ge 22, 3) := by decide +kernel
theorem dX4_init_134 : decode cX4_init 134 = .ok (.aload_n 0, 1) := by decide +kernel
theorem dX4_init_135 : decode cX4_init 135 = .ok (.getfield 40, 3) := by decide +kernel
theorem dX4_init_138 : decode cX4_init 138 = .ok (.iload_n 1, 1) := by decide +kernel
theorem dX4_init_139 : decode cX4_init 139 = .ok (.new 38, 3) := by decide +kernel
theorem dX4_init_142 : decode cX4_init 142 = .ok (.dup, 1) := by decide +kernel
theorem dX4_init_143 : decode cX4_init 143 = .ok (.invokespecial 59, 3) := by decide +kernel
theorem dX4_init_146 : decode cX4_init 146 = .ok (.aastore, 1) := by decide +kernel
theorem dX4_init_147 : decode cX4_init 147 = .ok (.iinc 1 1, 3) := by decide +kernel
theorem dX4_init_150 : decode cX4_init 150 = .ok (.goto (-22), 3) := by decide +kernel
theorem dX4_init_153 : decode cX4_init 153 = .ok (.aload_n 0, 1) := by decide +kernel
theorem dX4_init_154 : decode cX4_init 154 = .ok (.iconst 4, 1) := by decide +kernel
theorem dX4_init_155 : decode cX4_init 155 = .ok (.iconst 4, 1) := by decide +kernel
theorem dX4_init_156 : decode cX4_init 156 = .ok (.iconst 4, 1) := by decide +kernel
theorem dX4_init_157 : decode cX4_init 157 = .ok (.invokevirtual 60, 3) := by decide +kernel
theorem dX4_init_160 : decode cX4_init 160 = .ok (.return_, 1) := by decide +kernel
set_option maxRecDepth 20000 in
theorem ggX4_setSizes_X4_isTableBits : GoodIn wsX4_setSizes wsX4_isTableBits := goodIn_r _ [9] (by decide +kernel) (by decide +kernel)
set_option maxRecDepth 20000 in
theorem gX4_setSizes_X4_isTableBits : GoodIn wsX4_setSizes (va_wsS RX4 64 yX4_isTableBits wsX4_isTableBits) := goodIn_app (goodIn_of _ (by decide +kernel)) ggX4_setSizes_X4_isTableBits
set_option maxRecDepth 20000 in
theorem ggX4_setSizes_X4_startAnew : GoodIn wsX4_setSizes wsX4_startAnew := goodIn_r _ [13, 3, 4, 5, 14, 15, 16, 17, 18, 19, 20, 21, 22, 23, 24, 25, 26, 27, 28, 29, 30, 31, 32, 33, 34, 35, 36, 37, 38, 39, 40, 41, 42, 43, 44, 45, 46, 47, 48, 49, 50, 51, 52, 53, 54, 55, 56, 57, 58, 59, 60, 61, 62, 63, 64, 65, 66] (by decide +kernel) (by decide +kernel)
set_option maxRecDepth 20000 in
theorem gX4_setSizes_X4_startAnew : GoodIn wsX4_setSizes (wsV RX4 60 RX4 yX4_startAnew wsX4_startAnew) := goodIn_app (goodIn_of _ (by decide +kernel)) ggX4_setSizes_X4_startAnew
theorem dX4_setSizes_0 : decode cX4_setSizes 0 = .ok (.iload_n 1, 1) := by decide +kernel
theorem dX4_setSizes_1 : decode cX4_setSizes 1 = .ok (.invokestatic 64, 3) := by decide +kernel
theorem dX4_setSizes_4 : decode cX4_setSizes 4 = .ok (.ifCond .eq 19, 3) := by decide +kernel
theorem dX4_setSizes_7 : decode cX4_setSizes 7 = .ok (.iload_n 2, 1) := by decide +kernel
theorem dX4_setSizes_8 : decode cX4_setSizes 8 = .ok (.invokestatic 64, 3) := by decide +kernel
theorem dX4_setSizes_11 : decode cX4_setSizes 11 = .ok (.ifCond .eq 12, 3) := by decide +kernel
theorem dX4_setSizes_14 : decode cX4_setSizes 14 = .ok (.iload_n 3, 1) := by decide +kernel
theorem dX4_setSizes_15 : decode cX4_setSizes 15 = .ok (.ifCond .lt 8, 3) := by decide +kernel
theorem dX4_setSizes_18 : decode cX4_setSizes 18 = .ok (.iload_n 3, 1) := by decide +kernel
theorem dX4_setSizes_19 : decode cX4_setSizes 19 = .ok (.iload_n 2, 1) := by decide +kernel
theorem dX4_setSizes_20 : decode cX4_setSizes 20 = .ok (.if_icmp .le 13, 3) := by decide +kernel
theorem dX4_setSizes_23 : decode cX4_setSizes 23 = .ok (.new 68, 3) := by decide +kernel
theorem dX4_setSizes_26 : decode cX4_setSizes 26 = .ok (.dup, 1) := by decide +kernel
theorem dX4_setSizes_27 : decode cX4_setSizes 27 = .ok (.ldc 70, 2) := by decide +kernel
theorem dX4_setSizes_29 : decode cX4_setSizes 29 = .ok (.invokespecial 72, 3) := by decide +kernel
theorem dX4_setSizes_32 : decode cX4_setSizes 32 = .ok (.athrow, 1) := by decide +kernel
theorem dX4_setSizes_33 : decode cX4_setSizes 33 = .ok (.iload_n 1, 1) := by decide +kernel
theorem dX4_setSizes_34 : decode cX4_setSizes 34 = .ok (.aload_n 0, 1) := by decide +kernel
theorem dX4_setSizes_35 : decode cX4_setSizes 35 = .ok (.getfield 48, 3) := by decide +kernel
theorem dX4_setSizes_38 : decode cX4_setSizes 38 = .ok (.if_icmp .ne 19, 3) := by decide +kernel
theorem dX4_setSizes_41 : decode cX4_setSizes 41 = .ok (.iload_n 2, 1) := by decide +kernel
theorem dX4_setSizes_42 : decode cX4_setSizes 42 = .ok (.aload_n 0, 1) := by decide +kernel
theorem dX4_setSizes_43 : decode cX4_setSizes 43 = .ok (.getfield 52, 3) := by decide +kernel
theorem dX4_setSizes_46 : decode cX4_setSizes 46 = .ok (.if_icmp .ne 11, 3) := by decide +kernel
theorem dX4_setSizes_49 : decode cX4_setSizes 49 = .ok (.iload_n 3, 1) := by decide +kernel
theorem dX4_setSizes_50 : decode cX4_setSizes 50 = .ok (.aload_n 0, 1) := by decide +kernel
theorem dX4_setSizes_51 : decode cX4_setSizes 51 = .ok (.getfield 55, 3) := by decide +kernel
theorem dX4_setSizes_54 : decode cX4_setSizes 54 = .ok (.if_icmp .eq 7, 3) := by decide +kernel
theorem dX4_setSizes_57 : decode cX4_setSizes 57 = .ok (.iconst 1, 1) := by decide +kernel
theorem dX4_setSizes_58 : decode cX4_setSizes 58 = .ok (.goto 4, 3) := by decide +kernel
theorem dX4_setSizes_61 : decode cX4_setSizes 61 = .ok (.iconst 0, 1) := by decide +kernel
theorem dX4_setSizes_62 : decode cX4_setSizes 62 = .ok (.istore 4, 2) := by decide +kernel
theorem dX4_setSizes_64 : decode cX4_setSizes 64 = .ok (.aload_n 0, 1) := by decide +kernel
theorem dX4_setSizes_65 : decode cX4_setSizes 65 = .ok (.iload_n 1, 1) := by decide +kernel
theorem dX4_setSizes_66 : decode cX4_setSizes 66 = .ok (.iload_n 2, 1) := by decide +kernel
theorem dX4_setSizes_67 : decode cX4_setSizes 67 = .ok (.iload_n 3, 1) := by decide +kernel
theorem dX4_setSizes_68 : decode cX4_setSizes 68 = .ok (.invokevirtual 60, 3) := by decide +kernel
theorem dX4_setSizes_71 : decode cX4_setSizes 71 = .ok (.iload 4, 2) := by decide +kernel
theorem dX4_setSizes_73 : decode cX4_setSizes 73 = .ok (.ireturn, 1) := by decide +kernel
set_option maxRecDepth 20000 in
theorem ggX4_predict_X4_requirePlace : GoodIn wsX4_predict wsX4_requirePlace := goodIn_ca (goodIn_r _ [7, 8, 9, 10] (by decide +kernel) (by decide +kernel)) (goodIn_sub (fun _ h => List.mem_cons_of_mem _ (List.mem_append_right _ h)) (by decide +kernel))
set_option maxRecDepth 20000 in
theorem gX4_predict_X4_requirePlace : GoodIn wsX4_predict (va_wsS RX4 75 yX4_requirePlace wsX4_requirePlace) := goodIn_app (goodIn_of _ (by decide +kernel)) ggX4_predict_X4_requirePlace
set_option maxRecDepth 20000 in
theorem ggX4_predict_X4_launch : GoodIn wsX4_predict wsX4_launch := goodIn_r _ [14, 3, 15, 16, 17, 18, 19, 20, 21, 22, 23, 24, 25, 26, 27, 28, 29, 30, 6, 31, 32, 33, 34, 35, 36, 37, 38, 39, 40, 41, 42, 43, 44, 45, 46, 47, 48, 49, 50, 51, 52, 53, 54, 55, 56, 57, 58, 59, 60, 61, 62, 63, 64, 65, 66, 67, 68, 69, 70, 71, 72, 73, 74, 75, 76, 77, 78, 79, 80, 81, 82, 83, 84, 85, 86, 87, 88, 89, 90, 91, 92, 93, 94, 95, 96, 97, 98, 99, 100, 101, 102, 103, 104, 105, 106, 107, 108] (by decide +kernel) (by decide +kernel)
set_option maxRecDepth 20000 in
theorem gX4_predict_X4_launch : GoodIn wsX4_predict (wsV RX4 87 RX4 yX4_launch wsX4_launch) := goodIn_app (goodIn_of _ (by decide +kernel)) ggX4_predict_X4_launch
theorem dX4_predict_0 : decode cX4_predict 0 = .ok (.iload_n 1, 1) := by decide +kernel
theorem dX4_predict_1 : decode cX4_predict 1 = .ok (.invokestatic 75, 3) := by decide +kernel
theorem dX4_predict_4 : decode cX4_predict 4 = .ok (.aload_n 0, 1) := by decide +kernel
theorem dX4_predict_5 : decode cX4_predict 5 = .ok (.getfield 79, 3) := by decide +kernel
theorem dX4_predict_8 : decode cX4_predict 8 = .ok (.bipush 16, 2) := by decide +kernel
theorem dX4_predict_10 : decode cX4_predict 10 = .ok (.if_icmp .lt 13, 3) := by decide +kernel
theorem dX4_predict_13 : decode cX4_predict 13 = .ok (.new 82, 3) := by decide +kernel
theorem dX4_predict_16 : decode cX4_predict 16 = .ok (.dup, 1) := by decide +kernel
theorem dX4_predict_17 : decode cX4_predict 17 = .ok (.ldc 84, 2) := by decide +kernel
theorem dX4_predict_19 : decode cX4_predict 19 = .ok (.invokespecial 86, 3) := by decide +kernel
theorem dX4_predict_22 : decode cX4_predict 22 = .ok (.athrow, 1) := by decide +kernel
theorem dX4_predict_23 : decode cX4_predict 23 = .ok (.aload_n 0, 1) := by decide +kernel
theorem dX4_predict_24 : decode cX4_predict 24 = .ok (.iload_n 1, 1) := by decide +kernel
theorem dX4_predict_25 : decode cX4_predict 25 = .ok (.invokevirtual 87, 3) := by decide +kernel
theorem dX4_predict_28 : decode cX4_predict 28 = .ok (.ireturn, 1) := by decide +kernel
set_option maxRecDepth 20000 in
theorem ggX4_resolve_X4_requireInFlight : GoodIn wsX4_resolve wsX4_requireInFlight := goodIn_ca (goodIn_r _ [8, 9, 10, 11, 44, 45, 46, 47, 48, 49, 50, 51, 52, 53, 54, 55, 56, 57, 58, 59] (by decide +kernel) (by decide +kernel)) (goodIn_sub (fun _ h => List.mem_cons_of_mem _ (List.mem_append_right _ h)) (by decide +kernel))
set_option maxRecDepth 20000 in
theorem gX4_resolve_X4_requireInFlight : GoodIn wsX4_resolve (wsV RX4 90 RX4 yX4_requireInFlight wsX4_requireInFlight) := goodIn_app (goodIn_of _ (by decide +kernel)) ggX4_resolve_X4_requireInFlight
set_option maxRecDepth 20000 in
theorem ggX4_resolve_X4_branchAt : GoodIn wsX4_resolve wsX4_branchAt := goodIn_r _ [15, 16, 17, 44, 45, 46, 47, 48, 49, 50, 51, 52, 53, 54, 55, 56, 57, 58, 59] (by decide +kernel) (by decide +kernel)
set_option maxRecDepth 20000 in
theorem gX4_resolve_X4_branchAt : GoodIn wsX4_resolve (wsV RX4 93 RX4 yX4_branchAt wsX4_branchAt) := goodIn_app (goodIn_of _ (by decide +kernel)) ggX4_resolve_X4_branchAt
set_option maxRecDepth 20000 in
theorem ggX4_resolve_X4_settle : GoodIn wsX4_resolve wsX4_settle := goodIn_r _ [21, 22, 3, 23, 24, 12, 13, 14, 7, 15, 16, 17, 25, 26, 27, 28, 29, 30, 31, 32, 33, 11, 34, 35, 36, 37, 38, 39, 40, 41, 42, 43, 44, 45, 46, 47, 48, 49, 50, 51, 52, 53, 54, 55, 56, 57, 58, 59] (by decide +kernel) (by decide +kernel)
set_option maxRecDepth 20000 in
theorem gX4_resolve_X4_settle : GoodIn wsX4_resolve (wsV RX4 102 RX4 yX4_settle wsX4_settle) := goodIn_app (goodIn_of _ (by decide +kernel)) ggX4_resolve_X4_settle
theorem dX4_resolve_0 : decode cX4_resolve 0 = .ok (.aload_n 0, 1) := by decide +kernel
theorem dX4_resolve_1 : decode cX4_resolve 1 = .ok (.iload_n 1, 1) := by decide +kernel
theorem dX4_resolve_2 : decode cX4_resolve 2 = .ok (.invokevirtual 90, 3) := by decide +kernel
theorem dX4_resolve_5 : decode cX4_resolve 5 = .ok (.aload_n 0, 1) := by decide +kernel
theorem dX4_resolve_6 : decode cX4_resolve 6 = .ok (.iload_n 1, 1) := by decide +kernel
theorem dX4_resolve_7 : decode cX4_resolve 7 = .ok (.invokevirtual 93, 3) := by decide +kernel
theorem dX4_resolve_10 : decode cX4_resolve 10 = .ok (.getfield 97, 3) := by decide +kernel
theorem dX4_resolve_13 : decode cX4_resolve 13 = .ok (.ifCond .eq 13, 3) := by decide +kernel
theorem dX4_resolve_16 : decode cX4_resolve 16 = .ok (.new 82, 3) := by decide +kernel
theorem dX4_resolve_19 : decode cX4_resolve 19 = .ok (.dup, 1) := by decide +kernel
theorem dX4_resolve_20 : decode cX4_resolve 20 = .ok (.ldc 100, 2) := by decide +kernel
theorem dX4_resolve_22 : decode cX4_resolve 22 = .ok (.invokespecial 86, 3) := by decide +kernel
theorem dX4_resolve_25 : decode cX4_resolve 25 = .ok (.athrow, 1) := by decide +kernel
theorem dX4_resolve_26 : decode cX4_resolve 26 = .ok (.aload_n 0, 1) := by decide +kernel
theorem dX4_resolve_27 : decode cX4_resolve 27 = .ok (.iload_n 1, 1) := by decide +kernel
theorem dX4_resolve_28 : decode cX4_resolve 28 = .ok (.iload_n 2, 1) := by decide +kernel
theorem dX4_resolve_29 : decode cX4_resolve 29 = .ok (.invokevirtual 102, 3) := by decide +kernel
theorem dX4_resolve_32 : decode cX4_resolve 32 = .ok (.ireturn, 1) := by decide +kernel
set_option maxRecDepth 20000 in
theorem ggX4_commit_X4_branchAt : GoodIn wsX4_commit wsX4_branchAt := goodIn_r _ [9, 10, 11, 115, 116, 117, 118, 119, 120, 121, 122, 123, 124, 125, 126, 127, 128, 129, 130] (by decide +kernel) (by decide +kernel)
set_option maxRecDepth 20000 in
theorem gX4_commit_X4_branchAt : GoodIn wsX4_commit (wsV RX4 93 RX4 yX4_branchAt wsX4_branchAt) := goodIn_app (goodIn_of _ (by decide +kernel)) ggX4_commit_X4_branchAt
set_option maxRecDepth 20000 in
theorem ggX4_commit_X4_retire : GoodIn wsX4_commit wsX4_retire := goodIn_r _ [15, 16, 17, 18, 19, 20, 21, 22, 23, 11, 3, 4, 5, 6, 7, 8, 9, 10, 24, 25, 26, 27, 28, 29, 30, 31, 32, 33, 34, 35, 36, 37, 38, 39, 40, 41, 42, 43, 44, 45, 46, 47, 48, 49, 50, 51, 52, 53, 54, 55, 56, 57, 58, 59, 60, 61, 62, 63, 64, 65, 66, 67, 68, 69, 70, 71, 72, 73, 74, 75, 76, 77, 78, 79, 80, 81, 82, 83, 84, 85, 86, 87, 88, 89, 90, 91, 92, 93, 94, 95, 96, 97, 98, 99, 100, 101, 102, 103, 104, 105, 106, 107, 108, 109, 110, 111, 112, 113, 114, 115, 116, 117, 118, 119, 120, 121, 122, 123, 124, 125, 126, 127, 128, 129, 130, 131, 132, 133, 134, 135, 136, 137, 138, 139, 140, 141, 142, 143, 144, 145, 146, 147, 148] (by decide +kernel) (by decide +kernel)
set_option maxRecDepth 20000 in
theorem gX4_commit_X4_retire : GoodIn wsX4_commit (wsV RX4 108 RX4 yX4_retire wsX4_retire) := goodIn_app (goodIn_of _ (by decide +kernel)) ggX4_commit_X4_retire
theorem dX4_commit_0 : decode cX4_commit 0 = .ok (.aload_n 0, 1) := by decide +kernel
theorem dX4_commit_1 : decode cX4_commit 1 = .ok (.getfield 79, 3) := by decide +kernel
theorem dX4_commit_4 : decode cX4_commit 4 = .ok (.ifCond .eq 14, 3) := by decide +kernel
theorem dX4_commit_7 : decode cX4_commit 7 = .ok (.aload_n 0, 1) := by decide +kernel
theorem dX4_commit_8 : decode cX4_commit 8 = .ok (.iconst 0, 1) := by decide +kernel
theorem dX4_commit_9 : decode cX4_commit 9 = .ok (.invokevirtual 93, 3) := by decide +kernel
theorem dX4_commit_12 : decode cX4_commit 12 = .ok (.getfield 97, 3) := by decide +kernel
theorem dX4_commit_15 : decode cX4_commit 15 = .ok (.ifCond .ne 13, 3) := by decide +kernel
theorem dX4_commit_18 : decode cX4_commit 18 = .ok (.new 82, 3) := by decide +kernel
theorem dX4_commit_21 : decode cX4_commit 21 = .ok (.dup, 1) := by decide +kernel
theorem dX4_commit_22 : decode cX4_commit 22 = .ok (.ldc 106, 2) := by decide +kernel
theorem dX4_commit_24 : decode cX4_commit 24 = .ok (.invokespecial 86, 3) := by decide +kernel
theorem dX4_commit_27 : decode cX4_commit 27 = .ok (.athrow, 1) := by decide +kernel
theorem dX4_commit_28 : decode cX4_commit 28 = .ok (.aload_n 0, 1) := by decide +kernel
theorem dX4_commit_29 : decode cX4_commit 29 = .ok (.invokevirtual 108, 3) := by decide +kernel
theorem dX4_commit_32 : decode cX4_commit 32 = .ok (.ireturn, 1) := by decide +kernel
set_option maxRecDepth 20000 in
theorem ggX4_train_X4_requirePlace : GoodIn wsX4_train wsX4_requirePlace := goodIn_ca (goodIn_r _ [7, 8, 9, 10] (by decide +kernel) (by decide +kernel)) (goodIn_sub (fun _ h => List.mem_cons_of_mem _ (List.mem_append_right _ h)) (by decide +kernel))
set_option maxRecDepth 20000 in
theorem gX4_train_X4_requirePlace : GoodIn wsX4_train (va_wsS RX4 75 yX4_requirePlace wsX4_requirePlace) := goodIn_app (goodIn_of _ (by decide +kernel)) ggX4_train_X4_requirePlace
set_option maxRecDepth 20000 in
theorem ggX4_train_X4_launch : GoodIn wsX4_train wsX4_launch := goodIn_r _ [14, 3, 15, 16, 17, 18, 19, 20, 21, 22, 23, 24, 25, 26, 27, 28, 29, 30, 6, 31, 32, 33, 34, 35, 36, 37, 38, 39, 40, 41, 42, 43, 44, 45, 46, 47, 48, 49, 50, 51, 52, 53, 54, 55, 56, 57, 58, 59, 60, 61, 62, 63, 64, 65, 66, 67, 68, 69, 70, 71, 72, 73, 74, 75, 76, 77, 158, 159, 160, 161, 162, 163, 164, 165, 166, 167, 168, 169, 170, 171, 172, 173, 174, 175, 176, 177, 178, 179, 180, 181, 182, 183, 184, 185, 186, 187, 188] (by decide +kernel) (by decide +kernel)
set_option maxRecDepth 20000 in
theorem gX4_train_X4_launch : GoodIn wsX4_train (wsV RX4 87 RX4 yX4_launch wsX4_launch) := goodIn_app (goodIn_of _ (by decide +kernel)) ggX4_train_X4_launch
set_option maxRecDepth 20000 in
theorem ggX4_train_X4_settle : GoodIn wsX4_train wsX4_settle := goodIn_r _ [81, 27, 16, 18, 17, 28, 29, 30, 6, 31, 32, 33, 73, 74, 75, 76, 77, 82, 83, 84, 85, 3, 86, 174, 175, 176, 177, 178, 179, 180, 181, 182, 158, 159, 160, 161, 162, 163, 164, 165, 166, 167, 168, 169, 170, 171, 172, 173] (by decide +kernel) (by decide +kernel)
set_option maxRecDepth 20000 in
theorem gX4_train_X4_settle : GoodIn wsX4_train (wsV RX4 102 RX4 yX4_settle wsX4_settle) := goodIn_app (goodIn_of _ (by decide +kernel)) ggX4_train_X4_settle
set_option maxRecDepth 20000 in
theorem ggX4_train_X4_retire : GoodIn wsX4_train wsX4_retire := goodIn_r _ [90, 19, 91, 20, 15, 21, 92, 22, 93, 33, 3, 16, 28, 29, 30, 6, 31, 32, 66, 67, 68, 69, 70, 71, 72, 94, 95, 96, 97, 98, 99, 100, 101, 102, 103, 104, 105, 106, 107, 108, 109, 23, 24, 25, 110, 111, 112, 37, 113, 114, 115, 116, 117, 118, 119, 120, 48, 44, 45, 46, 47, 121, 122, 123, 40, 41, 42, 43, 124, 125, 126, 127, 128, 129, 130, 131, 132, 133, 134, 135, 53, 56, 57, 58, 59, 60, 136, 137, 138, 139, 140, 141, 142, 143, 144, 145, 146, 147, 148, 149, 54, 150, 151, 152, 153, 154, 155, 156, 157, 158, 159, 160, 161, 162, 163, 164, 165, 166, 167, 168, 169, 170, 171, 172, 173, 174, 175, 176, 177, 178, 179, 180, 181, 182, 183, 184, 189, 190, 191, 185, 186, 187, 188] (by decide +kernel) (by decide +kernel)
set_option maxRecDepth 20000 in
theorem gX4_train_X4_retire : GoodIn wsX4_train (wsV RX4 108 RX4 yX4_retire wsX4_retire) := goodIn_app (goodIn_of _ (by decide +kernel)) ggX4_train_X4_retire
theorem dX4_train_0 : decode cX4_train 0 = .ok (.iload_n 1, 1) := by decide +kernel
theorem dX4_train_1 : decode cX4_train 1 = .ok (.invokestatic 75, 3) := by decide +kernel
theorem dX4_train_4 : decode cX4_train 4 = .ok (.aload_n 0, 1) := by decide +kernel
theorem dX4_train_5 : decode cX4_train 5 = .ok (.getfield 79, 3) := by decide +kernel
theorem dX4_train_8 : decode cX4_train 8 = .ok (.ifCond .eq 13, 3) := by decide +kernel
theorem dX4_train_11 : decode cX4_train 11 = .ok (.new 82, 3) := by decide +kernel
theorem dX4_train_14 : decode cX4_train 14 = .ok (.dup, 1) := by decide +kernel
theorem dX4_train_15 : decode cX4_train 15 = .ok (.ldc 112, 2) := by decide +kernel
theorem dX4_train_17 : decode cX4_train 17 = .ok (.invokespecial 86, 3) := by decide +kernel
theorem dX4_train_20 : decode cX4_train 20 = .ok (.athrow, 1) := by decide +kernel
theorem dX4_train_21 : decode cX4_train 21 = .ok (.aload_n 0, 1) := by decide +kernel
theorem dX4_train_22 : decode cX4_train 22 = .ok (.iload_n 1, 1) := by decide +kernel
theorem dX4_train_23 : decode cX4_train 23 = .ok (.invokevirtual 87, 3) := by decide +kernel
theorem dX4_train_26 : decode cX4_train 26 = .ok (.pop, 1) := by decide +kernel
theorem dX4_train_27 : decode cX4_train 27 = .ok (.aload_n 0, 1) := by decide +kernel
theorem dX4_train_28 : decode cX4_train 28 = .ok (.iconst 0, 1) := by decide +kernel
theorem dX4_train_29 : decode cX4_train 29 = .ok (.iload_n 2, 1) := by decide +kernel
theorem dX4_train_30 : decode cX4_train 30 = .ok (.invokevirtual 102, 3) := by decide +kernel
theorem dX4_train_33 : decode cX4_train 33 = .ok (.pop, 1) := by decide +kernel
theorem dX4_train_34 : decode cX4_train 34 = .ok (.aload_n 0, 1) := by decide +kernel
theorem dX4_train_35 : decode cX4_train 35 = .ok (.invokevirtual 108, 3) := by decide +kernel
theorem dX4_train_38 : decode cX4_train 38 = .ok (.ifCond .ne 7, 3) := by decide +kernel
theorem dX4_train_41 : decode cX4_train 41 = .ok (.iconst 1, 1) := by decide +kernel
theorem dX4_train_42 : decode cX4_train 42 = .ok (.goto 4, 3) := by decide +kernel
theorem dX4_train_45 : decode cX4_train 45 = .ok (.iconst 0, 1) := by decide +kernel
theorem dX4_train_46 : decode cX4_train 46 = .ok (.ireturn, 1) := by decide +kernel
set_option maxRecDepth 20000 in
theorem ggX4_flush_X4_branchAt : GoodIn wsX4_flush wsX4_branchAt := goodIn_r _ [10, 11, 12, 18, 19, 20, 21, 22, 23, 24, 25, 26, 27, 28, 29, 30, 31, 32, 33] (by decide +kernel) (by decide +kernel)
set_option maxRecDepth 20000 in
theorem gX4_flush_X4_branchAt : GoodIn wsX4_flush (wsV RX4 93 RX4 yX4_branchAt wsX4_branchAt) := goodIn_app (goodIn_of _ (by decide +kernel)) ggX4_flush_X4_branchAt
set_option maxRecDepth 20000 in
theorem ggX4_flush_X4_dropFrom : GoodIn wsX4_flush wsX4_dropFrom := goodIn_r _ [16, 3, 17, 18, 19, 20, 21, 22, 23, 24, 25, 26, 27, 28, 29, 30, 31, 32, 33] (by decide +kernel) (by decide +kernel)
set_option maxRecDepth 20000 in
theorem gX4_flush_X4_dropFrom : GoodIn wsX4_flush (wsV RX4 122 RX4 yX4_dropFrom wsX4_dropFrom) := goodIn_app (goodIn_of _ (by decide +kernel)) ggX4_flush_X4_dropFrom
theorem dX4_flush_0 : decode cX4_flush 0 = .ok (.iload_n 1, 1) := by decide +kernel
theorem dX4_flush_1 : decode cX4_flush 1 = .ok (.ifCond .lt 11, 3) := by decide +kernel
theorem dX4_flush_4 : decode cX4_flush 4 = .ok (.iload_n 1, 1) := by decide +kernel
theorem dX4_flush_5 : decode cX4_flush 5 = .ok (.aload_n 0, 1) := by decide +kernel
theorem dX4_flush_6 : decode cX4_flush 6 = .ok (.getfield 79, 3) := by decide +kernel
theorem dX4_flush_9 : decode cX4_flush 9 = .ok (.if_icmp .le 13, 3) := by decide +kernel
theorem dX4_flush_12 : decode cX4_flush 12 = .ok (.new 68, 3) := by decide +kernel
theorem dX4_flush_15 : decode cX4_flush 15 = .ok (.dup, 1) := by decide +kernel
theorem dX4_flush_16 : decode cX4_flush 16 = .ok (.ldc 114, 2) := by decide +kernel
theorem dX4_flush_18 : decode cX4_flush 18 = .ok (.invokespecial 72, 3) := by decide +kernel
theorem dX4_flush_21 : decode cX4_flush 21 = .ok (.athrow, 1) := by decide +kernel
theorem dX4_flush_22 : decode cX4_flush 22 = .ok (.iload_n 1, 1) := by decide +kernel
theorem dX4_flush_23 : decode cX4_flush 23 = .ok (.ifCond .le 28, 3) := by decide +kernel
theorem dX4_flush_26 : decode cX4_flush 26 = .ok (.aload_n 0, 1) := by decide +kernel
theorem dX4_flush_27 : decode cX4_flush 27 = .ok (.getfield 79, 3) := by decide +kernel
theorem dX4_flush_30 : decode cX4_flush 30 = .ok (.iload_n 1, 1) := by decide +kernel
theorem dX4_flush_31 : decode cX4_flush 31 = .ok (.isub, 1) := by decide +kernel
theorem dX4_flush_32 : decode cX4_flush 32 = .ok (.istore_n 2, 1) := by decide +kernel
theorem dX4_flush_33 : decode cX4_flush 33 = .ok (.aload_n 0, 1) := by decide +kernel
theorem dX4_flush_34 : decode cX4_flush 34 = .ok (.aload_n 0, 1) := by decide +kernel
theorem dX4_flush_35 : decode cX4_flush 35 = .ok (.iload_n 2, 1) := by decide +kernel
theorem dX4_flush_36 : decode cX4_flush 36 = .ok (.invokevirtual 93, 3) := by decide +kernel
theorem dX4_flush_39 : decode cX4_flush 39 = .ok (.getfield 116, 3) := by decide +kernel
theorem dX4_flush_42 : decode cX4_flush 42 = .ok (.putfield 119, 3) := by decide +kernel
theorem dX4_flush_45 : decode cX4_flush 45 = .ok (.aload_n 0, 1) := by decide +kernel
theorem dX4_flush_46 : decode cX4_flush 46 = .ok (.iload_n 2, 1) := by decide +kernel
theorem dX4_flush_47 : decode cX4_flush 47 = .ok (.invokevirtual 122, 3) := by decide +kernel
theorem dX4_flush_50 : decode cX4_flush 50 = .ok (.pop, 1) := by decide +kernel
theorem dX4_flush_51 : decode cX4_flush 51 = .ok (.aload_n 0, 1) := by decide +kernel
theorem dX4_flush_52 : decode cX4_flush 52 = .ok (.getfield 79, 3) := by decide +kernel
theorem dX4_flush_55 : decode cX4_flush 55 = .ok (.ireturn, 1) := by decide +kernel
theorem dX4_inFlight_0 : decode cX4_inFlight 0 = .ok (.aload_n 0, 1) := by decide +kernel
theorem dX4_inFlight_1 : decode cX4_inFlight 1 = .ok (.getfield 79, 3) := by decide +kernel
theorem dX4_inFlight_4 : decode cX4_inFlight 4 = .ok (.ireturn, 1) := by decide +kernel
set_option maxRecDepth 20000 in
theorem ggX4_place_X4_requireInFlight : GoodIn wsX4_place wsX4_requireInFlight := goodIn_ca (goodIn_r _ [6, 7, 8, 9, 25, 26, 27, 28, 29, 30, 31, 32, 33, 34, 35, 36, 37, 38, 39, 40] (by decide +kernel) (by decide +kernel)) (goodIn_sub (fun _ h => List.mem_cons_of_mem _ (List.mem_append_right _ h)) (by decide +kernel))
set_option maxRecDepth 20000 in
theorem gX4_place_X4_requireInFlight : GoodIn wsX4_place (wsV RX4 90 RX4 yX4_requireInFlight wsX4_requireInFlight) := goodIn_app (goodIn_of _ (by decide +kernel)) ggX4_place_X4_requireInFlight
set_option maxRecDepth 20000 in
theorem ggX4_place_X4_branchAt : GoodIn wsX4_place wsX4_branchAt := goodIn_r _ [13, 14, 15, 25, 26, 27, 28, 29, 30, 31, 32, 33, 34, 35, 36, 37, 38, 39, 40] (by decide +kernel) (by decide +kernel)
set_option maxRecDepth 20000 in
theorem gX4_place_X4_branchAt : GoodIn wsX4_place (wsV RX4 93 RX4 yX4_branchAt wsX4_branchAt) := goodIn_app (goodIn_of _ (by decide +kernel)) ggX4_place_X4_branchAt
theorem dX4_place_0 : decode cX4_place 0 = .ok (.aload_n 0, 1) := by decide +kernel
theorem dX4_place_1 : decode cX4_place 1 = .ok (.iload_n 1, 1) := by decide +kernel
theorem dX4_place_2 : decode cX4_place 2 = .ok (.invokevirtual 90, 3) := by decide +kernel
theorem dX4_place_5 : decode cX4_place 5 = .ok (.aload_n 0, 1) := by decide +kernel
theorem dX4_place_6 : decode cX4_place 6 = .ok (.iload_n 1, 1) := by decide +kernel
theorem dX4_place_7 : decode cX4_place 7 = .ok (.invokevirtual 93, 3) := by decide +kernel
theorem dX4_place_10 : decode cX4_place 10 = .ok (.getfield 126, 3) := by decide +kernel
theorem dX4_place_13 : decode cX4_place 13 = .ok (.ireturn, 1) := by decide +kernel
set_option maxRecDepth 20000 in
theorem ggX4_state_X4_requireInFlight : GoodIn wsX4_state wsX4_requireInFlight := goodIn_ca (goodIn_r _ [6, 7, 8, 9, 25, 26, 27, 28, 29, 30, 31, 32, 33, 34, 35, 36, 37, 38, 39, 40] (by decide +kernel) (by decide +kernel)) (goodIn_sub (fun _ h => List.mem_cons_of_mem _ (List.mem_append_right _ h)) (by decide +kernel))
set_option maxRecDepth 20000 in
theorem gX4_state_X4_requireInFlight : GoodIn wsX4_state (wsV RX4 90 RX4 yX4_requireInFlight wsX4_requireInFlight) := goodIn_app (goodIn_of _ (by decide +kernel)) ggX4_state_X4_requireInFlight
set_option maxRecDepth 20000 in
theorem ggX4_state_X4_branchAt : GoodIn wsX4_state wsX4_branchAt := goodIn_r _ [13, 14, 15, 25, 26, 27, 28, 29, 30, 31, 32, 33, 34, 35, 36, 37, 38, 39, 40] (by decide +kernel) (by decide +kernel)
set_option maxRecDepth 20000 in
theorem gX4_state_X4_branchAt : GoodIn wsX4_state (wsV RX4 93 RX4 yX4_branchAt wsX4_branchAt) := goodIn_app (goodIn_of _ (by decide +kernel)) ggX4_state_X4_branchAt
theorem dX4_state_0 : decode cX4_state 0 = .ok (.aload_n 0, 1) := by decide +kernel
theorem dX4_state_1 : decode cX4_state 1 = .ok (.iload_n 1, 1) := by decide +kernel
theorem dX4_state_2 : decode cX4_state 2 = .ok (.invokevirtual 90, 3) := by decide +kernel
theorem dX4_state_5 : decode cX4_state 5 = .ok (.aload_n 0, 1) := by decide +kernel
theorem dX4_state_6 : decode cX4_state 6 = .ok (.iload_n 1, 1) := by decide +kernel
theorem dX4_state_7 : decode cX4_state 7 = .ok (.invokevirtual 93, 3) := by decide +kernel
theorem dX4_state_10 : decode cX4_state 10 = .ok (.getfield 97, 3) := by decide +kernel
theorem dX4_state_13 : decode cX4_state 13 = .ok (.ireturn, 1) := by decide +kernel
set_option maxRecDepth 20000 in
theorem ggX4_predicted_X4_requireInFlight : GoodIn wsX4_predicted wsX4_requireInFlight := goodIn_ca (goodIn_r _ [5, 6, 7, 8, 27, 28, 29, 30, 31, 32, 33, 34, 35, 36, 37, 38, 39, 40, 41, 42] (by decide +kernel) (by decide +kernel)) (goodIn_sub (fun _ h => List.mem_cons_of_mem _ (List.mem_append_right _ h)) (by decide +kernel))
set_option maxRecDepth 20000 in
theorem gX4_predicted_X4_requireInFlight : GoodIn wsX4_predicted (wsV RX4 90 RX4 yX4_requireInFlight wsX4_requireInFlight) := goodIn_app (goodIn_of _ (by decide +kernel)) ggX4_predicted_X4_requireInFlight
set_option maxRecDepth 20000 in
theorem ggX4_predicted_X4_requireKind : GoodIn wsX4_predicted wsX4_requireKind := goodIn_ca (goodIn_r _ [11, 6, 7] (by decide +kernel) (by decide +kernel)) (goodIn_sub (fun _ h => List.mem_cons_of_mem _ (List.mem_append_right _ h)) (by decide +kernel))
set_option maxRecDepth 20000 in
theorem gX4_predicted_X4_requireKind : GoodIn wsX4_predicted (va_wsS RX4 129 yX4_requireKind wsX4_requireKind) := goodIn_app (goodIn_of _ (by decide +kernel)) ggX4_predicted_X4_requireKind
set_option maxRecDepth 20000 in
theorem ggX4_predicted_X4_branchAt : GoodIn wsX4_predicted wsX4_branchAt := goodIn_r _ [15, 16, 17, 27, 28, 29, 30, 31, 32, 33, 34, 35, 36, 37, 38, 39, 40, 41, 42] (by decide +kernel) (by decide +kernel)
set_option maxRecDepth 20000 in
theorem gX4_predicted_X4_branchAt : GoodIn wsX4_predicted (wsV RX4 93 RX4 yX4_branchAt wsX4_branchAt) := goodIn_app (goodIn_of _ (by decide +kernel)) ggX4_predicted_X4_branchAt
set_option maxRecDepth 20000 in
theorem ggX4_predicted_X1_saidTaken : GoodIn wsX4_predicted wsX1_saidTaken := goodIn_r _ [22, 23, 24, 25, 26, 43, 44, 45, 46, 47, 48, 49, 50, 51] (by decide +kernel) (by decide +kernel)
set_option maxRecDepth 20000 in
theorem gX4_predicted_X1_saidTaken : GoodIn wsX4_predicted (wsV RX4 132 RX1 yX1_saidTaken wsX1_saidTaken) := goodIn_app (goodIn_of _ (by decide +kernel)) ggX4_predicted_X1_saidTaken
theorem dX4_predicted_0 : decode cX4_predicted 0 = .ok (.aload_n 0, 1) := by decide +kernel
theorem dX4_predicted_1 : decode cX4_predicted 1 = .ok (.iload_n 1, 1) := by decide +kernel
theorem dX4_predicted_2 : decode cX4_predicted 2 = .ok (.invokevirtual 90, 3) := by decide +kernel
theorem dX4_predicted_5 : decode cX4_predicted 5 = .ok (.iload_n 2, 1) := by decide +kernel
theorem dX4_predicted_6 : decode cX4_predicted 6 = .ok (.invokestatic 129, 3) := by decide +kernel
theorem dX4_predicted_9 : decode cX4_predicted 9 = .ok (.aload_n 0, 1) := by decide +kernel
theorem dX4_predicted_10 : decode cX4_predicted 10 = .ok (.iload_n 1, 1) := by decide +kernel
theorem dX4_predicted_11 : decode cX4_predicted 11 = .ok (.invokevirtual 93, 3) := by decide +kernel
theorem dX4_predicted_14 : decode cX4_predicted 14 = .ok (.iload_n 2, 1) := by decide +kernel
theorem dX4_predicted_15 : decode cX4_predicted 15 = .ok (.invokevirtual 132, 3) := by decide +kernel
theorem dX4_predicted_18 : decode cX4_predicted 18 = .ok (.ireturn, 1) := by decide +kernel
theorem dX4_history_0 : decode cX4_history 0 = .ok (.aload_n 0, 1) := by decide +kernel
theorem dX4_history_1 : decode cX4_history 1 = .ok (.getfield 119, 3) := by decide +kernel
theorem dX4_history_4 : decode cX4_history 4 = .ok (.ireturn, 1) := by decide +kernel
set_option maxRecDepth 20000 in
theorem ggX4_counter_X4_tableWith : GoodIn wsX4_counter wsX4_tableWith := goodIn_r _ [8, 9, 10, 11, 20, 21, 22, 23, 24, 25, 26, 27, 28, 29, 30, 31, 32, 33, 34, 35] (by decide +kernel) (by decide +kernel)
set_option maxRecDepth 20000 in
theorem gX4_counter_X4_tableWith : GoodIn wsX4_counter (wsV RX4 140 RX4 yX4_tableWith wsX4_tableWith) := goodIn_app (goodIn_of _ (by decide +kernel)) ggX4_counter_X4_tableWith
set_option maxRecDepth 20000 in
theorem ggX4_counter_X2_valueAt : GoodIn wsX4_counter wsX2_valueAt := goodIn_r _ [16, 17, 18, 19] (by decide +kernel) (by decide +kernel)
set_option maxRecDepth 20000 in
theorem gX4_counter_X2_valueAt : GoodIn wsX4_counter (wsV RX4 149 RX2 yX2_valueAt wsX2_valueAt) := goodIn_app (goodIn_of _ (by decide +kernel)) ggX4_counter_X2_valueAt
theorem dX4_counter_0 : decode cX4_counter 0 = .ok (.iload_n 1, 1) := by decide +kernel
theorem dX4_counter_1 : decode cX4_counter 1 = .ok (.ifCond .lt 8, 3) := by decide +kernel
theorem dX4_counter_4 : decode cX4_counter 4 = .ok (.iload_n 1, 1) := by decide +kernel
theorem dX4_counter_5 : decode cX4_counter 5 = .ok (.iconst 2, 1) := by decide +kernel
theorem dX4_counter_6 : decode cX4_counter 6 = .ok (.if_icmp .le 13, 3) := by decide +kernel
theorem dX4_counter_9 : decode cX4_counter 9 = .ok (.new 135, 3) := by decide +kernel
theorem dX4_counter_12 : decode cX4_counter 12 = .ok (.dup, 1) := by decide +kernel
theorem dX4_counter_13 : decode cX4_counter 13 = .ok (.ldc 137, 2) := by decide +kernel
theorem dX4_counter_15 : decode cX4_counter 15 = .ok (.invokespecial 139, 3) := by decide +kernel
theorem dX4_counter_18 : decode cX4_counter 18 = .ok (.athrow, 1) := by decide +kernel
theorem dX4_counter_19 : decode cX4_counter 19 = .ok (.aload_n 0, 1) := by decide +kernel
theorem dX4_counter_20 : decode cX4_counter 20 = .ok (.iload_n 1, 1) := by decide +kernel
theorem dX4_counter_21 : decode cX4_counter 21 = .ok (.invokevirtual 140, 3) := by decide +kernel
theorem dX4_counter_24 : decode cX4_counter 24 = .ok (.astore_n 3, 1) := by decide +kernel
theorem dX4_counter_25 : decode cX4_counter 25 = .ok (.iload_n 2, 1) := by decide +kernel
theorem dX4_counter_26 : decode cX4_counter 26 = .ok (.ifCond .lt 11, 3) := by decide +kernel
theorem dX4_counter_29 : decode cX4_counter 29 = .ok (.iload_n 2, 1) := by decide +kernel
theorem dX4_counter_30 : decode cX4_counter 30 = .ok (.aload_n 3, 1) := by decide +kernel
theorem dX4_counter_31 : decode cX4_counter 31 = .ok (.getfield 144, 3) := by decide +kernel
theorem dX4_counter_34 : decode cX4_counter 34 = .ok (.if_icmp .lt 13, 3) := by decide +kernel
theorem dX4_counter_37 : decode cX4_counter 37 = .ok (.new 135, 3) := by decide +kernel
theorem dX4_counter_40 : decode cX4_counter 40 = .ok (.dup, 1) := by decide +kernel
theorem dX4_counter_41 : decode cX4_counter 41 = .ok (.ldc 147, 2) := by decide +kernel
theorem dX4_counter_43 : decode cX4_counter 43 = .ok (.invokespecial 139, 3) := by decide +kernel
theorem dX4_counter_46 : decode cX4_counter 46 = .ok (.athrow, 1) := by decide +kernel
theorem dX4_counter_47 : decode cX4_counter 47 = .ok (.aload_n 3, 1) := by decide +kernel
theorem dX4_counter_48 : decode cX4_counter 48 = .ok (.iload_n 2, 1) := by decide +kernel
theorem dX4_counter_49 : decode cX4_counter 49 = .ok (.invokevirtual 149, 3) := by decide +kernel
theorem dX4_counter_52 : decode cX4_counter 52 = .ok (.ireturn, 1) := by decide +kernel
set_option maxRecDepth 20000 in
theorem ggX4_loop_X3_isFree : GoodIn wsX4_loop wsX3_isFree := goodIn_r _ [12, 13, 50, 51, 52, 53] (by decide +kernel) (by decide +kernel)
set_option maxRecDepth 20000 in
theorem gX4_loop_X3_isFree : GoodIn wsX4_loop (wsV RX4 154 RX3 yX3_isFree wsX3_isFree) := goodIn_app (goodIn_of _ (by decide +kernel)) ggX4_loop_X3_isFree
set_option maxRecDepth 20000 in
theorem ggX4_loop_X4_presumedCount : GoodIn wsX4_loop wsX4_presumedCount := goodIn_r _ [18, 5, 19, 20, 4, 21, 22, 23, 17, 24, 25, 26, 27, 28, 29, 30, 31, 32, 33, 50, 51, 52, 53, 34, 35, 36, 37, 38, 39, 40, 41, 42, 43, 44, 45, 46, 47, 48, 49, 54, 55, 56, 57, 58, 59, 60, 61, 62] (by decide +kernel) (by decide +kernel)
set_option maxRecDepth 20000 in
theorem gX4_loop_X4_presumedCount : GoodIn wsX4_loop (wsV RX4 167 RX4 yX4_presumedCount wsX4_presumedCount) := goodIn_app (goodIn_of _ (by decide +kernel)) ggX4_loop_X4_presumedCount
theorem dX4_loop_0 : decode cX4_loop 0 = .ok (.iload_n 1, 1) := by decide +kernel
theorem dX4_loop_1 : decode cX4_loop 1 = .ok (.ifCond .lt 18, 3) := by decide +kernel
theorem dX4_loop_4 : decode cX4_loop 4 = .ok (.iload_n 1, 1) := by decide +kernel
theorem dX4_loop_5 : decode cX4_loop 5 = .ok (.bipush 8, 2) := by decide +kernel
theorem dX4_loop_7 : decode cX4_loop 7 = .ok (.if_icmp .ge 12, 3) := by decide +kernel
theorem dX4_loop_10 : decode cX4_loop 10 = .ok (.iload_n 2, 1) := by decide +kernel
theorem dX4_loop_11 : decode cX4_loop 11 = .ok (.ifCond .lt 8, 3) := by decide +kernel
theorem dX4_loop_14 : decode cX4_loop 14 = .ok (.iload_n 2, 1) := by decide +kernel
theorem dX4_loop_15 : decode cX4_loop 15 = .ok (.iconst 4, 1) := by decide +kernel
theorem dX4_loop_16 : decode cX4_loop 16 = .ok (.if_icmp .le 13, 3) := by decide +kernel
theorem dX4_loop_19 : decode cX4_loop 19 = .ok (.new 135, 3) := by decide +kernel
theorem dX4_loop_22 : decode cX4_loop 22 = .ok (.dup, 1) := by decide +kernel
theorem dX4_loop_23 : decode cX4_loop 23 = .ok (.ldc 152, 2) := by decide +kernel
theorem dX4_loop_25 : decode cX4_loop 25 = .ok (.invokespecial 139, 3) := by decide +kernel
theorem dX4_loop_28 : decode cX4_loop 28 = .ok (.athrow, 1) := by decide +kernel
theorem dX4_loop_29 : decode cX4_loop 29 = .ok (.aload_n 0, 1) := by decide +kernel
theorem dX4_loop_30 : decode cX4_loop 30 = .ok (.getfield 40, 3) := by decide +kernel
theorem dX4_loop_33 : decode cX4_loop 33 = .ok (.iload_n 1, 1) := by decide +kernel
theorem dX4_loop_34 : decode cX4_loop 34 = .ok (.aaload, 1) := by decide +kernel
theorem dX4_loop_35 : decode cX4_loop 35 = .ok (.astore_n 3, 1) := by decide +kernel
theorem dX4_loop_36 : decode cX4_loop 36 = .ok (.aload_n 3, 1) := by decide +kernel
theorem dX4_loop_37 : decode cX4_loop 37 = .ok (.invokevirtual 154, 3) := by decide +kernel
theorem dX4_loop_40 : decode cX4_loop 40 = .ok (.ifCond .eq 5, 3) := by decide +kernel
theorem dX4_loop_43 : decode cX4_loop 43 = .ok (.iconst (-1), 1) := by decide +kernel
theorem dX4_loop_44 : decode cX4_loop 44 = .ok (.ireturn, 1) := by decide +kernel
theorem dX4_loop_45 : decode cX4_loop 45 = .ok (.iload_n 2, 1) := by decide +kernel
theorem dX4_loop_46 : decode cX4_loop 46 = .ok (.tableswitch 50 0 3 #[30, 35, 40, 45], 30) := by decide +kernel
theorem dX4_loop_76 : decode cX4_loop 76 = .ok (.aload_n 3, 1) := by decide +kernel
theorem dX4_loop_77 : decode cX4_loop 77 = .ok (.getfield 157, 3) := by decide +kernel
theorem dX4_loop_80 : decode cX4_loop 80 = .ok (.ireturn, 1) := by decide +kernel
theorem dX4_loop_81 : decode cX4_loop 81 = .ok (.aload_n 3, 1) := by decide +kernel
theorem dX4_loop_82 : decode cX4_loop 82 = .ok (.getfield 158, 3) := by decide +kernel
theorem dX4_loop_85 : decode cX4_loop 85 = .ok (.ireturn, 1) := by decide +kernel
theorem dX4_loop_86 : decode cX4_loop 86 = .ok (.aload_n 3, 1) := by decide +kernel
theorem dX4_loop_87 : decode cX4_loop 87 = .ok (.getfield 161, 3) := by decide +kernel
theorem dX4_loop_90 : decode cX4_loop 90 = .ok (.ireturn, 1) := by decide +kernel
theorem dX4_loop_91 : decode cX4_loop 91 = .ok (.aload_n 3, 1) := by decide +kernel
theorem dX4_loop_92 : decode cX4_loop 92 = .ok (.getfield 164, 3) := by decide +kernel
theorem dX4_loop_95 : decode cX4_loop 95 = .ok (.ireturn, 1) := by decide +kernel
theorem dX4_loop_96 : decode cX4_loop 96 = .ok (.aload_n 0, 1) := by decide +kernel
theorem dX4_loop_97 : decode cX4_loop 97 = .ok (.aload_n 3, 1) := by decide +kernel
theorem dX4_loop_98 : decode cX4_loop 98 = .ok (.invokevirtual 167, 3) := by decide +kernel
theorem dX4_loop_101 : decode cX4_loop 101 = .ok (.ireturn, 1) := by decide +kernel
theorem dX4_commits_0 : decode cX4_commits 0 = .ok (.aload_n 0, 1) := by decide +kernel
theorem dX4_commits_1 : decode cX4_commits 1 = .ok (.getfield 171, 3) := by decide +kernel
theorem dX4_commits_4 : decode cX4_commits 4 = .ok (.lreturn, 1) := by decide +kernel
set_option maxRecDepth 20000 in
theorem ggX4_misses_X4_requireKind : GoodIn wsX4_misses wsX4_requireKind := goodIn_ca (goodIn_r _ [5, 6, 7] (by decide +kernel) (by decide +kernel)) (goodIn_sub (fun _ h => List.mem_cons_of_mem _ (List.mem_append_right _ h)) (by decide +kernel))
set_option maxRecDepth 20000 in
theorem gX4_misses_X4_requireKind : GoodIn wsX4_misses (va_wsS RX4 129 yX4_requireKind wsX4_requireKind) := goodIn_app (goodIn_of _ (by decide +kernel)) ggX4_misses_X4_requireKind
theorem dX4_misses_0 : decode cX4_misses 0 = .ok (.iload_n 1, 1) := by decide +kernel
theorem dX4_misses_1 : decode cX4_misses 1 = .ok (.invokestatic 129, 3) := by decide +kernel
theorem dX4_misses_4 : decode cX4_misses 4 = .ok (.aload_n 0, 1) := by decide +kernel
theorem dX4_misses_5 : decode cX4_misses 5 = .ok (.getfield 44, 3) := by decide +kernel
theorem dX4_misses_8 : decode cX4_misses 8 = .ok (.iload_n 1, 1) := by decide +kernel
theorem dX4_misses_9 : decode cX4_misses 9 = .ok (.laload, 1) := by decide +kernel
theorem dX4_misses_10 : decode cX4_misses 10 = .ok (.lreturn, 1) := by decide +kernel
theorem dX4_drops_0 : decode cX4_drops 0 = .ok (.aload_n 0, 1) := by decide +kernel
theorem dX4_drops_1 : decode cX4_drops 1 = .ok (.getfield 175, 3) := by decide +kernel
theorem dX4_drops_4 : decode cX4_drops 4 = .ok (.lreturn, 1) := by decide +kernel
theorem dX4_meetings_0 : decode cX4_meetings 0 = .ok (.iload_n 1, 1) := by decide +kernel
theorem dX4_meetings_1 : decode cX4_meetings 1 = .ok (.ifCond .eq 18, 3) := by decide +kernel
theorem dX4_meetings_4 : decode cX4_meetings 4 = .ok (.iload_n 1, 1) := by decide +kernel
theorem dX4_meetings_5 : decode cX4_meetings 5 = .ok (.iconst 1, 1) := by decide +kernel
theorem dX4_meetings_6 : decode cX4_meetings 6 = .ok (.if_icmp .eq 13, 3) := by decide +kernel
theorem dX4_meetings_9 : decode cX4_meetings 9 = .ok (.new 135, 3) := by decide +kernel
theorem dX4_meetings_12 : decode cX4_meetings 12 = .ok (.dup, 1) := by decide +kernel
theorem dX4_meetings_13 : decode cX4_meetings 13 = .ok (.ldc 178, 2) := by decide +kernel
theorem dX4_meetings_15 : decode cX4_meetings 15 = .ok (.invokespecial 139, 3) := by decide +kernel
theorem dX4_meetings_18 : decode cX4_meetings 18 = .ok (.athrow, 1) := by decide +kernel
theorem dX4_meetings_19 : decode cX4_meetings 19 = .ok (.iload_n 1, 1) := by decide +kernel
theorem dX4_meetings_20 : decode cX4_meetings 20 = .ok (.ifCond .ne 10, 3) := by decide +kernel
theorem dX4_meetings_23 : decode cX4_meetings 23 = .ok (.aload_n 0, 1) := by decide +kernel
theorem dX4_meetings_24 : decode cX4_meetings 24 = .ok (.getfield 25, 3) := by decide +kernel
theorem dX4_meetings_27 : decode cX4_meetings 27 = .ok (.goto 7, 3) := by decide +kernel
theorem dX4_meetings_30 : decode cX4_meetings 30 = .ok (.aload_n 0, 1) := by decide +kernel
theorem dX4_meetings_31 : decode cX4_meetings 31 = .ok (.getfield 29, 3) := by decide +kernel
theorem dX4_meetings_34 : decode cX4_meetings 34 = .ok (.astore_n 3, 1) := by decide +kernel
theorem dX4_meetings_35 : decode cX4_meetings 35 = .ok (.iload_n 2, 1) := by decide +kernel
theorem dX4_meetings_36 : decode cX4_meetings 36 = .ok (.ifCond .eq 10, 3) := by decide +kernel
theorem dX4_meetings_39 : decode cX4_meetings 39 = .ok (.aload_n 3, 1) := by decide +kernel
theorem dX4_meetings_40 : decode cX4_meetings 40 = .ok (.getfield 180, 3) := by decide +kernel
theorem dX4_meetings_43 : decode cX4_meetings 43 = .ok (.goto 7, 3) := by decide +kernel
theorem dX4_meetings_46 : decode cX4_meetings 46 = .ok (.aload_n 3, 1) := by decide +kernel
theorem dX4_meetings_47 : decode cX4_meetings 47 = .ok (.getfield 183, 3) := by decide +kernel
theorem dX4_meetings_50 : decode cX4_meetings 50 = .ok (.lreturn, 1) := by decide +kernel
theorem dX4_accuracy_0 : decode cX4_accuracy 0 = .ok (.aload_n 0, 1) := by decide +kernel
theorem dX4_accuracy_1 : decode cX4_accuracy 1 = .ok (.getfield 171, 3) := by decide +kernel
theorem dX4_accuracy_4 : decode cX4_accuracy 4 = .ok (.lconst 0, 1) := by decide +kernel
theorem dX4_accuracy_5 : decode cX4_accuracy 5 = .ok (.lcmp, 1) := by decide +kernel
theorem dX4_accuracy_6 : decode cX4_accuracy 6 = .ok (.ifCond .ne 5, 3) := by decide +kernel
theorem dX4_accuracy_9 : decode cX4_accuracy 9 = .ok (.dconst 1, 1) := by decide +kernel
theorem dX4_accuracy_10 : decode cX4_accuracy 10 = .ok (.dreturn, 1) := by decide +kernel
theorem dX4_accuracy_11 : decode cX4_accuracy 11 = .ok (.aload_n 0, 1) := by decide +kernel
theorem dX4_accuracy_12 : decode cX4_accuracy 12 = .ok (.getfield 171, 3) := by decide +kernel
theorem dX4_accuracy_15 : decode cX4_accuracy 15 = .ok (.aload_n 0, 1) := by decide +kernel
theorem dX4_accuracy_16 : decode cX4_accuracy 16 = .ok (.getfield 44, 3) := by decide +kernel
theorem dX4_accuracy_19 : decode cX4_accuracy 19 = .ok (.iconst 3, 1) := by decide +kernel
theorem dX4_accuracy_20 : decode cX4_accuracy 20 = .ok (.laload, 1) := by decide +kernel
theorem dX4_accuracy_21 : decode cX4_accuracy 21 = .ok (.lsub, 1) := by decide +kernel
theorem dX4_accuracy_22 : decode cX4_accuracy 22 = .ok (.lstore_n 1, 1) := by decide +kernel
theorem dX4_accuracy_23 : decode cX4_accuracy 23 = .ok (.lload_n 1, 1) := by decide +kernel
theorem dX4_accuracy_24 : decode cX4_accuracy 24 = .ok (.l2d, 1) := by decide +kernel
theorem dX4_accuracy_25 : decode cX4_accuracy 25 = .ok (.aload_n 0, 1) := by decide +kernel
theorem dX4_accuracy_26 : decode cX4_accuracy 26 = .ok (.getfield 171, 3) := by decide +kernel
theorem dX4_accuracy_29 : decode cX4_accuracy 29 = .ok (.l2d, 1) := by decide +kernel
theorem dX4_accuracy_30 : decode cX4_accuracy 30 = .ok (.ddiv, 1) := by decide +kernel
theorem dX4_accuracy_31 : decode cX4_accuracy 31 = .ok (.dreturn, 1) := by decide +kernel
set_option maxRecDepth 20000 in
theorem ggX4_digest_X4_mix : GoodIn wsX4_digest wsX4_mix := goodIn_r _ [21, 22] (by decide +kernel) (by decide +kernel)
set_option maxRecDepth 20000 in
theorem gX4_digest_X4_mix : GoodIn wsX4_digest (va_wsS RX4 188 yX4_mix wsX4_mix) := goodIn_app (goodIn_of _ (by decide +kernel)) ggX4_digest_X4_mix
set_option maxRecDepth 20000 in
theorem ggX4_digest_X2_mixInto : GoodIn wsX4_digest wsX2_mixInto := goodIn_r _ [27, 28, 29, 19, 20, 21, 22, 78, 79] (by decide +kernel) (by decide +kernel)
set_option maxRecDepth 20000 in
theorem gX4_digest_X2_mixInto : GoodIn wsX4_digest (wsV RX4 192 RX2 yX2_mixInto wsX2_mixInto) := goodIn_app (goodIn_of _ (by decide +kernel)) ggX4_digest_X2_mixInto
set_option maxRecDepth 20000 in
theorem ggX4_digest_X3_mixInto : GoodIn wsX4_digest wsX3_mixInto := goodIn_r _ [34, 35, 36, 37, 38, 39, 40, 41, 42, 33, 43, 19, 20, 21, 22, 80, 81, 82, 83] (by decide +kernel) (by decide +kernel)
set_option maxRecDepth 20000 in
theorem gX4_digest_X3_mixInto : GoodIn wsX4_digest (wsV RX4 196 RX3 yX3_mixInto wsX3_mixInto) := goodIn_app (goodIn_of _ (by decide +kernel)) ggX4_digest_X3_mixInto
set_option maxRecDepth 20000 in
theorem ggX4_digest_X4_branchAt : GoodIn wsX4_digest wsX4_branchAt := goodIn_r _ [47, 48, 49, 50, 51, 52, 53, 54, 55, 56, 57, 58, 59, 60, 61, 62, 63, 64, 65] (by decide +kernel) (by decide +kernel)
set_option maxRecDepth 20000 in
theorem gX4_digest_X4_branchAt : GoodIn wsX4_digest (wsV RX4 93 RX4 yX4_branchAt wsX4_branchAt) := goodIn_app (goodIn_of _ (by decide +kernel)) ggX4_digest_X4_branchAt
theorem dX4_digest_0 : decode cX4_digest 0 = .ok (.ldc2_w 186, 3) := by decide +kernel
theorem dX4_digest_3 : decode cX4_digest 3 = .ok (.lstore_n 1, 1) := by decide +kernel
theorem dX4_digest_4 : decode cX4_digest 4 = .ok (.lload_n 1, 1) := by decide +kernel
theorem dX4_digest_5 : decode cX4_digest 5 = .ok (.aload_n 0, 1) := by decide +kernel
theorem dX4_digest_6 : decode cX4_digest 6 = .ok (.getfield 48, 3) := by decide +kernel
theorem dX4_digest_9 : decode cX4_digest 9 = .ok (.i2l, 1) := by decide +kernel
theorem dX4_digest_10 : decode cX4_digest 10 = .ok (.invokestatic 188, 3) := by decide +kernel
theorem dX4_digest_13 : decode cX4_digest 13 = .ok (.lstore_n 1, 1) := by decide +kernel
theorem dX4_digest_14 : decode cX4_digest 14 = .ok (.lload_n 1, 1) := by decide +kernel
theorem dX4_digest_15 : decode cX4_digest 15 = .ok (.aload_n 0, 1) := by decide +kernel
theorem dX4_digest_16 : decode cX4_digest 16 = .ok (.getfield 52, 3) := by decide +kernel
theorem dX4_digest_19 : decode cX4_digest 19 = .ok (.i2l, 1) := by decide +kernel
theorem dX4_digest_20 : decode cX4_digest 20 = .ok (.invokestatic 188, 3) := by decide +kernel
theorem dX4_digest_23 : decode cX4_digest 23 = .ok (.lstore_n 1, 1) := by decide +kernel
theorem dX4_digest_24 : decode cX4_digest 24 = .ok (.lload_n 1, 1) := by decide +kernel
theorem dX4_digest_25 : decode cX4_digest 25 = .ok (.aload_n 0, 1) := by decide +kernel
theorem dX4_digest_26 : decode cX4_digest 26 = .ok (.getfield 55, 3) := by decide +kernel
theorem dX4_digest_29 : decode cX4_digest 29 = .ok (.i2l, 1) := by decide +kernel
theorem dX4_digest_30 : decode cX4_digest 30 = .ok (.invokestatic 188, 3) := by decide +kernel
theorem dX4_digest_33 : decode cX4_digest 33 = .ok (.lstore_n 1, 1) := by decide +kernel
theorem dX4_digest_34 : decode cX4_digest 34 = .ok (.lload_n 1, 1) := by decide +kernel
theorem dX4_digest_35 : decode cX4_digest 35 = .ok (.aload_n 0, 1) := by decide +kernel
theorem dX4_digest_36 : decode cX4_digest 36 = .ok (.getfield 119, 3) := by decide +kernel
theorem dX4_digest_39 : decode cX4_digest 39 = .ok (.i2l, 1) := by decide +kernel
theorem dX4_digest_40 : decode cX4_digest 40 = .ok (.invokestatic 188, 3) := by decide +kernel
theorem dX4_digest_43 : decode cX4_digest 43 = .ok (.lstore_n 1, 1) := by decide +kernel
theorem dX4_digest_44 : decode cX4_digest 44 = .ok (.aload_n 0, 1) := by decide +kernel
theorem dX4_digest_45 : decode cX4_digest 45 = .ok (.getfield 12, 3) := by decide +kernel
theorem dX4_digest_48 : decode cX4_digest 48 = .ok (.lload_n 1, 1) := by decide +kernel
theorem dX4_digest_49 : decode cX4_digest 49 = .ok (.invokevirtual 192, 3) := by decide +kernel
theorem dX4_digest_52 : decode cX4_digest 52 = .ok (.lstore_n 1, 1) := by decide +kernel
theorem dX4_digest_53 : decode cX4_digest 53 = .ok (.aload_n 0, 1) := by decide +kernel
theorem dX4_digest_54 : decode cX4_digest 54 = .ok (.getfield 16, 3) := by decide +kernel
theorem dX4_digest_57 : decode cX4_digest 57 = .ok (.lload_n 1, 1) := by decide +kernel
theorem dX4_digest_58 : decode cX4_digest 58 = .ok (.invokevirtual 192, 3) := by decide +kernel
theorem dX4_digest_61 : decode cX4_digest 61 = .ok (.lstore_n 1, 1) := by decide +kernel
theorem dX4_digest_62 : decode cX4_digest 62 = .ok (.aload_n 0, 1) := by decide +kernel
theorem dX4_digest_63 : decode cX4_digest 63 = .ok (.getfield 19, 3) := by decide +kernel
theorem dX4_digest_66 : decode cX4_digest 66 = .ok (.lload_n 1, 1) := by decide +kernel
theorem dX4_digest_67 : decode cX4_digest 67 = .ok (.invokevirtual 192, 3) := by decide +kernel
theorem dX4_digest_70 : decode cX4_digest 70 = .ok (.lstore_n 1, 1) := by decide +kernel
theorem dX4_digest_71 : decode cX4_digest 71 = .ok (.iconst 0, 1) := by decide +kernel
theorem dX4_digest_72 : decode cX4_digest 72 = .ok (.istore_n 3, 1) := by decide +kernel
theorem dX4_digest_73 : decode cX4_digest 73 = .ok (.iload_n 3, 1) := by decide +kernel
theorem dX4_digest_74 : decode cX4_digest 74 = .ok (.bipush 8, 2) := by decide +kernel
theorem dX4_digest_76 : decode cX4_digest 76 = .ok (.if_icmp .ge 20, 3) := by decide +kernel
theorem dX4_digest_79 : decode cX4_digest 79 = .ok (.aload_n 0, 1) := by decide +kernel
theorem dX4_digest_80 : decode cX4_digest 80 = .ok (.getfield 40, 3) := by decide +kernel
theorem dX4_digest_83 : decode cX4_digest 83 = .ok (.iload_n 3, 1) := by decide +kernel
theorem dX4_digest_84 : decode cX4_digest 84 = .ok (.aaload, 1) := by decide +kernel
theorem dX4_digest_85 : decode cX4_digest 85 = .ok (.lload_n 1, 1) := by decide +kernel
theorem dX4_digest_86 : decode cX4_digest 86 = .ok (.invokevirtual 196, 3) := by decide +kernel
theorem dX4_digest_89 : decode cX4_digest 89 = .ok (.lstore_n 1, 1) := by decide +kernel
theorem dX4_digest_90 : decode cX4_digest 90 = .ok (.iinc 3 1, 3) := by decide +kernel
theorem dX4_digest_93 : decode cX4_digest 93 = .ok (.goto (-20), 3) := by decide +kernel
theorem dX4_digest_96 : decode cX4_digest 96 = .ok (.iconst 0, 1) := by decide +kernel
theorem dX4_digest_97 : decode cX4_digest 97 = .ok (.istore_n 3, 1) := by decide +kernel
theorem dX4_digest_98 : decode cX4_digest 98 = .ok (.iload_n 3, 1) := by decide +kernel
theorem dX4_digest_99 : decode cX4_digest 99 = .ok (.aload_n 0, 1) := by decide +kernel
theorem dX4_digest_100 : decode cX4_digest 100 = .ok (.getfield 79, 3) := by decide +kernel
theorem dX4_digest_103 : decode cX4_digest 103 = .ok (.if_icmp .ge 37, 3) := by decide +kernel
theorem dX4_digest_106 : decode cX4_digest 106 = .ok (.lload_n 1, 1) := by decide +kernel
theorem dX4_digest_107 : decode cX4_digest 107 = .ok (.aload_n 0, 1) := by decide +kernel
theorem dX4_digest_108 : decode cX4_digest 108 = .ok (.iload_n 3, 1) := by decide +kernel
theorem dX4_digest_109 : decode cX4_digest 109 = .ok (.invokevirtual 93, 3) := by decide +kernel
theorem dX4_digest_112 : decode cX4_digest 112 = .ok (.getfield 126, 3) := by decide +kernel
theorem dX4_digest_115 : decode cX4_digest 115 = .ok (.i2l, 1) := by decide +kernel
theorem dX4_digest_116 : decode cX4_digest 116 = .ok (.invokestatic 188, 3) := by decide +kernel
theorem dX4_digest_119 : decode cX4_digest 119 = .ok (.lstore_n 1, 1) := by decide +kernel
theorem dX4_digest_120 : decode cX4_digest 120 = .ok (.lload_n 1, 1) := by decide +kernel
theorem dX4_digest_121 : decode cX4_digest 121 = .ok (.aload_n 0, 1) := by decide +kernel
theorem dX4_digest_122 : decode cX4_digest 122 = .ok (.iload_n 3, 1) := by decide +kernel
theorem dX4_digest_123 : decode cX4_digest 123 = .ok (.invokevirtual 93, 3) := by decide +kernel
theorem dX4_digest_126 : decode cX4_digest 126 = .ok (.getfield 97, 3) := by decide +kernel
theorem dX4_digest_129 : decode cX4_digest 129 = .ok (.i2l, 1) := by decide +kernel
theorem dX4_digest_130 : decode cX4_digest 130 = .ok (.invokestatic 188, 3) := by decide +kernel
theorem dX4_digest_133 : decode cX4_digest 133 = .ok (.lstore_n 1, 1) := by decide +kernel
theorem dX4_digest_134 : decode cX4_digest 134 = .ok (.iinc 3 1, 3) := by decide +kernel
theorem dX4_digest_137 : decode cX4_digest 137 = .ok (.goto (-39), 3) := by decide +kernel
theorem dX4_digest_140 : decode cX4_digest 140 = .ok (.lload_n 1, 1) := by decide +kernel
theorem dX4_digest_141 : decode cX4_digest 141 = .ok (.aload_n 0, 1) := by decide +kernel
theorem dX4_digest_142 : decode cX4_digest 142 = .ok (.getfield 171, 3) := by decide +kernel
theorem dX4_digest_145 : decode cX4_digest 145 = .ok (.invokestatic 188, 3) := by decide +kernel
theorem dX4_digest_148 : decode cX4_digest 148 = .ok (.lstore_n 1, 1) := by decide +kernel
theorem dX4_digest_149 : decode cX4_digest 149 = .ok (.lload_n 1, 1) := by decide +kernel
theorem dX4_digest_150 : decode cX4_digest 150 = .ok (.aload_n 0, 1) := by decide +kernel
theorem dX4_digest_151 : decode cX4_digest 151 = .ok (.getfield 175, 3) := by decide +kernel
theorem dX4_digest_154 : decode cX4_digest 154 = .ok (.invokestatic 188, 3) := by decide +kernel
theorem dX4_digest_157 : decode cX4_digest 157 = .ok (.lstore_n 1, 1) := by decide +kernel
theorem dX4_digest_158 : decode cX4_digest 158 = .ok (.lload_n 1, 1) := by decide +kernel
theorem dX4_digest_159 : decode cX4_digest 159 = .ok (.aload_n 0, 1) := by decide +kernel
theorem dX4_digest_160 : decode cX4_digest 160 = .ok (.getfield 25, 3) := by decide +kernel
theorem dX4_digest_163 : decode cX4_digest 163 = .ok (.getfield 183, 3) := by decide +kernel
theorem dX4_digest_166 : decode cX4_digest 166 = .ok (.invokestatic 188, 3) := by decide +kernel
theorem dX4_digest_169 : decode cX4_digest 169 = .ok (.lstore_n 1, 1) := by decide +kernel
theorem dX4_digest_170 : decode cX4_digest 170 = .ok (.lload_n 1, 1) := by decide +kernel
theorem dX4_digest_171 : decode cX4_digest 171 = .ok (.aload_n 0, 1) := by decide +kernel
theorem dX4_digest_172 : decode cX4_digest 172 = .ok (.getfield 29, 3) := by decide +kernel
theorem dX4_digest_175 : decode cX4_digest 175 = .ok (.getfield 183, 3) := by decide +kernel
theorem dX4_digest_178 : decode cX4_digest 178 = .ok (.invokestatic 188, 3) := by decide +kernel
theorem dX4_digest_181 : decode cX4_digest 181 = .ok (.lreturn, 1) := by decide +kernel
theorem dX4_mix_0 : decode cX4_mix 0 = .ok (.lload_n 0, 1) := by decide +kernel
theorem dX4_mix_1 : decode cX4_mix 1 = .ok (.ldc2_w 197, 3) := by decide +kernel
theorem dX4_mix_4 : decode cX4_mix 4 = .ok (.lmul, 1) := by decide +kernel
theorem dX4_mix_5 : decode cX4_mix 5 = .ok (.lload_n 2, 1) := by decide +kernel
theorem dX4_mix_6 : decode cX4_mix 6 = .ok (.ladd, 1) := by decide +kernel
theorem dX4_mix_7 : decode cX4_mix 7 = .ok (.lreturn, 1) := by decide +kernel
theorem dX4_isTableBits_0 : decode cX4_isTableBits 0 = .ok (.iload_n 0, 1) := by decide +kernel
theorem dX4_isTableBits_1 : decode cX4_isTableBits 1 = .ok (.iconst 2, 1) := by decide +kernel
theorem dX4_isTableBits_2 : decode cX4_isTableBits 2 = .ok (.if_icmp .lt 13, 3) := by decide +kernel
theorem dX4_isTableBits_5 : decode cX4_isTableBits 5 = .ok (.iload_n 0, 1) := by decide +kernel
theorem dX4_isTableBits_6 : decode cX4_isTableBits 6 = .ok (.bipush 8, 2) := by decide +kernel
theorem dX4_isTableBits_8 : decode cX4_isTableBits 8 = .ok (.if_icmp .gt 7, 3) := by decide +kernel
theorem dX4_isTableBits_11 : decode cX4_isTableBits 11 = .ok (.iconst 1, 1) := by decide +kernel
theorem dX4_isTableBits_12 : decode cX4_isTableBits 12 = .ok (.goto 4, 3) := by decide +kernel
theorem dX4_isTableBits_15 : decode cX4_isTableBits 15 = .ok (.iconst 0, 1) := by decide +kernel
theorem dX4_isTableBits_16 : decode cX4_isTableBits 16 = .ok (.ireturn, 1) := by decide +kernel
theorem dX4_requirePlace_0 : decode cX4_requirePlace 0 = .ok (.iload_n 0, 1) := by decide +kernel
theorem dX4_requirePlace_1 : decode cX4_requirePlace 1 = .ok (.ifCond .lt 9, 3) := by decide +kernel
theorem dX4_requirePlace_4 : decode cX4_requirePlace 4 = .ok (.iload_n 0, 1) := by decide +kernel
theorem dX4_requirePlace_5 : decode cX4_requirePlace 5 = .ok (.ldc 199, 2) := by decide +kernel
theorem dX4_requirePlace_7 : decode cX4_requirePlace 7 = .ok (.if_icmp .le 13, 3) := by decide +kernel
theorem dX4_requirePlace_10 : decode cX4_requirePlace 10 = .ok (.new 68, 3) := by decide +kernel
theorem dX4_requirePlace_13 : decode cX4_requirePlace 13 = .ok (.dup, 1) := by decide +kernel
theorem dX4_requirePlace_14 : decode cX4_requirePlace 14 = .ok (.ldc 200, 2) := by decide +kernel
theorem dX4_requirePlace_16 : decode cX4_requirePlace 16 = .ok (.invokespecial 72, 3) := by decide +kernel
theorem dX4_requirePlace_19 : decode cX4_requirePlace 19 = .ok (.athrow, 1) := by decide +kernel
theorem dX4_requirePlace_20 : decode cX4_requirePlace 20 = .ok (.return_, 1) := by decide +kernel
theorem dX4_requireKind_0 : decode cX4_requireKind 0 = .ok (.iload_n 0, 1) := by decide +kernel
theorem dX4_requireKind_1 : decode cX4_requireKind 1 = .ok (.ifCond .lt 8, 3) := by decide +kernel
theorem dX4_requireKind_4 : decode cX4_requireKind 4 = .ok (.iload_n 0, 1) := by decide +kernel
theorem dX4_requireKind_5 : decode cX4_requireKind 5 = .ok (.iconst 4, 1) := by decide +kernel
theorem dX4_requireKind_6 : decode cX4_requireKind 6 = .ok (.if_icmp .lt 13, 3) := by decide +kernel
theorem dX4_requireKind_9 : decode cX4_requireKind 9 = .ok (.new 135, 3) := by decide +kernel
theorem dX4_requireKind_12 : decode cX4_requireKind 12 = .ok (.dup, 1) := by decide +kernel
theorem dX4_requireKind_13 : decode cX4_requireKind 13 = .ok (.ldc 202, 2) := by decide +kernel
theorem dX4_requireKind_15 : decode cX4_requireKind 15 = .ok (.invokespecial 139, 3) := by decide +kernel
theorem dX4_requireKind_18 : decode cX4_requireKind 18 = .ok (.athrow, 1) := by decide +kernel
theorem dX4_requireKind_19 : decode cX4_requireKind 19 = .ok (.return_, 1) := by decide +kernel
theorem dX4_requireInFlight_0 : decode cX4_requireInFlight 0 = .ok (.iload_n 1, 1) := by decide +kernel
theorem dX4_requireInFlight_1 : decode cX4_requireInFlight 1 = .ok (.ifCond .lt 11, 3) := by decide +kernel
theorem dX4_requireInFlight_4 : decode cX4_requireInFlight 4 = .ok (.iload_n 1, 1) := by decide +kernel
theorem dX4_requireInFlight_5 : decode cX4_requireInFlight 5 = .ok (.aload_n 0, 1) := by decide +kernel
theorem dX4_requireInFlight_6 : decode cX4_requireInFlight 6 = .ok (.getfield 79, 3) := by decide +kernel
theorem dX4_requireInFlight_9 : decode cX4_requireInFlight 9 = .ok (.if_icmp .lt 13, 3) := by decide +kernel
theorem dX4_requireInFlight_12 : decode cX4_requireInFlight 12 = .ok (.new 135, 3) := by decide +kernel
theorem dX4_requireInFlight_15 : decode cX4_requireInFlight 15 = .ok (.dup, 1) := by decide +kernel
theorem dX4_requireInFlight_16 : decode cX4_requireInFlight 16 = .ok (.ldc 204, 2) := by decide +kernel
theorem dX4_requireInFlight_18 : decode cX4_requireInFlight 18 = .ok (.invokespecial 139, 3) := by decide +kernel
theorem dX4_requireInFlight_21 : decode cX4_requireInFlight 21 = .ok (.athrow, 1) := by decide +kernel
theorem dX4_requireInFlight_22 : decode cX4_requireInFlight 22 = .ok (.return_, 1) := by decide +kernel
set_option maxRecDepth 20000 in
theorem ggX4_startAnew_X2_startAnew : GoodIn wsX4_startAnew wsX2_startAnew := goodIn_r _ [21, 22, 23, 52, 53] (by decide +kernel) (by decide +kernel)
set_option maxRecDepth 20000 in
theorem gX4_startAnew_X2_startAnew : GoodIn wsX4_startAnew (wsV RX4 206 RX2 yX2_startAnew wsX2_startAnew) := goodIn_app (goodIn_of _ (by decide +kernel)) ggX4_startAnew_X2_startAnew
set_option maxRecDepth 20000 in
theorem ggX4_startAnew_X0_startAnew : GoodIn wsX4_startAnew wsX0_startAnew := goodIn_r _ [28, 29, 30, 31, 54, 55, 56] (by decide +kernel) (by decide +kernel)
set_option maxRecDepth 20000 in
theorem gX4_startAnew_X0_startAnew : GoodIn wsX4_startAnew (wsV RX4 208 RX0 yX0_startAnew wsX0_startAnew) := goodIn_app (goodIn_of _ (by decide +kernel)) ggX4_startAnew_X0_startAnew
theorem dX4_startAnew_0 : decode cX4_startAnew 0 = .ok (.aload_n 0, 1) := by decide +kernel
theorem dX4_startAnew_1 : decode cX4_startAnew 1 = .ok (.iload_n 1, 1) := by decide +kernel
theorem dX4_startAnew_2 : decode cX4_startAnew 2 = .ok (.putfield 48, 3) := by decide +kernel
theorem dX4_startAnew_5 : decode cX4_startAnew 5 = .ok (.aload_n 0, 1) := by decide +kernel
theorem dX4_startAnew_6 : decode cX4_startAnew 6 = .ok (.iload_n 2, 1) := by decide +kernel
theorem dX4_startAnew_7 : decode cX4_startAnew 7 = .ok (.putfield 52, 3) := by decide +kernel
theorem dX4_startAnew_10 : decode cX4_startAnew 10 = .ok (.aload_n 0, 1) := by decide +kernel
theorem dX4_startAnew_11 : decode cX4_startAnew 11 = .ok (.iload_n 3, 1) := by decide +kernel
theorem dX4_startAnew_12 : decode cX4_startAnew 12 = .ok (.putfield 55, 3) := by decide +kernel
theorem dX4_startAnew_15 : decode cX4_startAnew 15 = .ok (.aload_n 0, 1) := by decide +kernel
theorem dX4_startAnew_16 : decode cX4_startAnew 16 = .ok (.getfield 12, 3) := by decide +kernel
theorem dX4_startAnew_19 : decode cX4_startAnew 19 = .ok (.iload_n 1, 1) := by decide +kernel
theorem dX4_startAnew_20 : decode cX4_startAnew 20 = .ok (.invokevirtual 206, 3) := by decide +kernel
theorem dX4_startAnew_23 : decode cX4_startAnew 23 = .ok (.aload_n 0, 1) := by decide +kernel
theorem dX4_startAnew_24 : decode cX4_startAnew 24 = .ok (.getfield 16, 3) := by decide +kernel
theorem dX4_startAnew_27 : decode cX4_startAnew 27 = .ok (.iload_n 2, 1) := by decide +kernel
theorem dX4_startAnew_28 : decode cX4_startAnew 28 = .ok (.invokevirtual 206, 3) := by decide +kernel
theorem dX4_startAnew_31 : decode cX4_startAnew 31 = .ok (.aload_n 0, 1) := by decide +kernel
theorem dX4_startAnew_32 : decode cX4_startAnew 32 = .ok (.getfield 19, 3) := by decide +kernel
theorem dX4_startAnew_35 : decode cX4_startAnew 35 = .ok (.iload_n 1, 1) := by decide +kernel
theorem dX4_startAnew_36 : decode cX4_startAnew 36 = .ok (.invokevirtual 206, 3) := by decide +kernel
theorem dX4_startAnew_39 : decode cX4_startAnew 39 = .ok (.aload_n 0, 1) := by decide +kernel
theorem dX4_startAnew_40 : decode cX4_startAnew 40 = .ok (.getfield 25, 3) := by decide +kernel
theorem dX4_startAnew_43 : decode cX4_startAnew 43 = .ok (.invokevirtual 208, 3) := by decide +kernel
theorem dX4_startAnew_46 : decode cX4_startAnew 46 = .ok (.aload_n 0, 1) := by decide +kernel
theorem dX4_startAnew_47 : decode cX4_startAnew 47 = .ok (.getfield 29, 3) := by decide +kernel
theorem dX4_startAnew_50 : decode cX4_startAnew 50 = .ok (.invokevirtual 208, 3) := by decide +kernel
theorem dX4_startAnew_53 : decode cX4_startAnew 53 = .ok (.iconst 0, 1) := by decide +kernel
theorem dX4_startAnew_54 : decode cX4_startAnew 54 = .ok (.istore 4, 2) := by decide +kernel
theorem dX4_startAnew_56 : decode cX4_startAnew 56 = .ok (.iload 4, 2) := by decide +kernel
theorem dX4_startAnew_58 : decode cX4_startAnew 58 = .ok (.bipush 8, 2) := by decide +kernel
theorem dX4_startAnew_60 : decode cX4_startAnew 60 = .ok (.if_icmp .ge 20, 3) := by decide +kernel
theorem dX4_startAnew_63 : decode cX4_startAnew 63 = .ok (.aload_n 0, 1) := by decide +kernel
theorem dX4_startAnew_64 : decode cX4_startAnew 64 = .ok (.getfield 40, 3) := by decide +kernel
theorem dX4_startAnew_67 : decode cX4_startAnew 67 = .ok (.iload 4, 2) := by decide +kernel
theorem dX4_startAnew_69 : decode cX4_startAnew 69 = .ok (.aaload, 1) := by decide +kernel
theorem dX4_startAnew_70 : decode cX4_startAnew 70 = .ok (.iconst (-1), 1) := by decide +kernel
theorem dX4_startAnew_71 : decode cX4_startAnew 71 = .ok (.putfield 157, 3) := by decide +kernel
theorem dX4_startAnew_74 : decode cX4_startAnew 74 = .ok (.iinc 4 1, 3) := by decide +kernel
theorem dX4_startAnew_77 : decode cX4_startAnew 77 = .ok (.goto (-21), 3) := by decide +kernel
theorem dX4_startAnew_80 : decode cX4_startAnew 80 = .ok (.iconst 0, 1) := by decide +kernel
theorem dX4_startAnew_81 : decode cX4_startAnew 81 = .ok (.istore 4, 2) := by decide +kernel
theorem dX4_startAnew_83 : decode cX4_startAnew 83 = .ok (.iload 4, 2) := by decide +kernel
theorem dX4_startAnew_85 : decode cX4_startAnew 85 = .ok (.iconst 4, 1) := by decide +kernel
theorem dX4_startAnew_86 : decode cX4_startAnew 86 = .ok (.if_icmp .ge 17, 3) := by decide +kernel
theorem dX4_startAnew_89 : decode cX4_startAnew 89 = .ok (.aload_n 0, 1) := by decide +kernel
theorem dX4_startAnew_90 : decode cX4_startAnew 90 = .ok (.getfield 44, 3) := by decide +kernel
theorem dX4_startAnew_93 : decode cX4_startAnew 93 = .ok (.iload 4, 2) := by decide +kernel
theorem dX4_startAnew_95 : decode cX4_startAnew 95 = .ok (.lconst 0, 1) := by decide +kernel
theorem dX4_startAnew_96 : decode cX4_startAnew 96 = .ok (.lastore, 1) := by decide +kernel
theorem dX4_startAnew_97 : decode cX4_startAnew 97 = .ok (.iinc 4 1, 3) := by decide +kernel
theorem dX4_startAnew_100 : decode cX4_startAnew 100 = .ok (.goto (-17), 3) := by decide +kernel
theorem dX4_startAnew_103 : decode cX4_startAnew 103 = .ok (.aload_n 0, 1) := by decide +kernel
theorem dX4_startAnew_104 : decode cX4_startAnew 104 = .ok (.iconst 0, 1) := by decide +kernel
theorem dX4_startAnew_105 : decode cX4_startAnew 105 = .ok (.putfield 119, 3) := by decide +kernel
theorem dX4_startAnew_108 : decode cX4_startAnew 108 = .ok (.aload_n 0, 1) := by decide +kernel
theorem dX4_startAnew_109 : decode cX4_startAnew 109 = .ok (.iconst 0, 1) := by decide +kernel
theorem dX4_startAnew_110 : decode cX4_startAnew 110 = .ok (.putfield 210, 3) := by decide +kernel
theorem dX4_startAnew_113 : decode cX4_startAnew 113 = .ok (.aload_n 0, 1) := by decide +kernel
theorem dX4_startAnew_114 : decode cX4_startAnew 114 = .ok (.iconst 0, 1) := by decide +kernel
theorem dX4_startAnew_115 : decode cX4_startAnew 115 = .ok (.putfield 79, 3) := by decide +kernel
theorem dX4_startAnew_118 : decode cX4_startAnew 118 = .ok (.aload_n 0, 1) := by decide +kernel
theorem dX4_startAnew_119 : decode cX4_startAnew 119 = .ok (.lconst 0, 1) := by decide +kernel
theorem dX4_startAnew_120 : decode cX4_startAnew 120 = .ok (.putfield 171, 3) := by decide +kernel
theorem dX4_startAnew_123 : decode cX4_startAnew 123 = .ok (.aload_n 0, 1) := by decide +kernel
theorem dX4_startAnew_124 : decode cX4_startAnew 124 = .ok (.lconst 0, 1) := by decide +kernel
theorem dX4_startAnew_125 : decode cX4_startAnew 125 = .ok (.putfield 175, 3) := by decide +kernel
theorem dX4_startAnew_128 : decode cX4_startAnew 128 = .ok (.return_, 1) := by decide +kernel
theorem dX4_tableWith_0 : decode cX4_tableWith 0 = .ok (.iload_n 1, 1) := by decide +kernel
theorem dX4_tableWith_1 : decode cX4_tableWith 1 = .ok (.ifCond .ne 8, 3) := by decide +kernel
theorem dX4_tableWith_4 : decode cX4_tableWith 4 = .ok (.aload_n 0, 1) := by decide +kernel
theorem dX4_tableWith_5 : decode cX4_tableWith 5 = .ok (.getfield 12, 3) := by decide +kernel
theorem dX4_tableWith_8 : decode cX4_tableWith 8 = .ok (.areturn, 1) := by decide +kernel
theorem dX4_tableWith_9 : decode cX4_tableWith 9 = .ok (.iload_n 1, 1) := by decide +kernel
theorem dX4_tableWith_10 : decode cX4_tableWith 10 = .ok (.iconst 1, 1) := by decide +kernel
theorem dX4_tableWith_11 : decode cX4_tableWith 11 = .ok (.if_icmp .ne 10, 3) := by decide +kernel
theorem dX4_tableWith_14 : decode cX4_tableWith 14 = .ok (.aload_n 0, 1) := by decide +kernel
theorem dX4_tableWith_15 : decode cX4_tableWith 15 = .ok (.getfield 16, 3) := by decide +kernel
theorem dX4_tableWith_18 : decode cX4_tableWith 18 = .ok (.goto 7, 3) := by decide +kernel
theorem dX4_tableWith_21 : decode cX4_tableWith 21 = .ok (.aload_n 0, 1) := by decide +kernel
theorem dX4_tableWith_22 : decode cX4_tableWith 22 = .ok (.getfield 19, 3) := by decide +kernel
theorem dX4_tableWith_25 : decode cX4_tableWith 25 = .ok (.areturn, 1) := by decide +kernel
theorem dX4_branchAt_0 : decode cX4_branchAt 0 = .ok (.aload_n 0, 1) := by decide +kernel
theorem dX4_branchAt_1 : decode cX4_branchAt 1 = .ok (.getfield 34, 3) := by decide +kernel
theorem dX4_branchAt_4 : decode cX4_branchAt 4 = .ok (.aload_n 0, 1) := by decide +kernel
theorem dX4_branchAt_5 : decode cX4_branchAt 5 = .ok (.getfield 210, 3) := by decide +kernel
theorem dX4_branchAt_8 : decode cX4_branchAt 8 = .ok (.iload_n 1, 1) := by decide +kernel
theorem dX4_branchAt_9 : decode cX4_branchAt 9 = .ok (.iadd, 1) := by decide +kernel
theorem dX4_branchAt_10 : decode cX4_branchAt 10 = .ok (.bipush 15, 2) := by decide +kernel
theorem dX4_branchAt_12 : decode cX4_branchAt 12 = .ok (.iand, 1) := by decide +kernel
theorem dX4_branchAt_13 : decode cX4_branchAt 13 = .ok (.aaload, 1) := by decide +kernel
theorem dX4_branchAt_14 : decode cX4_branchAt 14 = .ok (.areturn, 1) := by decide +kernel
theorem dX4_appended_0 : decode cX4_appended 0 = .ok (.iconst 2, 1) := by decide +kernel
theorem dX4_appended_1 : decode cX4_appended 1 = .ok (.iload_n 1, 1) := by decide +kernel
theorem dX4_appended_2 : decode cX4_appended 2 = .ok (.imul, 1) := by decide +kernel
theorem dX4_appended_3 : decode cX4_appended 3 = .ok (.iload_n 2, 1) := by decide +kernel
theorem dX4_appended_4 : decode cX4_appended 4 = .ok (.ifCond .eq 7, 3) := by decide +kernel
theorem dX4_appended_7 : decode cX4_appended 7 = .ok (.iconst 1, 1) := by decide +kernel
theorem dX4_appended_8 : decode cX4_appended 8 = .ok (.goto 4, 3) := by decide +kernel
theorem dX4_appended_11 : decode cX4_appended 11 = .ok (.iconst 0, 1) := by decide +kernel
theorem dX4_appended_12 : decode cX4_appended 12 = .ok (.iadd, 1) := by decide +kernel
theorem dX4_appended_13 : decode cX4_appended 13 = .ok (.istore_n 3, 1) := by decide +kernel
theorem dX4_appended_14 : decode cX4_appended 14 = .ok (.iload_n 3, 1) := by decide +kernel
theorem dX4_appended_15 : decode cX4_appended 15 = .ok (.iconst 1, 1) := by decide +kernel
theorem dX4_appended_16 : decode cX4_appended 16 = .ok (.aload_n 0, 1) := by decide +kernel
theorem dX4_appended_17 : decode cX4_appended 17 = .ok (.getfield 55, 3) := by decide +kernel
theorem dX4_appended_20 : decode cX4_appended 20 = .ok (.ishl, 1) := by decide +kernel
theorem dX4_appended_21 : decode cX4_appended 21 = .ok (.iconst 1, 1) := by decide +kernel
theorem dX4_appended_22 : decode cX4_appended 22 = .ok (.isub, 1) := by decide +kernel
theorem dX4_appended_23 : decode cX4_appended 23 = .ok (.iand, 1) := by decide +kernel
theorem dX4_appended_24 : decode cX4_appended 24 = .ok (.ireturn, 1) := by decide +kernel
set_option maxRecDepth 20000 in
theorem ggX4_launch_X4_branchAt : GoodIn wsX4_launch wsX4_branchAt := goodIn_r _ [19, 20, 21, 66, 67, 68, 69, 70, 71, 72, 73, 74, 75, 76, 77, 78, 79, 80, 81] (by decide +kernel) (by decide +kernel)
set_option maxRecDepth 20000 in
theorem gX4_launch_X4_branchAt : GoodIn wsX4_launch (wsV RX4 93 RX4 yX4_branchAt wsX4_branchAt) := goodIn_app (goodIn_of _ (by decide +kernel)) ggX4_launch_X4_branchAt
set_option maxRecDepth 20000 in
theorem ggX4_launch_X2_indexFor : GoodIn wsX4_launch wsX2_indexFor := goodIn_r _ [26, 27, 91, 92] (by decide +kernel) (by decide +kernel)
set_option maxRecDepth 20000 in
theorem gX4_launch_X2_indexFor : GoodIn wsX4_launch (wsV RX4 213 RX2 yX2_indexFor wsX2_indexFor) := goodIn_app (goodIn_of _ (by decide +kernel)) ggX4_launch_X2_indexFor
set_option maxRecDepth 20000 in
theorem ggX4_launch_X2_saysTaken : GoodIn wsX4_launch wsX2_saysTaken := goodIn_r _ [31, 32, 33, 34, 25, 35, 36, 91, 92] (by decide +kernel) (by decide +kernel)
set_option maxRecDepth 20000 in
theorem gX4_launch_X2_saysTaken : GoodIn wsX4_launch (wsV RX4 222 RX2 yX2_saysTaken wsX2_saysTaken) := goodIn_app (goodIn_of _ (by decide +kernel)) ggX4_launch_X2_saysTaken
set_option maxRecDepth 20000 in
theorem ggX4_launch_X4_loopPrediction : GoodIn wsX4_launch wsX4_loopPrediction := goodIn_r _ [40, 41, 42, 43, 44, 45, 46, 18, 47, 48, 49, 50, 51, 52, 53, 1, 2, 15, 16, 17, 19, 20, 21, 54, 55, 56, 57, 58, 59, 60, 66, 67, 68, 69, 70, 71, 72, 73, 74, 75, 76, 77, 78, 79, 80, 81, 93, 94, 95, 96, 82, 83, 84, 85, 86, 87, 88, 89, 90] (by decide +kernel) (by decide +kernel)
set_option maxRecDepth 20000 in
theorem gX4_launch_X4_loopPrediction : GoodIn wsX4_launch (wsV RX4 235 RX4 yX4_loopPrediction wsX4_loopPrediction) := goodIn_app (goodIn_of _ (by decide +kernel)) ggX4_launch_X4_loopPrediction
set_option maxRecDepth 20000 in
theorem ggX4_launch_X4_appended : GoodIn wsX4_launch wsX4_appended := goodIn_r _ [64, 65, 66, 67, 68, 69, 70, 71, 72, 73, 74, 75, 76, 77, 78, 79, 80, 81] (by decide +kernel) (by decide +kernel)
set_option maxRecDepth 20000 in
theorem gX4_launch_X4_appended : GoodIn wsX4_launch (wsV RX4 242 RX4 yX4_appended wsX4_appended) := goodIn_app (goodIn_of _ (by decide +kernel)) ggX4_launch_X4_appended
theorem dX4_launch_0 : decode cX4_launch 0 = .ok (.aload_n 0, 1) := by decide +kernel
theorem dX4_launch_1 : decode cX4_launch 1 = .ok (.aload_n 0, 1) := by decide +kernel
theorem dX4_launch_2 : decode cX4_launch 2 = .ok (.getfield 79, 3) := by decide +kernel
theorem dX4_launch_5 : decode cX4_launch 5 = .ok (.invokevirtual 93, 3) := by decide +kernel
theorem dX4_launch_8 : decode cX4_launch 8 = .ok (.astore_n 2, 1) := by decide +kernel
theorem dX4_launch_9 : decode cX4_launch 9 = .ok (.aload_n 2, 1) := by decide +kernel
theorem dX4_launch_10 : decode cX4_launch 10 = .ok (.iload_n 1, 1) := by decide +kernel
theorem dX4_launch_11 : decode cX4_launch 11 = .ok (.putfield 126, 3) := by decide +kernel
theorem dX4_launch_14 : decode cX4_launch 14 = .ok (.aload_n 2, 1) := by decide +kernel
theorem dX4_launch_15 : decode cX4_launch 15 = .ok (.iconst 0, 1) := by decide +kernel
theorem dX4_launch_16 : decode cX4_launch 16 = .ok (.putfield 97, 3) := by decide +kernel
theorem dX4_launch_19 : decode cX4_launch 19 = .ok (.aload_n 2, 1) := by decide +kernel
theorem dX4_launch_20 : decode cX4_launch 20 = .ok (.aload_n 0, 1) := by decide +kernel
theorem dX4_launch_21 : decode cX4_launch 21 = .ok (.getfield 119, 3) := by decide +kernel
theorem dX4_launch_24 : decode cX4_launch 24 = .ok (.putfield 116, 3) := by decide +kernel
theorem dX4_launch_27 : decode cX4_launch 27 = .ok (.aload_n 2, 1) := by decide +kernel
theorem dX4_launch_28 : decode cX4_launch 28 = .ok (.aload_n 0, 1) := by decide +kernel
theorem dX4_launch_29 : decode cX4_launch 29 = .ok (.getfield 12, 3) := by decide +kernel
theorem dX4_launch_32 : decode cX4_launch 32 = .ok (.iload_n 1, 1) := by decide +kernel
theorem dX4_launch_33 : decode cX4_launch 33 = .ok (.invokevirtual 213, 3) := by decide +kernel
theorem dX4_launch_36 : decode cX4_launch 36 = .ok (.putfield 216, 3) := by decide +kernel
theorem dX4_launch_39 : decode cX4_launch 39 = .ok (.aload_n 2, 1) := by decide +kernel
theorem dX4_launch_40 : decode cX4_launch 40 = .ok (.aload_n 0, 1) := by decide +kernel
theorem dX4_launch_41 : decode cX4_launch 41 = .ok (.getfield 16, 3) := by decide +kernel
theorem dX4_launch_44 : decode cX4_launch 44 = .ok (.iload_n 1, 1) := by decide +kernel
theorem dX4_launch_45 : decode cX4_launch 45 = .ok (.aload_n 0, 1) := by decide +kernel
theorem dX4_launch_46 : decode cX4_launch 46 = .ok (.getfield 119, 3) := by decide +kernel
theorem dX4_launch_49 : decode cX4_launch 49 = .ok (.ixor, 1) := by decide +kernel
theorem dX4_launch_50 : decode cX4_launch 50 = .ok (.invokevirtual 213, 3) := by decide +kernel
theorem dX4_launch_53 : decode cX4_launch 53 = .ok (.putfield 219, 3) := by decide +kernel
theorem dX4_launch_56 : decode cX4_launch 56 = .ok (.aload_n 2, 1) := by decide +kernel
theorem dX4_launch_57 : decode cX4_launch 57 = .ok (.aload_n 0, 1) := by decide +kernel
theorem dX4_launch_58 : decode cX4_launch 58 = .ok (.getfield 12, 3) := by decide +kernel
theorem dX4_launch_61 : decode cX4_launch 61 = .ok (.aload_n 2, 1) := by decide +kernel
theorem dX4_launch_62 : decode cX4_launch 62 = .ok (.getfield 216, 3) := by decide +kernel
theorem dX4_launch_65 : decode cX4_launch 65 = .ok (.invokevirtual 222, 3) := by decide +kernel
theorem dX4_launch_68 : decode cX4_launch 68 = .ok (.putfield 225, 3) := by decide +kernel
theorem dX4_launch_71 : decode cX4_launch 71 = .ok (.aload_n 2, 1) := by decide +kernel
theorem dX4_launch_72 : decode cX4_launch 72 = .ok (.aload_n 0, 1) := by decide +kernel
theorem dX4_launch_73 : decode cX4_launch 73 = .ok (.getfield 16, 3) := by decide +kernel
theorem dX4_launch_76 : decode cX4_launch 76 = .ok (.aload_n 2, 1) := by decide +kernel
theorem dX4_launch_77 : decode cX4_launch 77 = .ok (.getfield 219, 3) := by decide +kernel
theorem dX4_launch_80 : decode cX4_launch 80 = .ok (.invokevirtual 222, 3) := by decide +kernel
theorem dX4_launch_83 : decode cX4_launch 83 = .ok (.putfield 229, 3) := by decide +kernel
theorem dX4_launch_86 : decode cX4_launch 86 = .ok (.aload_n 2, 1) := by decide +kernel
theorem dX4_launch_87 : decode cX4_launch 87 = .ok (.aload_n 0, 1) := by decide +kernel
theorem dX4_launch_88 : decode cX4_launch 88 = .ok (.getfield 19, 3) := by decide +kernel
theorem dX4_launch_91 : decode cX4_launch 91 = .ok (.aload_n 2, 1) := by decide +kernel
theorem dX4_launch_92 : decode cX4_launch 92 = .ok (.getfield 216, 3) := by decide +kernel
theorem dX4_launch_95 : decode cX4_launch 95 = .ok (.invokevirtual 222, 3) := by decide +kernel
theorem dX4_launch_98 : decode cX4_launch 98 = .ok (.ifCond .eq 10, 3) := by decide +kernel
theorem dX4_launch_101 : decode cX4_launch 101 = .ok (.aload_n 2, 1) := by decide +kernel
theorem dX4_launch_102 : decode cX4_launch 102 = .ok (.getfield 229, 3) := by decide +kernel
theorem dX4_launch_105 : decode cX4_launch 105 = .ok (.goto 7, 3) := by decide +kernel
theorem dX4_launch_108 : decode cX4_launch 108 = .ok (.aload_n 2, 1) := by decide +kernel
theorem dX4_launch_109 : decode cX4_launch 109 = .ok (.getfield 225, 3) := by decide +kernel
theorem dX4_launch_112 : decode cX4_launch 112 = .ok (.putfield 232, 3) := by decide +kernel
theorem dX4_launch_115 : decode cX4_launch 115 = .ok (.aload_n 2, 1) := by decide +kernel
theorem dX4_launch_116 : decode cX4_launch 116 = .ok (.aload_n 0, 1) := by decide +kernel
theorem dX4_launch_117 : decode cX4_launch 117 = .ok (.iload_n 1, 1) := by decide +kernel
theorem dX4_launch_118 : decode cX4_launch 118 = .ok (.aload_n 2, 1) := by decide +kernel
theorem dX4_launch_119 : decode cX4_launch 119 = .ok (.getfield 232, 3) := by decide +kernel
theorem dX4_launch_122 : decode cX4_launch 122 = .ok (.invokevirtual 235, 3) := by decide +kernel
theorem dX4_launch_125 : decode cX4_launch 125 = .ok (.putfield 239, 3) := by decide +kernel
theorem dX4_launch_128 : decode cX4_launch 128 = .ok (.aload_n 0, 1) := by decide +kernel
theorem dX4_launch_129 : decode cX4_launch 129 = .ok (.dup, 1) := by decide +kernel
theorem dX4_launch_130 : decode cX4_launch 130 = .ok (.getfield 79, 3) := by decide +kernel
theorem dX4_launch_133 : decode cX4_launch 133 = .ok (.iconst 1, 1) := by decide +kernel
theorem dX4_launch_134 : decode cX4_launch 134 = .ok (.iadd, 1) := by decide +kernel
theorem dX4_launch_135 : decode cX4_launch 135 = .ok (.putfield 79, 3) := by decide +kernel
theorem dX4_launch_138 : decode cX4_launch 138 = .ok (.aload_n 0, 1) := by decide +kernel
theorem dX4_launch_139 : decode cX4_launch 139 = .ok (.aload_n 0, 1) := by decide +kernel
theorem dX4_launch_140 : decode cX4_launch 140 = .ok (.aload_n 0, 1) := by decide +kernel
theorem dX4_launch_141 : decode cX4_launch 141 = .ok (.getfield 119, 3) := by decide +kernel
theorem dX4_launch_144 : decode cX4_launch 144 = .ok (.aload_n 2, 1) := by decide +kernel
theorem dX4_launch_145 : decode cX4_launch 145 = .ok (.getfield 239, 3) := by decide +kernel
theorem dX4_launch_148 : decode cX4_launch 148 = .ok (.invokevirtual 242, 3) := by decide +kernel
theorem dX4_launch_151 : decode cX4_launch 151 = .ok (.putfield 119, 3) := by decide +kernel
theorem dX4_launch_154 : decode cX4_launch 154 = .ok (.aload_n 2, 1) := by decide +kernel
theorem dX4_launch_155 : decode cX4_launch 155 = .ok (.getfield 239, 3) := by decide +kernel
theorem dX4_launch_158 : decode cX4_launch 158 = .ok (.ireturn, 1) := by decide +kernel
set_option maxRecDepth 20000 in
theorem ggX4_loopPrediction_X4_loopWith : GoodIn wsX4_loopPrediction wsX4_loopWith := goodIn_r _ [8, 1, 9, 30, 31, 32, 33, 34, 35, 36, 37, 38, 39, 40, 41, 42, 43, 44, 45, 46, 47, 48, 49] (by decide +kernel) (by decide +kernel)
set_option maxRecDepth 20000 in
theorem gX4_loopPrediction_X4_loopWith : GoodIn wsX4_loopPrediction (wsV RX4 245 RX4 yX4_loopWith wsX4_loopWith) := goodIn_app (goodIn_of _ (by decide +kernel)) ggX4_loopPrediction_X4_loopWith
set_option maxRecDepth 20000 in
theorem ggX4_loopPrediction_X4_presumedCount : GoodIn wsX4_loopPrediction wsX4_presumedCount := goodIn_r _ [13, 14, 15, 16, 9, 17, 18, 19, 7, 20, 21, 22, 23, 24, 25, 26, 27, 28, 29, 46, 47, 48, 49, 30, 31, 32, 33, 34, 35, 36, 37, 38, 39, 40, 41, 42, 43, 44, 45, 50, 51, 52, 53, 54, 55, 56, 57, 58] (by decide +kernel) (by decide +kernel)
set_option maxRecDepth 20000 in
theorem gX4_loopPrediction_X4_presumedCount : GoodIn wsX4_loopPrediction (wsV RX4 167 RX4 yX4_presumedCount wsX4_presumedCount) := goodIn_app (goodIn_of _ (by decide +kernel)) ggX4_loopPrediction_X4_presumedCount
theorem dX4_loopPrediction_0 : decode cX4_loopPrediction 0 = .ok (.aload_n 0, 1) := by decide +kernel
theorem dX4_loopPrediction_1 : decode cX4_loopPrediction 1 = .ok (.iload_n 1, 1) := by decide +kernel
theorem dX4_loopPrediction_2 : decode cX4_loopPrediction 2 = .ok (.invokevirtual 245, 3) := by decide +kernel
theorem dX4_loopPrediction_5 : decode cX4_loopPrediction 5 = .ok (.istore_n 3, 1) := by decide +kernel
theorem dX4_loopPrediction_6 : decode cX4_loopPrediction 6 = .ok (.iload_n 3, 1) := by decide +kernel
theorem dX4_loopPrediction_7 : decode cX4_loopPrediction 7 = .ok (.ifCond .lt 16, 3) := by decide +kernel
theorem dX4_loopPrediction_10 : decode cX4_loopPrediction 10 = .ok (.aload_n 0, 1) := by decide +kernel
theorem dX4_loopPrediction_11 : decode cX4_loopPrediction 11 = .ok (.getfield 40, 3) := by decide +kernel
theorem dX4_loopPrediction_14 : decode cX4_loopPrediction 14 = .ok (.iload_n 3, 1) := by decide +kernel
theorem dX4_loopPrediction_15 : decode cX4_loopPrediction 15 = .ok (.aaload, 1) := by decide +kernel
theorem dX4_loopPrediction_16 : decode cX4_loopPrediction 16 = .ok (.getfield 164, 3) := by decide +kernel
theorem dX4_loopPrediction_19 : decode cX4_loopPrediction 19 = .ok (.iconst 3, 1) := by decide +kernel
theorem dX4_loopPrediction_20 : decode cX4_loopPrediction 20 = .ok (.if_icmp .ge 5, 3) := by decide +kernel
theorem dX4_loopPrediction_23 : decode cX4_loopPrediction 23 = .ok (.iload_n 2, 1) := by decide +kernel
theorem dX4_loopPrediction_24 : decode cX4_loopPrediction 24 = .ok (.ireturn, 1) := by decide +kernel
theorem dX4_loopPrediction_25 : decode cX4_loopPrediction 25 = .ok (.aload_n 0, 1) := by decide +kernel
theorem dX4_loopPrediction_26 : decode cX4_loopPrediction 26 = .ok (.aload_n 0, 1) := by decide +kernel
theorem dX4_loopPrediction_27 : decode cX4_loopPrediction 27 = .ok (.getfield 40, 3) := by decide +kernel
theorem dX4_loopPrediction_30 : decode cX4_loopPrediction 30 = .ok (.iload_n 3, 1) := by decide +kernel
theorem dX4_loopPrediction_31 : decode cX4_loopPrediction 31 = .ok (.aaload, 1) := by decide +kernel
theorem dX4_loopPrediction_32 : decode cX4_loopPrediction 32 = .ok (.invokevirtual 167, 3) := by decide +kernel
theorem dX4_loopPrediction_35 : decode cX4_loopPrediction 35 = .ok (.aload_n 0, 1) := by decide +kernel
theorem dX4_loopPrediction_36 : decode cX4_loopPrediction 36 = .ok (.getfield 40, 3) := by decide +kernel
theorem dX4_loopPrediction_39 : decode cX4_loopPrediction 39 = .ok (.iload_n 3, 1) := by decide +kernel
theorem dX4_loopPrediction_40 : decode cX4_loopPrediction 40 = .ok (.aaload, 1) := by decide +kernel
theorem dX4_loopPrediction_41 : decode cX4_loopPrediction 41 = .ok (.getfield 161, 3) := by decide +kernel
theorem dX4_loopPrediction_44 : decode cX4_loopPrediction 44 = .ok (.if_icmp .ge 7, 3) := by decide +kernel
theorem dX4_loopPrediction_47 : decode cX4_loopPrediction 47 = .ok (.iconst 1, 1) := by decide +kernel
theorem dX4_loopPrediction_48 : decode cX4_loopPrediction 48 = .ok (.goto 4, 3) := by decide +kernel
theorem dX4_loopPrediction_51 : decode cX4_loopPrediction 51 = .ok (.iconst 0, 1) := by decide +kernel
theorem dX4_loopPrediction_52 : decode cX4_loopPrediction 52 = .ok (.ireturn, 1) := by decide +kernel
set_option maxRecDepth 20000 in
theorem ggX4_presumedCount_X4_branchAt : GoodIn wsX4_presumedCount wsX4_branchAt := goodIn_r _ [9, 10, 11, 23, 24, 25, 26, 27, 28, 29, 30, 31, 32, 33, 34, 35, 36, 37, 38] (by decide +kernel) (by decide +kernel)
set_option maxRecDepth 20000 in
theorem gX4_presumedCount_X4_branchAt : GoodIn wsX4_presumedCount (wsV RX4 93 RX4 yX4_branchAt wsX4_branchAt) := goodIn_app (goodIn_of _ (by decide +kernel)) ggX4_presumedCount_X4_branchAt
set_option maxRecDepth 20000 in
theorem ggX4_presumedCount_X1_isPresumedTaken : GoodIn wsX4_presumedCount wsX1_isPresumedTaken := goodIn_r _ [16, 17, 18, 39, 40, 41, 42, 43, 44, 45, 46, 47] (by decide +kernel) (by decide +kernel)
set_option maxRecDepth 20000 in
theorem gX4_presumedCount_X1_isPresumedTaken : GoodIn wsX4_presumedCount (wsV RX4 248 RX1 yX1_isPresumedTaken wsX1_isPresumedTaken) := goodIn_app (goodIn_of _ (by decide +kernel)) ggX4_presumedCount_X1_isPresumedTaken
theorem dX4_presumedCount_0 : decode cX4_presumedCount 0 = .ok (.aload_n 1, 1) := by decide +kernel
theorem dX4_presumedCount_1 : decode cX4_presumedCount 1 = .ok (.getfield 158, 3) := by decide +kernel
theorem dX4_presumedCount_4 : decode cX4_presumedCount 4 = .ok (.istore_n 2, 1) := by decide +kernel
theorem dX4_presumedCount_5 : decode cX4_presumedCount 5 = .ok (.iconst 0, 1) := by decide +kernel
theorem dX4_presumedCount_6 : decode cX4_presumedCount 6 = .ok (.istore_n 3, 1) := by decide +kernel
theorem dX4_presumedCount_7 : decode cX4_presumedCount 7 = .ok (.iload_n 3, 1) := by decide +kernel
theorem dX4_presumedCount_8 : decode cX4_presumedCount 8 = .ok (.aload_n 0, 1) := by decide +kernel
theorem dX4_presumedCount_9 : decode cX4_presumedCount 9 = .ok (.getfield 79, 3) := by decide +kernel
theorem dX4_presumedCount_12 : decode cX4_presumedCount 12 = .ok (.if_icmp .ge 44, 3) := by decide +kernel
theorem dX4_presumedCount_15 : decode cX4_presumedCount 15 = .ok (.aload_n 0, 1) := by decide +kernel
theorem dX4_presumedCount_16 : decode cX4_presumedCount 16 = .ok (.iload_n 3, 1) := by decide +kernel
theorem dX4_presumedCount_17 : decode cX4_presumedCount 17 = .ok (.invokevirtual 93, 3) := by decide +kernel
theorem dX4_presumedCount_20 : decode cX4_presumedCount 20 = .ok (.astore 4, 2) := by decide +kernel
theorem dX4_presumedCount_22 : decode cX4_presumedCount 22 = .ok (.aload 4, 2) := by decide +kernel
theorem dX4_presumedCount_24 : decode cX4_presumedCount 24 = .ok (.getfield 126, 3) := by decide +kernel
theorem dX4_presumedCount_27 : decode cX4_presumedCount 27 = .ok (.aload_n 1, 1) := by decide +kernel
theorem dX4_presumedCount_28 : decode cX4_presumedCount 28 = .ok (.getfield 157, 3) := by decide +kernel
theorem dX4_presumedCount_31 : decode cX4_presumedCount 31 = .ok (.if_icmp .ne 19, 3) := by decide +kernel
theorem dX4_presumedCount_34 : decode cX4_presumedCount 34 = .ok (.aload 4, 2) := by decide +kernel
theorem dX4_presumedCount_36 : decode cX4_presumedCount 36 = .ok (.invokevirtual 248, 3) := by decide +kernel
theorem dX4_presumedCount_39 : decode cX4_presumedCount 39 = .ok (.ifCond .eq 9, 3) := by decide +kernel
theorem dX4_presumedCount_42 : decode cX4_presumedCount 42 = .ok (.iload_n 2, 1) := by decide +kernel
theorem dX4_presumedCount_43 : decode cX4_presumedCount 43 = .ok (.iconst 1, 1) := by decide +kernel
theorem dX4_presumedCount_44 : decode cX4_presumedCount 44 = .ok (.iadd, 1) := by decide +kernel
theorem dX4_presumedCount_45 : decode cX4_presumedCount 45 = .ok (.goto 4, 3) := by decide +kernel
theorem dX4_presumedCount_48 : decode cX4_presumedCount 48 = .ok (.iconst 0, 1) := by decide +kernel
theorem dX4_presumedCount_49 : decode cX4_presumedCount 49 = .ok (.istore_n 2, 1) := by decide +kernel
theorem dX4_presumedCount_50 : decode cX4_presumedCount 50 = .ok (.iinc 3 1, 3) := by decide +kernel
theorem dX4_presumedCount_53 : decode cX4_presumedCount 53 = .ok (.goto (-46), 3) := by decide +kernel
theorem dX4_presumedCount_56 : decode cX4_presumedCount 56 = .ok (.iload_n 2, 1) := by decide +kernel
theorem dX4_presumedCount_57 : decode cX4_presumedCount 57 = .ok (.ireturn, 1) := by decide +kernel
set_option maxRecDepth 20000 in
theorem ggX4_settle_X4_branchAt : GoodIn wsX4_settle wsX4_branchAt := goodIn_r _ [9, 10, 11, 32, 33, 34, 35, 36, 37, 38, 39, 40, 41, 42, 43, 44, 45, 46, 47] (by decide +kernel) (by decide +kernel)
set_option maxRecDepth 20000 in
theorem gX4_settle_X4_branchAt : GoodIn wsX4_settle (wsV RX4 93 RX4 yX4_branchAt wsX4_branchAt) := goodIn_app (goodIn_of _ (by decide +kernel)) ggX4_settle_X4_branchAt
set_option maxRecDepth 20000 in
theorem ggX4_settle_X4_appended : GoodIn wsX4_settle wsX4_appended := goodIn_r _ [15, 16, 32, 33, 34, 35, 36, 37, 38, 39, 40, 41, 42, 43, 44, 45, 46, 47] (by decide +kernel) (by decide +kernel)
set_option maxRecDepth 20000 in
theorem gX4_settle_X4_appended : GoodIn wsX4_settle (wsV RX4 242 RX4 yX4_appended wsX4_appended) := goodIn_app (goodIn_of _ (by decide +kernel)) ggX4_settle_X4_appended
set_option maxRecDepth 20000 in
theorem ggX4_settle_X4_dropFrom : GoodIn wsX4_settle wsX4_dropFrom := goodIn_r _ [20, 21, 22, 32, 33, 34, 35, 36, 37, 38, 39, 40, 41, 42, 43, 44, 45, 46, 47] (by decide +kernel) (by decide +kernel)
set_option maxRecDepth 20000 in
theorem gX4_settle_X4_dropFrom : GoodIn wsX4_settle (wsV RX4 122 RX4 yX4_dropFrom wsX4_dropFrom) := goodIn_app (goodIn_of _ (by decide +kernel)) ggX4_settle_X4_dropFrom
theorem dX4_settle_0 : decode cX4_settle 0 = .ok (.aload_n 0, 1) := by decide +kernel
theorem dX4_settle_1 : decode cX4_settle 1 = .ok (.iload_n 1, 1) := by decide +kernel
theorem dX4_settle_2 : decode cX4_settle 2 = .ok (.invokevirtual 93, 3) := by decide +kernel
theorem dX4_settle_5 : decode cX4_settle 5 = .ok (.astore_n 3, 1) := by decide +kernel
theorem dX4_settle_6 : decode cX4_settle 6 = .ok (.aload_n 3, 1) := by decide +kernel
theorem dX4_settle_7 : decode cX4_settle 7 = .ok (.getfield 239, 3) := by decide +kernel
theorem dX4_settle_10 : decode cX4_settle 10 = .ok (.iload_n 2, 1) := by decide +kernel
theorem dX4_settle_11 : decode cX4_settle 11 = .ok (.if_icmp .ne 10, 3) := by decide +kernel
theorem dX4_settle_14 : decode cX4_settle 14 = .ok (.aload_n 3, 1) := by decide +kernel
theorem dX4_settle_15 : decode cX4_settle 15 = .ok (.iconst 1, 1) := by decide +kernel
theorem dX4_settle_16 : decode cX4_settle 16 = .ok (.putfield 97, 3) := by decide +kernel
theorem dX4_settle_19 : decode cX4_settle 19 = .ok (.iconst (-1), 1) := by decide +kernel
theorem dX4_settle_20 : decode cX4_settle 20 = .ok (.ireturn, 1) := by decide +kernel
theorem dX4_settle_21 : decode cX4_settle 21 = .ok (.aload_n 3, 1) := by decide +kernel
theorem dX4_settle_22 : decode cX4_settle 22 = .ok (.iconst 2, 1) := by decide +kernel
theorem dX4_settle_23 : decode cX4_settle 23 = .ok (.putfield 97, 3) := by decide +kernel
theorem dX4_settle_26 : decode cX4_settle 26 = .ok (.aload_n 0, 1) := by decide +kernel
theorem dX4_settle_27 : decode cX4_settle 27 = .ok (.aload_n 0, 1) := by decide +kernel
theorem dX4_settle_28 : decode cX4_settle 28 = .ok (.aload_n 3, 1) := by decide +kernel
theorem dX4_settle_29 : decode cX4_settle 29 = .ok (.getfield 116, 3) := by decide +kernel
theorem dX4_settle_32 : decode cX4_settle 32 = .ok (.iload_n 2, 1) := by decide +kernel
theorem dX4_settle_33 : decode cX4_settle 33 = .ok (.invokevirtual 242, 3) := by decide +kernel
theorem dX4_settle_36 : decode cX4_settle 36 = .ok (.putfield 119, 3) := by decide +kernel
theorem dX4_settle_39 : decode cX4_settle 39 = .ok (.aload_n 0, 1) := by decide +kernel
theorem dX4_settle_40 : decode cX4_settle 40 = .ok (.iload_n 1, 1) := by decide +kernel
theorem dX4_settle_41 : decode cX4_settle 41 = .ok (.iconst 1, 1) := by decide +kernel
theorem dX4_settle_42 : decode cX4_settle 42 = .ok (.iadd, 1) := by decide +kernel
theorem dX4_settle_43 : decode cX4_settle 43 = .ok (.invokevirtual 122, 3) := by decide +kernel
theorem dX4_settle_46 : decode cX4_settle 46 = .ok (.ireturn, 1) := by decide +kernel
theorem dX4_dropFrom_0 : decode cX4_dropFrom 0 = .ok (.aload_n 0, 1) := by decide +kernel
theorem dX4_dropFrom_1 : decode cX4_dropFrom 1 = .ok (.getfield 79, 3) := by decide +kernel
theorem dX4_dropFrom_4 : decode cX4_dropFrom 4 = .ok (.iload_n 1, 1) := by decide +kernel
theorem dX4_dropFrom_5 : decode cX4_dropFrom 5 = .ok (.isub, 1) := by decide +kernel
theorem dX4_dropFrom_6 : decode cX4_dropFrom 6 = .ok (.istore_n 2, 1) := by decide +kernel
theorem dX4_dropFrom_7 : decode cX4_dropFrom 7 = .ok (.aload_n 0, 1) := by decide +kernel
theorem dX4_dropFrom_8 : decode cX4_dropFrom 8 = .ok (.dup, 1) := by decide +kernel
theorem dX4_dropFrom_9 : decode cX4_dropFrom 9 = .ok (.getfield 175, 3) := by decide +kernel
theorem dX4_dropFrom_12 : decode cX4_dropFrom 12 = .ok (.iload_n 2, 1) := by decide +kernel
theorem dX4_dropFrom_13 : decode cX4_dropFrom 13 = .ok (.i2l, 1) := by decide +kernel
theorem dX4_dropFrom_14 : decode cX4_dropFrom 14 = .ok (.ladd, 1) := by decide +kernel
theorem dX4_dropFrom_15 : decode cX4_dropFrom 15 = .ok (.putfield 175, 3) := by decide +kernel
theorem dX4_dropFrom_18 : decode cX4_dropFrom 18 = .ok (.aload_n 0, 1) := by decide +kernel
theorem dX4_dropFrom_19 : decode cX4_dropFrom 19 = .ok (.iload_n 1, 1) := by decide +kernel
theorem dX4_dropFrom_20 : decode cX4_dropFrom 20 = .ok (.putfield 79, 3) := by decide +kernel
theorem dX4_dropFrom_23 : decode cX4_dropFrom 23 = .ok (.iload_n 2, 1) := by decide +kernel
theorem dX4_dropFrom_24 : decode cX4_dropFrom 24 = .ok (.ireturn, 1) := by decide +kernel
set_option maxRecDepth 20000 in
theorem ggX4_retire_X4_branchAt : GoodIn wsX4_retire wsX4_branchAt := goodIn_r _ [16, 17, 9, 109, 110, 111, 112, 113, 114, 115, 116, 117, 118, 119, 120, 121, 122, 123, 124] (by decide +kernel) (by decide +kernel)
set_option maxRecDepth 20000 in
theorem gX4_retire_X4_branchAt : GoodIn wsX4_retire (wsV RX4 93 RX4 yX4_branchAt wsX4_branchAt) := goodIn_app (goodIn_of _ (by decide +kernel)) ggX4_retire_X4_branchAt
set_option maxRecDepth 20000 in
theorem ggX4_retire_X1_isPresumedTaken : GoodIn wsX4_retire wsX1_isPresumedTaken := goodIn_r _ [22, 23, 24, 125, 126, 127, 128, 129, 130, 131, 132, 133] (by decide +kernel) (by decide +kernel)
set_option maxRecDepth 20000 in
theorem gX4_retire_X1_isPresumedTaken : GoodIn wsX4_retire (wsV RX4 248 RX1 yX1_isPresumedTaken wsX1_isPresumedTaken) := goodIn_app (goodIn_of _ (by decide +kernel)) ggX4_retire_X1_isPresumedTaken
set_option maxRecDepth 20000 in
theorem ggX4_retire_X4_countMisses : GoodIn wsX4_retire wsX4_countMisses := goodIn_r _ [28, 29, 30, 31, 32, 21, 33, 34, 35, 36, 24, 109, 110, 111, 112, 113, 114, 115, 116, 117, 118, 119, 120, 121, 122, 123, 124, 125, 126, 127, 128, 129, 130, 131, 132, 133] (by decide +kernel) (by decide +kernel)
set_option maxRecDepth 20000 in
theorem gX4_retire_X4_countMisses : GoodIn wsX4_retire (wsV RX4 251 RX4 yX4_countMisses wsX4_countMisses) := goodIn_app (goodIn_of _ (by decide +kernel)) ggX4_retire_X4_countMisses
set_option maxRecDepth 20000 in
theorem ggX4_retire_X4_learnChoice : GoodIn wsX4_retire wsX4_learnChoice := goodIn_r _ [40, 41, 42, 43, 3, 44, 45, 46, 47, 48, 49, 50, 51, 52, 53, 54, 55, 56, 57, 58, 59, 60, 125, 126, 127, 128, 129, 130, 131, 132, 133, 109, 110, 111, 112, 113, 114, 115, 116, 117, 118, 119, 120, 121, 122, 123, 124, 134, 135] (by decide +kernel) (by decide +kernel)
set_option maxRecDepth 20000 in
theorem gX4_retire_X4_learnChoice : GoodIn wsX4_retire (wsV RX4 255 RX4 yX4_learnChoice wsX4_learnChoice) := goodIn_app (goodIn_of _ (by decide +kernel)) ggX4_retire_X4_learnChoice
set_option maxRecDepth 20000 in
theorem ggX4_retire_X4_learnOutcome : GoodIn wsX4_retire wsX4_learnOutcome := goodIn_r _ [63, 64, 65, 66, 47, 67, 57, 58, 59, 60, 56, 68, 69, 70, 71, 72, 73, 74, 75, 44, 45, 46, 48, 49, 50, 51, 52, 53, 54, 55, 134, 135, 136, 137, 138] (by decide +kernel) (by decide +kernel)
set_option maxRecDepth 20000 in
theorem gX4_retire_X4_learnOutcome : GoodIn wsX4_retire (va_wsS RX4 258 yX4_learnOutcome wsX4_learnOutcome) := goodIn_app (goodIn_of _ (by decide +kernel)) ggX4_retire_X4_learnOutcome
set_option maxRecDepth 20000 in
theorem ggX4_retire_X4_learnLoop : GoodIn wsX4_retire wsX4_learnLoop := goodIn_r _ [79, 4, 80, 11, 81, 82, 83, 15, 84, 85, 86, 87, 88, 89, 90, 91, 92, 93, 94, 95, 50, 51, 52, 96, 97, 98, 99, 100, 101, 102, 103, 104, 105, 106, 107, 108, 125, 126, 127, 128, 129, 130, 131, 132, 133, 109, 110, 111, 112, 113, 114, 115, 116, 117, 118, 119, 120, 121, 122, 123, 124, 139, 140, 141, 142] (by decide +kernel) (by decide +kernel)
set_option maxRecDepth 20000 in
theorem gX4_retire_X4_learnLoop : GoodIn wsX4_retire (wsV RX4 262 RX4 yX4_learnLoop wsX4_learnLoop) := goodIn_app (goodIn_of _ (by decide +kernel)) ggX4_retire_X4_learnLoop
theorem dX4_retire_0 : decode cX4_retire 0 = .ok (.aload_n 0, 1) := by decide +kernel
theorem dX4_retire_1 : decode cX4_retire 1 = .ok (.iconst 0, 1) := by decide +kernel
theorem dX4_retire_2 : decode cX4_retire 2 = .ok (.invokevirtual 93, 3) := by decide +kernel
theorem dX4_retire_5 : decode cX4_retire 5 = .ok (.astore_n 1, 1) := by decide +kernel
theorem dX4_retire_6 : decode cX4_retire 6 = .ok (.aload_n 1, 1) := by decide +kernel
theorem dX4_retire_7 : decode cX4_retire 7 = .ok (.invokevirtual 248, 3) := by decide +kernel
theorem dX4_retire_10 : decode cX4_retire 10 = .ok (.istore_n 2, 1) := by decide +kernel
theorem dX4_retire_11 : decode cX4_retire 11 = .ok (.aload_n 0, 1) := by decide +kernel
theorem dX4_retire_12 : decode cX4_retire 12 = .ok (.aload_n 1, 1) := by decide +kernel
theorem dX4_retire_13 : decode cX4_retire 13 = .ok (.iload_n 2, 1) := by decide +kernel
theorem dX4_retire_14 : decode cX4_retire 14 = .ok (.invokevirtual 251, 3) := by decide +kernel
theorem dX4_retire_17 : decode cX4_retire 17 = .ok (.aload_n 0, 1) := by decide +kernel
theorem dX4_retire_18 : decode cX4_retire 18 = .ok (.aload_n 1, 1) := by decide +kernel
theorem dX4_retire_19 : decode cX4_retire 19 = .ok (.iload_n 2, 1) := by decide +kernel
theorem dX4_retire_20 : decode cX4_retire 20 = .ok (.invokevirtual 255, 3) := by decide +kernel
theorem dX4_retire_23 : decode cX4_retire 23 = .ok (.aload_n 0, 1) := by decide +kernel
theorem dX4_retire_24 : decode cX4_retire 24 = .ok (.getfield 12, 3) := by decide +kernel
theorem dX4_retire_27 : decode cX4_retire 27 = .ok (.aload_n 0, 1) := by decide +kernel
theorem dX4_retire_28 : decode cX4_retire 28 = .ok (.getfield 25, 3) := by decide +kernel
theorem dX4_retire_31 : decode cX4_retire 31 = .ok (.aload_n 1, 1) := by decide +kernel
theorem dX4_retire_32 : decode cX4_retire 32 = .ok (.getfield 216, 3) := by decide +kernel
theorem dX4_retire_35 : decode cX4_retire 35 = .ok (.aload_n 1, 1) := by decide +kernel
theorem dX4_retire_36 : decode cX4_retire 36 = .ok (.getfield 126, 3) := by decide +kernel
theorem dX4_retire_39 : decode cX4_retire 39 = .ok (.iload_n 2, 1) := by decide +kernel
theorem dX4_retire_40 : decode cX4_retire 40 = .ok (.invokestatic 258, 3) := by decide +kernel
theorem dX4_retire_43 : decode cX4_retire 43 = .ok (.aload_n 0, 1) := by decide +kernel
theorem dX4_retire_44 : decode cX4_retire 44 = .ok (.getfield 16, 3) := by decide +kernel
theorem dX4_retire_47 : decode cX4_retire 47 = .ok (.aload_n 0, 1) := by decide +kernel
theorem dX4_retire_48 : decode cX4_retire 48 = .ok (.getfield 29, 3) := by decide +kernel
theorem dX4_retire_51 : decode cX4_retire 51 = .ok (.aload_n 1, 1) := by decide +kernel
theorem dX4_retire_52 : decode cX4_retire 52 = .ok (.getfield 219, 3) := by decide +kernel
theorem dX4_retire_55 : decode cX4_retire 55 = .ok (.aload_n 1, 1) := by decide +kernel
theorem dX4_retire_56 : decode cX4_retire 56 = .ok (.getfield 126, 3) := by decide +kernel
theorem dX4_retire_59 : decode cX4_retire 59 = .ok (.iload_n 2, 1) := by decide +kernel
theorem dX4_retire_60 : decode cX4_retire 60 = .ok (.invokestatic 258, 3) := by decide +kernel
theorem dX4_retire_63 : decode cX4_retire 63 = .ok (.aload_n 0, 1) := by decide +kernel
theorem dX4_retire_64 : decode cX4_retire 64 = .ok (.aload_n 1, 1) := by decide +kernel
theorem dX4_retire_65 : decode cX4_retire 65 = .ok (.iload_n 2, 1) := by decide +kernel
theorem dX4_retire_66 : decode cX4_retire 66 = .ok (.invokevirtual 262, 3) := by decide +kernel
theorem dX4_retire_69 : decode cX4_retire 69 = .ok (.aload_n 0, 1) := by decide +kernel
theorem dX4_retire_70 : decode cX4_retire 70 = .ok (.dup, 1) := by decide +kernel
theorem dX4_retire_71 : decode cX4_retire 71 = .ok (.getfield 171, 3) := by decide +kernel
theorem dX4_retire_74 : decode cX4_retire 74 = .ok (.lconst 1, 1) := by decide +kernel
theorem dX4_retire_75 : decode cX4_retire 75 = .ok (.ladd, 1) := by decide +kernel
theorem dX4_retire_76 : decode cX4_retire 76 = .ok (.putfield 171, 3) := by decide +kernel
theorem dX4_retire_79 : decode cX4_retire 79 = .ok (.aload_n 0, 1) := by decide +kernel
theorem dX4_retire_80 : decode cX4_retire 80 = .ok (.aload_n 0, 1) := by decide +kernel
theorem dX4_retire_81 : decode cX4_retire 81 = .ok (.getfield 210, 3) := by decide +kernel
theorem dX4_retire_84 : decode cX4_retire 84 = .ok (.iconst 1, 1) := by decide +kernel
theorem dX4_retire_85 : decode cX4_retire 85 = .ok (.iadd, 1) := by decide +kernel
theorem dX4_retire_86 : decode cX4_retire 86 = .ok (.bipush 15, 2) := by decide +kernel
theorem dX4_retire_88 : decode cX4_retire 88 = .ok (.iand, 1) := by decide +kernel
theorem dX4_retire_89 : decode cX4_retire 89 = .ok (.putfield 210, 3) := by decide +kernel
theorem dX4_retire_92 : decode cX4_retire 92 = .ok (.aload_n 0, 1) := by decide +kernel
theorem dX4_retire_93 : decode cX4_retire 93 = .ok (.dup, 1) := by decide +kernel
theorem dX4_retire_94 : decode cX4_retire 94 = .ok (.getfield 79, 3) := by decide +kernel
theorem dX4_retire_97 : decode cX4_retire 97 = .ok (.iconst 1, 1) := by decide +kernel
theorem dX4_retire_98 : decode cX4_retire 98 = .ok (.isub, 1) := by decide +kernel
theorem dX4_retire_99 : decode cX4_retire 99 = .ok (.putfield 79, 3) := by decide +kernel
theorem dX4_retire_102 : decode cX4_retire 102 = .ok (.aload_n 1, 1) := by decide +kernel
theorem dX4_retire_103 : decode cX4_retire 103 = .ok (.getfield 97, 3) := by decide +kernel
theorem dX4_retire_106 : decode cX4_retire 106 = .ok (.iconst 2, 1) := by decide +kernel
theorem dX4_retire_107 : decode cX4_retire 107 = .ok (.if_icmp .ne 7, 3) := by decide +kernel
theorem dX4_retire_110 : decode cX4_retire 110 = .ok (.iconst 1, 1) := by decide +kernel
theorem dX4_retire_111 : decode cX4_retire 111 = .ok (.goto 4, 3) := by decide +kernel
theorem dX4_retire_114 : decode cX4_retire 114 = .ok (.iconst 0, 1) := by decide +kernel
theorem dX4_retire_115 : decode cX4_retire 115 = .ok (.ireturn, 1) := by decide +kernel
set_option maxRecDepth 20000 in
theorem ggX4_countMisses_X1_saidTaken : GoodIn wsX4_countMisses wsX1_saidTaken := goodIn_r _ [6, 7, 8, 9, 10, 27, 28, 29, 30, 31, 32, 33, 34, 35] (by decide +kernel) (by decide +kernel)
set_option maxRecDepth 20000 in
theorem gX4_countMisses_X1_saidTaken : GoodIn wsX4_countMisses (wsV RX4 132 RX1 yX1_saidTaken wsX1_saidTaken) := goodIn_app (goodIn_of _ (by decide +kernel)) ggX4_countMisses_X1_saidTaken
theorem dX4_countMisses_0 : decode cX4_countMisses 0 = .ok (.iconst 0, 1) := by decide +kernel
theorem dX4_countMisses_1 : decode cX4_countMisses 1 = .ok (.istore_n 3, 1) := by decide +kernel
theorem dX4_countMisses_2 : decode cX4_countMisses 2 = .ok (.iload_n 3, 1) := by decide +kernel
theorem dX4_countMisses_3 : decode cX4_countMisses 3 = .ok (.iconst 4, 1) := by decide +kernel
theorem dX4_countMisses_4 : decode cX4_countMisses 4 = .ok (.if_icmp .ge 28, 3) := by decide +kernel
theorem dX4_countMisses_7 : decode cX4_countMisses 7 = .ok (.aload_n 1, 1) := by decide +kernel
theorem dX4_countMisses_8 : decode cX4_countMisses 8 = .ok (.iload_n 3, 1) := by decide +kernel
theorem dX4_countMisses_9 : decode cX4_countMisses 9 = .ok (.invokevirtual 132, 3) := by decide +kernel
theorem dX4_countMisses_12 : decode cX4_countMisses 12 = .ok (.iload_n 2, 1) := by decide +kernel
theorem dX4_countMisses_13 : decode cX4_countMisses 13 = .ok (.if_icmp .eq 13, 3) := by decide +kernel
theorem dX4_countMisses_16 : decode cX4_countMisses 16 = .ok (.aload_n 0, 1) := by decide +kernel
theorem dX4_countMisses_17 : decode cX4_countMisses 17 = .ok (.getfield 44, 3) := by decide +kernel
theorem dX4_countMisses_20 : decode cX4_countMisses 20 = .ok (.iload_n 3, 1) := by decide +kernel
theorem dX4_countMisses_21 : decode cX4_countMisses 21 = .ok (.dup2, 1) := by decide +kernel
theorem dX4_countMisses_22 : decode cX4_countMisses 22 = .ok (.laload, 1) := by decide +kernel
theorem dX4_countMisses_23 : decode cX4_countMisses 23 = .ok (.lconst 1, 1) := by decide +kernel
theorem dX4_countMisses_24 : decode cX4_countMisses 24 = .ok (.ladd, 1) := by decide +kernel
theorem dX4_countMisses_25 : decode cX4_countMisses 25 = .ok (.lastore, 1) := by decide +kernel
theorem dX4_countMisses_26 : decode cX4_countMisses 26 = .ok (.iinc 3 1, 3) := by decide +kernel
theorem dX4_countMisses_29 : decode cX4_countMisses 29 = .ok (.goto (-27), 3) := by decide +kernel
theorem dX4_countMisses_32 : decode cX4_countMisses 32 = .ok (.return_, 1) := by decide +kernel
set_option maxRecDepth 20000 in
theorem ggX4_learnChoice_X2_move : GoodIn wsX4_learnChoice wsX2_move := goodIn_r _ [9, 10, 11, 12, 13, 14, 15, 16, 17, 18, 19, 20, 8, 21, 47, 48] (by decide +kernel) (by decide +kernel)
set_option maxRecDepth 20000 in
theorem gX4_learnChoice_X2_move : GoodIn wsX4_learnChoice (wsV RX4 265 RX2 yX2_move wsX2_move) := goodIn_app (goodIn_of _ (by decide +kernel)) ggX4_learnChoice_X2_move
theorem dX4_learnChoice_0 : decode cX4_learnChoice 0 = .ok (.aload_n 1, 1) := by decide +kernel
theorem dX4_learnChoice_1 : decode cX4_learnChoice 1 = .ok (.getfield 225, 3) := by decide +kernel
theorem dX4_learnChoice_4 : decode cX4_learnChoice 4 = .ok (.aload_n 1, 1) := by decide +kernel
theorem dX4_learnChoice_5 : decode cX4_learnChoice 5 = .ok (.getfield 229, 3) := by decide +kernel
theorem dX4_learnChoice_8 : decode cX4_learnChoice 8 = .ok (.if_icmp .eq 27, 3) := by decide +kernel
theorem dX4_learnChoice_11 : decode cX4_learnChoice 11 = .ok (.aload_n 0, 1) := by decide +kernel
theorem dX4_learnChoice_12 : decode cX4_learnChoice 12 = .ok (.getfield 19, 3) := by decide +kernel
theorem dX4_learnChoice_15 : decode cX4_learnChoice 15 = .ok (.aload_n 1, 1) := by decide +kernel
theorem dX4_learnChoice_16 : decode cX4_learnChoice 16 = .ok (.getfield 216, 3) := by decide +kernel
theorem dX4_learnChoice_19 : decode cX4_learnChoice 19 = .ok (.aload_n 1, 1) := by decide +kernel
theorem dX4_learnChoice_20 : decode cX4_learnChoice 20 = .ok (.getfield 229, 3) := by decide +kernel
theorem dX4_learnChoice_23 : decode cX4_learnChoice 23 = .ok (.iload_n 2, 1) := by decide +kernel
theorem dX4_learnChoice_24 : decode cX4_learnChoice 24 = .ok (.if_icmp .ne 7, 3) := by decide +kernel
theorem dX4_learnChoice_27 : decode cX4_learnChoice 27 = .ok (.iconst 1, 1) := by decide +kernel
theorem dX4_learnChoice_28 : decode cX4_learnChoice 28 = .ok (.goto 4, 3) := by decide +kernel
theorem dX4_learnChoice_31 : decode cX4_learnChoice 31 = .ok (.iconst 0, 1) := by decide +kernel
theorem dX4_learnChoice_32 : decode cX4_learnChoice 32 = .ok (.invokevirtual 265, 3) := by decide +kernel
theorem dX4_learnChoice_35 : decode cX4_learnChoice 35 = .ok (.return_, 1) := by decide +kernel
set_option maxRecDepth 20000 in
theorem ggX4_learnOutcome_X2_saysTaken : GoodIn wsX4_learnOutcome wsX2_saysTaken := goodIn_r _ [5, 6, 7, 8, 4, 9, 10, 30, 31] (by decide +kernel) (by decide +kernel)
set_option maxRecDepth 20000 in
theorem gX4_learnOutcome_X2_saysTaken : GoodIn wsX4_learnOutcome (wsV RX4 222 RX2 yX2_saysTaken wsX2_saysTaken) := goodIn_app (goodIn_of _ (by decide +kernel)) ggX4_learnOutcome_X2_saysTaken
set_option maxRecDepth 20000 in
theorem ggX4_learnOutcome_X0_note : GoodIn wsX4_learnOutcome wsX0_note := goodIn_r _ [15, 16, 17, 18, 32, 33, 34] (by decide +kernel) (by decide +kernel)
set_option maxRecDepth 20000 in
theorem gX4_learnOutcome_X0_note : GoodIn wsX4_learnOutcome (wsV RX4 269 RX0 yX0_note wsX0_note) := goodIn_app (goodIn_of _ (by decide +kernel)) ggX4_learnOutcome_X0_note
set_option maxRecDepth 20000 in
theorem ggX4_learnOutcome_X2_move : GoodIn wsX4_learnOutcome wsX2_move := goodIn_r _ [22, 23, 24, 25, 26, 27, 28, 29, 10, 6, 7, 8, 4, 9, 30, 31] (by decide +kernel) (by decide +kernel)
set_option maxRecDepth 20000 in
theorem gX4_learnOutcome_X2_move : GoodIn wsX4_learnOutcome (wsV RX4 265 RX2 yX2_move wsX2_move) := goodIn_app (goodIn_of _ (by decide +kernel)) ggX4_learnOutcome_X2_move
theorem dX4_learnOutcome_0 : decode cX4_learnOutcome 0 = .ok (.aload_n 1, 1) := by decide +kernel
theorem dX4_learnOutcome_1 : decode cX4_learnOutcome 1 = .ok (.iload_n 2, 1) := by decide +kernel
theorem dX4_learnOutcome_2 : decode cX4_learnOutcome 2 = .ok (.iload_n 3, 1) := by decide +kernel
theorem dX4_learnOutcome_3 : decode cX4_learnOutcome 3 = .ok (.aload_n 0, 1) := by decide +kernel
theorem dX4_learnOutcome_4 : decode cX4_learnOutcome 4 = .ok (.iload_n 2, 1) := by decide +kernel
theorem dX4_learnOutcome_5 : decode cX4_learnOutcome 5 = .ok (.invokevirtual 222, 3) := by decide +kernel
theorem dX4_learnOutcome_8 : decode cX4_learnOutcome 8 = .ok (.iload 4, 2) := by decide +kernel
theorem dX4_learnOutcome_10 : decode cX4_learnOutcome 10 = .ok (.if_icmp .eq 7, 3) := by decide +kernel
theorem dX4_learnOutcome_13 : decode cX4_learnOutcome 13 = .ok (.iconst 1, 1) := by decide +kernel
theorem dX4_learnOutcome_14 : decode cX4_learnOutcome 14 = .ok (.goto 4, 3) := by decide +kernel
theorem dX4_learnOutcome_17 : decode cX4_learnOutcome 17 = .ok (.iconst 0, 1) := by decide +kernel
theorem dX4_learnOutcome_18 : decode cX4_learnOutcome 18 = .ok (.invokevirtual 269, 3) := by decide +kernel
theorem dX4_learnOutcome_21 : decode cX4_learnOutcome 21 = .ok (.aload_n 0, 1) := by decide +kernel
theorem dX4_learnOutcome_22 : decode cX4_learnOutcome 22 = .ok (.iload_n 2, 1) := by decide +kernel
theorem dX4_learnOutcome_23 : decode cX4_learnOutcome 23 = .ok (.iload 4, 2) := by decide +kernel
theorem dX4_learnOutcome_25 : decode cX4_learnOutcome 25 = .ok (.invokevirtual 265, 3) := by decide +kernel
theorem dX4_learnOutcome_28 : decode cX4_learnOutcome 28 = .ok (.return_, 1) := by decide +kernel
set_option maxRecDepth 20000 in
theorem ggX4_learnLoop_X4_loopWith : GoodIn wsX4_learnLoop wsX4_loopWith := goodIn_r _ [8, 2, 9, 45, 46, 47, 48, 49, 50, 51, 52, 53, 54, 55, 56, 57, 58, 59, 60, 61, 62, 63, 64] (by decide +kernel) (by decide +kernel)
set_option maxRecDepth 20000 in
theorem gX4_learnLoop_X4_loopWith : GoodIn wsX4_learnLoop (wsV RX4 245 RX4 yX4_loopWith wsX4_loopWith) := goodIn_app (goodIn_of _ (by decide +kernel)) ggX4_learnLoop_X4_loopWith
set_option maxRecDepth 20000 in
theorem ggX4_learnLoop_X3_learn : GoodIn wsX4_learnLoop wsX3_learn := goodIn_r _ [14, 15, 16, 17, 18, 19, 20, 21, 22, 61, 62, 63, 64] (by decide +kernel) (by decide +kernel)
set_option maxRecDepth 20000 in
theorem gX4_learnLoop_X3_learn : GoodIn wsX4_learnLoop (wsV RX4 273 RX3 yX3_learn wsX3_learn) := goodIn_app (goodIn_of _ (by decide +kernel)) ggX4_learnLoop_X3_learn
set_option maxRecDepth 20000 in
theorem ggX4_learnLoop_X4_numberForNewLoop : GoodIn wsX4_learnLoop wsX4_numberForNewLoop := goodIn_r _ [26, 2, 27, 28, 29, 30, 13, 31, 16, 45, 46, 47, 48, 49, 50, 51, 52, 53, 54, 55, 56, 57, 58, 59, 60, 61, 62, 63, 64] (by decide +kernel) (by decide +kernel)
set_option maxRecDepth 20000 in
theorem gX4_learnLoop_X4_numberForNewLoop : GoodIn wsX4_learnLoop (wsV RX4 277 RX4 yX4_numberForNewLoop wsX4_numberForNewLoop) := goodIn_app (goodIn_of _ (by decide +kernel)) ggX4_learnLoop_X4_numberForNewLoop
set_option maxRecDepth 20000 in
theorem ggX4_learnLoop_X3_startAnew : GoodIn wsX4_learnLoop wsX3_startAnew := goodIn_r _ [35, 16, 15, 17, 18, 61, 62, 63, 64] (by decide +kernel) (by decide +kernel)
set_option maxRecDepth 20000 in
theorem gX4_learnLoop_X3_startAnew : GoodIn wsX4_learnLoop (wsV RX4 281 RX3 yX3_startAnew wsX3_startAnew) := goodIn_app (goodIn_of _ (by decide +kernel)) ggX4_learnLoop_X3_startAnew
theorem dX4_learnLoop_0 : decode cX4_learnLoop 0 = .ok (.aload_n 0, 1) := by decide +kernel
theorem dX4_learnLoop_1 : decode cX4_learnLoop 1 = .ok (.aload_n 1, 1) := by decide +kernel
theorem dX4_learnLoop_2 : decode cX4_learnLoop 2 = .ok (.getfield 126, 3) := by decide +kernel
theorem dX4_learnLoop_5 : decode cX4_learnLoop 5 = .ok (.invokevirtual 245, 3) := by decide +kernel
theorem dX4_learnLoop_8 : decode cX4_learnLoop 8 = .ok (.istore_n 3, 1) := by decide +kernel
theorem dX4_learnLoop_9 : decode cX4_learnLoop 9 = .ok (.iload_n 3, 1) := by decide +kernel
theorem dX4_learnLoop_10 : decode cX4_learnLoop 10 = .ok (.ifCond .lt 16, 3) := by decide +kernel
theorem dX4_learnLoop_13 : decode cX4_learnLoop 13 = .ok (.aload_n 0, 1) := by decide +kernel
theorem dX4_learnLoop_14 : decode cX4_learnLoop 14 = .ok (.getfield 40, 3) := by decide +kernel
theorem dX4_learnLoop_17 : decode cX4_learnLoop 17 = .ok (.iload_n 3, 1) := by decide +kernel
theorem dX4_learnLoop_18 : decode cX4_learnLoop 18 = .ok (.aaload, 1) := by decide +kernel
theorem dX4_learnLoop_19 : decode cX4_learnLoop 19 = .ok (.iload_n 2, 1) := by decide +kernel
theorem dX4_learnLoop_20 : decode cX4_learnLoop 20 = .ok (.invokevirtual 273, 3) := by decide +kernel
theorem dX4_learnLoop_23 : decode cX4_learnLoop 23 = .ok (.goto 31, 3) := by decide +kernel
theorem dX4_learnLoop_26 : decode cX4_learnLoop 26 = .ok (.iload_n 2, 1) := by decide +kernel
theorem dX4_learnLoop_27 : decode cX4_learnLoop 27 = .ok (.ifCond .ne 27, 3) := by decide +kernel
theorem dX4_learnLoop_30 : decode cX4_learnLoop 30 = .ok (.aload_n 1, 1) := by decide +kernel
theorem dX4_learnLoop_31 : decode cX4_learnLoop 31 = .ok (.getfield 97, 3) := by decide +kernel
theorem dX4_learnLoop_34 : decode cX4_learnLoop 34 = .ok (.iconst 2, 1) := by decide +kernel
theorem dX4_learnLoop_35 : decode cX4_learnLoop 35 = .ok (.if_icmp .ne 19, 3) := by decide +kernel
theorem dX4_learnLoop_38 : decode cX4_learnLoop 38 = .ok (.aload_n 0, 1) := by decide +kernel
theorem dX4_learnLoop_39 : decode cX4_learnLoop 39 = .ok (.getfield 40, 3) := by decide +kernel
theorem dX4_learnLoop_42 : decode cX4_learnLoop 42 = .ok (.aload_n 0, 1) := by decide +kernel
theorem dX4_learnLoop_43 : decode cX4_learnLoop 43 = .ok (.invokevirtual 277, 3) := by decide +kernel
theorem dX4_learnLoop_46 : decode cX4_learnLoop 46 = .ok (.aaload, 1) := by decide +kernel
theorem dX4_learnLoop_47 : decode cX4_learnLoop 47 = .ok (.aload_n 1, 1) := by decide +kernel
theorem dX4_learnLoop_48 : decode cX4_learnLoop 48 = .ok (.getfield 126, 3) := by decide +kernel
theorem dX4_learnLoop_51 : decode cX4_learnLoop 51 = .ok (.invokevirtual 281, 3) := by decide +kernel
theorem dX4_learnLoop_54 : decode cX4_learnLoop 54 = .ok (.return_, 1) := by decide +kernel
theorem dX4_loopWith_0 : decode cX4_loopWith 0 = .ok (.iconst 0, 1) := by decide +kernel
theorem dX4_loopWith_1 : decode cX4_loopWith 1 = .ok (.istore_n 2, 1) := by decide +kernel
theorem dX4_loopWith_2 : decode cX4_loopWith 2 = .ok (.iload_n 2, 1) := by decide +kernel
theorem dX4_loopWith_3 : decode cX4_loopWith 3 = .ok (.bipush 8, 2) := by decide +kernel
theorem dX4_loopWith_5 : decode cX4_loopWith 5 = .ok (.if_icmp .ge 24, 3) := by decide +kernel
theorem dX4_loopWith_8 : decode cX4_loopWith 8 = .ok (.aload_n 0, 1) := by decide +kernel
theorem dX4_loopWith_9 : decode cX4_loopWith 9 = .ok (.getfield 40, 3) := by decide +kernel
theorem dX4_loopWith_12 : decode cX4_loopWith 12 = .ok (.iload_n 2, 1) := by decide +kernel
theorem dX4_loopWith_13 : decode cX4_loopWith 13 = .ok (.aaload, 1) := by decide +kernel
theorem dX4_loopWith_14 : decode cX4_loopWith 14 = .ok (.getfield 157, 3) := by decide +kernel
theorem dX4_loopWith_17 : decode cX4_loopWith 17 = .ok (.iload_n 1, 1) := by decide +kernel
theorem dX4_loopWith_18 : decode cX4_loopWith 18 = .ok (.if_icmp .ne 5, 3) := by decide +kernel
theorem dX4_loopWith_21 : decode cX4_loopWith 21 = .ok (.iload_n 2, 1) := by decide +kernel
theorem dX4_loopWith_22 : decode cX4_loopWith 22 = .ok (.ireturn, 1) := by decide +kernel
theorem dX4_loopWith_23 : decode cX4_loopWith 23 = .ok (.iinc 2 1, 3) := by decide +kernel
theorem dX4_loopWith_26 : decode cX4_loopWith 26 = .ok (.goto (-24), 3) := by decide +kernel
theorem dX4_loopWith_29 : decode cX4_loopWith 29 = .ok (.iconst (-1), 1) := by decide +kernel
theorem dX4_loopWith_30 : decode cX4_loopWith 30 = .ok (.ireturn, 1) := by decide +kernel
set_option maxRecDepth 20000 in
theorem ggX4_numberForNewLoop_X3_isFree : GoodIn wsX4_numberForNewLoop wsX3_isFree := goodIn_r _ [7, 8, 25, 26, 27, 28] (by decide +kernel) (by decide +kernel)
set_option maxRecDepth 20000 in
theorem gX4_numberForNewLoop_X3_isFree : GoodIn wsX4_numberForNewLoop (wsV RX4 154 RX3 yX3_isFree wsX3_isFree) := goodIn_app (goodIn_of _ (by decide +kernel)) ggX4_numberForNewLoop_X3_isFree
theorem dX4_numberForNewLoop_0 : decode cX4_numberForNewLoop 0 = .ok (.iconst 0, 1) := by decide +kernel
theorem dX4_numberForNewLoop_1 : decode cX4_numberForNewLoop 1 = .ok (.istore_n 1, 1) := by decide +kernel
theorem dX4_numberForNewLoop_2 : decode cX4_numberForNewLoop 2 = .ok (.iconst 0, 1) := by decide +kernel
theorem dX4_numberForNewLoop_3 : decode cX4_numberForNewLoop 3 = .ok (.istore_n 2, 1) := by decide +kernel
theorem dX4_numberForNewLoop_4 : decode cX4_numberForNewLoop 4 = .ok (.iload_n 2, 1) := by decide +kernel
theorem dX4_numberForNewLoop_5 : decode cX4_numberForNewLoop 5 = .ok (.bipush 8, 2) := by decide +kernel
theorem dX4_numberForNewLoop_7 : decode cX4_numberForNewLoop 7 = .ok (.if_icmp .ge 46, 3) := by decide +kernel
theorem dX4_numberForNewLoop_10 : decode cX4_numberForNewLoop 10 = .ok (.aload_n 0, 1) := by decide +kernel
theorem dX4_numberForNewLoop_11 : decode cX4_numberForNewLoop 11 = .ok (.getfield 40, 3) := by decide +kernel
theorem dX4_numberForNewLoop_14 : decode cX4_numberForNewLoop 14 = .ok (.iload_n 2, 1) := by decide +kernel
theorem dX4_numberForNewLoop_15 : decode cX4_numberForNewLoop 15 = .ok (.aaload, 1) := by decide +kernel
theorem dX4_numberForNewLoop_16 : decode cX4_numberForNewLoop 16 = .ok (.invokevirtual 154, 3) := by decide +kernel
theorem dX4_numberForNewLoop_19 : decode cX4_numberForNewLoop 19 = .ok (.ifCond .eq 5, 3) := by decide +kernel
theorem dX4_numberForNewLoop_22 : decode cX4_numberForNewLoop 22 = .ok (.iload_n 2, 1) := by decide +kernel
theorem dX4_numberForNewLoop_23 : decode cX4_numberForNewLoop 23 = .ok (.ireturn, 1) := by decide +kernel
theorem dX4_numberForNewLoop_24 : decode cX4_numberForNewLoop 24 = .ok (.aload_n 0, 1) := by decide +kernel
theorem dX4_numberForNewLoop_25 : decode cX4_numberForNewLoop 25 = .ok (.getfield 40, 3) := by decide +kernel
theorem dX4_numberForNewLoop_28 : decode cX4_numberForNewLoop 28 = .ok (.iload_n 2, 1) := by decide +kernel
theorem dX4_numberForNewLoop_29 : decode cX4_numberForNewLoop 29 = .ok (.aaload, 1) := by decide +kernel
theorem dX4_numberForNewLoop_30 : decode cX4_numberForNewLoop 30 = .ok (.getfield 164, 3) := by decide +kernel
theorem dX4_numberForNewLoop_33 : decode cX4_numberForNewLoop 33 = .ok (.aload_n 0, 1) := by decide +kernel
theorem dX4_numberForNewLoop_34 : decode cX4_numberForNewLoop 34 = .ok (.getfield 40, 3) := by decide +kernel
theorem dX4_numberForNewLoop_37 : decode cX4_numberForNewLoop 37 = .ok (.iload_n 1, 1) := by decide +kernel
theorem dX4_numberForNewLoop_38 : decode cX4_numberForNewLoop 38 = .ok (.aaload, 1) := by decide +kernel
theorem dX4_numberForNewLoop_39 : decode cX4_numberForNewLoop 39 = .ok (.getfield 164, 3) := by decide +kernel
theorem dX4_numberForNewLoop_42 : decode cX4_numberForNewLoop 42 = .ok (.if_icmp .ge 5, 3) := by decide +kernel
theorem dX4_numberForNewLoop_45 : decode cX4_numberForNewLoop 45 = .ok (.iload_n 2, 1) := by decide +kernel
theorem dX4_numberForNewLoop_46 : decode cX4_numberForNewLoop 46 = .ok (.istore_n 1, 1) := by decide +kernel
theorem dX4_numberForNewLoop_47 : decode cX4_numberForNewLoop 47 = .ok (.iinc 2 1, 3) := by decide +kernel
theorem dX4_numberForNewLoop_50 : decode cX4_numberForNewLoop 50 = .ok (.goto (-46), 3) := by decide +kernel
theorem dX4_numberForNewLoop_53 : decode cX4_numberForNewLoop 53 = .ok (.iload_n 1, 1) := by decide +kernel
theorem dX4_numberForNewLoop_54 : decode cX4_numberForNewLoop 54 = .ok (.ireturn, 1) := by decide +kernel
set_option maxRecDepth 20000 in
theorem ggX5_init_X5_begin : GoodIn wsX5_init wsX5_begin := goodIn_r _ [25, 26, 27, 28, 29, 30, 31, 32, 5, 6, 13, 19, 20, 33, 34, 35, 36, 37, 38, 39, 40, 41, 42, 43, 44, 45, 46, 47, 48, 49, 50, 51, 52, 53, 54] (by decide +kernel) (by decide +kernel)
set_option maxRecDepth 20000 in
theorem gX5_init_X5_begin : GoodIn wsX5_init (wsV RX5 54 RX5 yX5_begin wsX5_begin) := goodIn_app (goodIn_of _ (by decide +kernel)) ggX5_init_X5_begin
end
section
theorem dX5_init_0 : decode cX5_init 0 = .ok (.aload_n 0, 1) := by decide +kernel
theorem dX5_init_1 : decode cX5_init 1 = .ok (.invokespecial 1, 3) := by decide +kernel
theorem dX5_init_4 : decode cX5_init 4 = .ok (.aload_n 0, 1) := by decide +kernel
theorem dX5_init_5 : decode cX5_init 5 = .ok (.sipush 768, 3) := by decide +kernel
theorem dX5_init_8 : decode cX5_init 8 = .ok (.newarray .int, 2) := by decide +kernel
theorem dX5_init_10 : decode cX5_init 10 = .ok (.putfield 9, 3) := by decide +kernel
theorem dX5_init_13 : decode cX5_init 13 = .ok (.aload_n 0, 1) := by decide +kernel
theorem dX5_init_14 : decode cX5_init 14 = .ok (.sipush 512, 3) := by decide +kernel
theorem dX5_init_17 : decode cX5_init 17 = .ok (.newarray .int, 2) := by decide +kernel
theorem dX5_init_19 : decode cX5_init 19 = .ok (.putfield 13, 3) := by decide +kernel
theorem dX5_init_22 : decode cX5_init 22 = .ok (.aload_n 0, 1) := by decide +kernel
theorem dX5_init_23 : decode cX5_init 23 = .ok (.bipush 16, 2) := by decide +kernel
theorem dX5_init_25 : decode cX5_init 25 = .ok (.newarray .int, 2) := by decide +kernel
theorem dX5_init_27 : decode cX5_init 27 = .ok (.putfield 16, 3) := by decide +kernel
theorem dX5_init_30 : decode cX5_init 30 = .ok (.aload_n 0, 1) := by decide +kernel
theorem dX5_init_31 : decode cX5_init 31 = .ok (.bipush 16, 2) := by decide +kernel
theorem dX5_init_33 : decode cX5_init 33 = .ok (.newarray .int, 2) := by decide +kernel
theorem dX5_init_35 : decode cX5_init 35 = .ok (.putfield 19, 3) := by decide +kernel
theorem dX5_init_38 : decode cX5_init 38 = .ok (.aload_n 0, 1) := by decide +kernel
theorem dX5_init_39 : decode cX5_init 39 = .ok (.bipush 64, 2) := by decide +kernel
theorem dX5_init_41 : decode cX5_init 41 = .ok (.newarray .boolean, 2) := by decide +kernel
theorem dX5_init_43 : decode cX5_init 43 = .ok (.putfield 22, 3) := by decide +kernel
theorem dX5_init_46 : decode cX5_init 46 = .ok (.aload_n 0, 1) := by decide +kernel
theorem dX5_init_47 : decode cX5_init 47 = .ok (.bipush 16, 2) := by decide +kernel
theorem dX5_init_49 : decode cX5_init 49 = .ok (.newarray .boolean, 2) := by decide +kernel
theorem dX5_init_51 : decode cX5_init 51 = .ok (.putfield 26, 3) := by decide +kernel
theorem dX5_init_54 : decode cX5_init 54 = .ok (.aload_n 0, 1) := by decide +kernel
theorem dX5_init_55 : decode cX5_init 55 = .ok (.bipush 16, 2) := by decide +kernel
theorem dX5_init_57 : decode cX5_init 57 = .ok (.newarray .boolean, 2) := by decide +kernel
theorem dX5_init_59 : decode cX5_init 59 = .ok (.putfield 29, 3) := by decide +kernel
theorem dX5_init_62 : decode cX5_init 62 = .ok (.aload_n 0, 1) := by decide +kernel
theorem dX5_init_63 : decode cX5_init 63 = .ok (.bipush 8, 2) := by decide +kernel
theorem dX5_init_65 : decode cX5_init 65 = .ok (.newarray .boolean, 2) := by decide +kernel
theorem dX5_init_67 : decode cX5_init 67 = .ok (.putfield 32, 3) := by decide +kernel
theorem dX5_init_70 : decode cX5_init 70 = .ok (.aload_n 0, 1) := by decide +kernel
theorem dX5_init_71 : decode cX5_init 71 = .ok (.bipush 8, 2) := by decide +kernel
theorem dX5_init_73 : decode cX5_init 73 = .ok (.newarray .int, 2) := by decide +kernel
theorem dX5_init_75 : decode cX5_init 75 = .ok (.putfield 35, 3) := by decide +kernel
theorem dX5_init_78 : decode cX5_init 78 = .ok (.aload_n 0, 1) := by decide +kernel
theorem dX5_init_79 : decode cX5_init 79 = .ok (.bipush 8, 2) := by decide +kernel
theorem dX5_init_81 : decode cX5_init 81 = .ok (.newarray .int, 2) := by decide +kernel
theorem dX5_init_83 : decode cX5_init 83 = .ok (.putfield 38, 3) := by decide +kernel
theorem dX5_init_86 : decode cX5_init 86 = .ok (.aload_n 0, 1) := by decide +kernel
theorem dX5_init_87 : decode cX5_init 87 = .ok (.bipush 8, 2) := by decide +kernel
theorem dX5_init_89 : decode cX5_init 89 = .ok (.newarray .int, 2) := by decide +kernel
theorem dX5_init_91 : decode cX5_init 91 = .ok (.putfield 41, 3) := by decide +kernel
theorem dX5_init_94 : decode cX5_init 94 = .ok (.aload_n 0, 1) := by decide +kernel
theorem dX5_init_95 : decode cX5_init 95 = .ok (.bipush 8, 2) := by decide +kernel
theorem dX5_init_97 : decode cX5_init 97 = .ok (.newarray .int, 2) := by decide +kernel
theorem dX5_init_99 : decode cX5_init 99 = .ok (.putfield 44, 3) := by decide +kernel
theorem dX5_init_102 : decode cX5_init 102 = .ok (.aload_n 0, 1) := by decide +kernel
theorem dX5_init_103 : decode cX5_init 103 = .ok (.iconst 4, 1) := by decide +kernel
theorem dX5_init_104 : decode cX5_init 104 = .ok (.newarray .long, 2) := by decide +kernel
theorem dX5_init_106 : decode cX5_init 106 = .ok (.putfield 47, 3) := by decide +kernel
theorem dX5_init_109 : decode cX5_init 109 = .ok (.aload_n 0, 1) := by decide +kernel
theorem dX5_init_110 : decode cX5_init 110 = .ok (.iconst 4, 1) := by decide +kernel
theorem dX5_init_111 : decode cX5_init 111 = .ok (.newarray .long, 2) := by decide +kernel
theorem dX5_init_113 : decode cX5_init 113 = .ok (.putfield 51, 3) := by decide +kernel
theorem dX5_init_116 : decode cX5_init 116 = .ok (.aload_n 0, 1) := by decide +kernel
theorem dX5_init_117 : decode cX5_init 117 = .ok (.iconst 4, 1) := by decide +kernel
theorem dX5_init_118 : decode cX5_init 118 = .ok (.iconst 4, 1) := by decide +kernel
theorem dX5_init_119 : decode cX5_init 119 = .ok (.iconst 4, 1) := by decide +kernel
theorem dX5_init_120 : decode cX5_init 120 = .ok (.invokevirtual 54, 3) := by decide +kernel
theorem dX5_init_123 : decode cX5_init 123 = .ok (.return_, 1) := by decide +kernel
theorem dX5_thrown_0 : decode cX5_thrown 0 = .ok (.aload_n 0, 1) := by decide +kernel
theorem dX5_thrown_1 : decode cX5_thrown 1 = .ok (.getfield 58, 3) := by decide +kernel
theorem dX5_thrown_4 : decode cX5_thrown 4 = .ok (.ireturn, 1) := by decide +kernel
theorem dX5_fail_0 : decode cX5_fail 0 = .ok (.aload_n 0, 1) := by decide +kernel
theorem dX5_fail_1 : decode cX5_fail 1 = .ok (.iload_n 1, 1) := by decide +kernel
theorem dX5_fail_2 : decode cX5_fail 2 = .ok (.putfield 58, 3) := by decide +kernel
theorem dX5_fail_5 : decode cX5_fail 5 = .ok (.iconst 0, 1) := by decide +kernel
theorem dX5_fail_6 : decode cX5_fail 6 = .ok (.ireturn, 1) := by decide +kernel
theorem dX5_failed_0 : decode cX5_failed 0 = .ok (.aload_n 0, 1) := by decide +kernel
theorem dX5_failed_1 : decode cX5_failed 1 = .ok (.iload_n 1, 1) := by decide +kernel
theorem dX5_failed_2 : decode cX5_failed 2 = .ok (.putfield 58, 3) := by decide +kernel
theorem dX5_failed_5 : decode cX5_failed 5 = .ok (.iconst 0, 1) := by decide +kernel
theorem dX5_failed_6 : decode cX5_failed 6 = .ok (.ireturn, 1) := by decide +kernel
theorem dX5_begin_0 : decode cX5_begin 0 = .ok (.aload_n 0, 1) := by decide +kernel
theorem dX5_begin_1 : decode cX5_begin 1 = .ok (.iload_n 1, 1) := by decide +kernel
theorem dX5_begin_2 : decode cX5_begin 2 = .ok (.putfield 62, 3) := by decide +kernel
theorem dX5_begin_5 : decode cX5_begin 5 = .ok (.aload_n 0, 1) := by decide +kernel
theorem dX5_begin_6 : decode cX5_begin 6 = .ok (.iload_n 2, 1) := by decide +kernel
theorem dX5_begin_7 : decode cX5_begin 7 = .ok (.putfield 65, 3) := by decide +kernel
theorem dX5_begin_10 : decode cX5_begin 10 = .ok (.aload_n 0, 1) := by decide +kernel
theorem dX5_begin_11 : decode cX5_begin 11 = .ok (.iload_n 3, 1) := by decide +kernel
theorem dX5_begin_12 : decode cX5_begin 12 = .ok (.putfield 68, 3) := by decide +kernel
theorem dX5_begin_15 : decode cX5_begin 15 = .ok (.aload_n 0, 1) := by decide +kernel
theorem dX5_begin_16 : decode cX5_begin 16 = .ok (.iconst 0, 1) := by decide +kernel
theorem dX5_begin_17 : decode cX5_begin 17 = .ok (.putfield 71, 3) := by decide +kernel
theorem dX5_begin_20 : decode cX5_begin 20 = .ok (.aload_n 0, 1) := by decide +kernel
theorem dX5_begin_21 : decode cX5_begin 21 = .ok (.iconst 0, 1) := by decide +kernel
theorem dX5_begin_22 : decode cX5_begin 22 = .ok (.putfield 74, 3) := by decide +kernel
theorem dX5_begin_25 : decode cX5_begin 25 = .ok (.aload_n 0, 1) := by decide +kernel
theorem dX5_begin_26 : decode cX5_begin 26 = .ok (.lconst 0, 1) := by decide +kernel
theorem dX5_begin_27 : decode cX5_begin 27 = .ok (.putfield 77, 3) := by decide +kernel
theorem dX5_begin_30 : decode cX5_begin 30 = .ok (.aload_n 0, 1) := by decide +kernel
theorem dX5_begin_31 : decode cX5_begin 31 = .ok (.lconst 0, 1) := by decide +kernel
theorem dX5_begin_32 : decode cX5_begin 32 = .ok (.putfield 81, 3) := by decide +kernel
theorem dX5_begin_35 : decode cX5_begin 35 = .ok (.iconst 0, 1) := by decide +kernel
theorem dX5_begin_36 : decode cX5_begin 36 = .ok (.istore 4, 2) := by decide +kernel
theorem dX5_begin_38 : decode cX5_begin 38 = .ok (.iload 4, 2) := by decide +kernel
theorem dX5_begin_40 : decode cX5_begin 40 = .ok (.sipush 768, 3) := by decide +kernel
theorem dX5_begin_43 : decode cX5_begin 43 = .ok (.if_icmp .ge 17, 3) := by decide +kernel
theorem dX5_begin_46 : decode cX5_begin 46 = .ok (.aload_n 0, 1) := by decide +kernel
theorem dX5_begin_47 : decode cX5_begin 47 = .ok (.getfield 9, 3) := by decide +kernel
theorem dX5_begin_50 : decode cX5_begin 50 = .ok (.iload 4, 2) := by decide +kernel
theorem dX5_begin_52 : decode cX5_begin 52 = .ok (.iconst 1, 1) := by decide +kernel
theorem dX5_begin_53 : decode cX5_begin 53 = .ok (.iastore, 1) := by decide +kernel
theorem dX5_begin_54 : decode cX5_begin 54 = .ok (.iinc 4 1, 3) := by decide +kernel
theorem dX5_begin_57 : decode cX5_begin 57 = .ok (.goto (-19), 3) := by decide +kernel
theorem dX5_begin_60 : decode cX5_begin 60 = .ok (.iconst 0, 1) := by decide +kernel
theorem dX5_begin_61 : decode cX5_begin 61 = .ok (.istore 4, 2) := by decide +kernel
theorem dX5_begin_63 : decode cX5_begin 63 = .ok (.iload 4, 2) := by decide +kernel
theorem dX5_begin_65 : decode cX5_begin 65 = .ok (.sipush 512, 3) := by decide +kernel
theorem dX5_begin_68 : decode cX5_begin 68 = .ok (.if_icmp .ge 17, 3) := by decide +kernel
theorem dX5_begin_71 : decode cX5_begin 71 = .ok (.aload_n 0, 1) := by decide +kernel
theorem dX5_begin_72 : decode cX5_begin 72 = .ok (.getfield 13, 3) := by decide +kernel
theorem dX5_begin_75 : decode cX5_begin 75 = .ok (.iload 4, 2) := by decide +kernel
theorem dX5_begin_77 : decode cX5_begin 77 = .ok (.iconst (-1), 1) := by decide +kernel
theorem dX5_begin_78 : decode cX5_begin 78 = .ok (.iastore, 1) := by decide +kernel
theorem dX5_begin_79 : decode cX5_begin 79 = .ok (.iinc 4 1, 3) := by decide +kernel
theorem dX5_begin_82 : decode cX5_begin 82 = .ok (.goto (-19), 3) := by decide +kernel
theorem dX5_begin_85 : decode cX5_begin 85 = .ok (.iconst 0, 1) := by decide +kernel
theorem dX5_begin_86 : decode cX5_begin 86 = .ok (.istore 4, 2) := by decide +kernel
theorem dX5_begin_88 : decode cX5_begin 88 = .ok (.iload 4, 2) := by decide +kernel
theorem dX5_begin_90 : decode cX5_begin 90 = .ok (.bipush 8, 2) := by decide +kernel
theorem dX5_begin_92 : decode cX5_begin 92 = .ok (.if_icmp .ge 17, 3) := by decide +kernel
theorem dX5_begin_95 : decode cX5_begin 95 = .ok (.aload_n 0, 1) := by decide +kernel
theorem dX5_begin_96 : decode cX5_begin 96 = .ok (.getfield 32, 3) := by decide +kernel
theorem dX5_begin_99 : decode cX5_begin 99 = .ok (.iload 4, 2) := by decide +kernel
theorem dX5_begin_101 : decode cX5_begin 101 = .ok (.iconst 0, 1) := by decide +kernel
theorem dX5_begin_102 : decode cX5_begin 102 = .ok (.bastore, 1) := by decide +kernel
theorem dX5_begin_103 : decode cX5_begin 103 = .ok (.iinc 4 1, 3) := by decide +kernel
theorem dX5_begin_106 : decode cX5_begin 106 = .ok (.goto (-18), 3) := by decide +kernel
theorem dX5_begin_109 : decode cX5_begin 109 = .ok (.iconst 0, 1) := by decide +kernel
theorem dX5_begin_110 : decode cX5_begin 110 = .ok (.istore 4, 2) := by decide +kernel
theorem dX5_begin_112 : decode cX5_begin 112 = .ok (.iload 4, 2) := by decide +kernel
theorem dX5_begin_114 : decode cX5_begin 114 = .ok (.iconst 4, 1) := by decide +kernel
theorem dX5_begin_115 : decode cX5_begin 115 = .ok (.if_icmp .ge 25, 3) := by decide +kernel
theorem dX5_begin_118 : decode cX5_begin 118 = .ok (.aload_n 0, 1) := by decide +kernel
theorem dX5_begin_119 : decode cX5_begin 119 = .ok (.getfield 47, 3) := by decide +kernel
theorem dX5_begin_122 : decode cX5_begin 122 = .ok (.iload 4, 2) := by decide +kernel
theorem dX5_begin_124 : decode cX5_begin 124 = .ok (.lconst 0, 1) := by decide +kernel
theorem dX5_begin_125 : decode cX5_begin 125 = .ok (.lastore, 1) := by decide +kernel
theorem dX5_begin_126 : decode cX5_begin 126 = .ok (.aload_n 0, 1) := by decide +kernel
theorem dX5_begin_127 : decode cX5_begin 127 = .ok (.getfield 51, 3) := by decide +kernel
theorem dX5_begin_130 : decode cX5_begin 130 = .ok (.iload 4, 2) := by decide +kernel
theorem dX5_begin_132 : decode cX5_begin 132 = .ok (.lconst 0, 1) := by decide +kernel
theorem dX5_begin_133 : decode cX5_begin 133 = .ok (.lastore, 1) := by decide +kernel
theorem dX5_begin_134 : decode cX5_begin 134 = .ok (.iinc 4 1, 3) := by decide +kernel
theorem dX5_begin_137 : decode cX5_begin 137 = .ok (.goto (-25), 3) := by decide +kernel
theorem dX5_begin_140 : decode cX5_begin 140 = .ok (.return_, 1) := by decide +kernel
set_option maxRecDepth 20000 in
theorem ggX5_setSizes_X5_failed : GoodIn wsX5_setSizes wsX5_failed := goodIn_r _ [9, 1, 23, 24, 25, 26, 27, 28, 29, 30, 31, 32, 33, 34, 35, 36, 37, 38, 39, 40, 41, 42, 43, 44] (by decide +kernel) (by decide +kernel)
set_option maxRecDepth 20000 in
theorem gX5_setSizes_X5_failed : GoodIn wsX5_setSizes (wsV RX5 84 RX5 yX5_failed wsX5_failed) := goodIn_app (goodIn_of _ (by decide +kernel)) ggX5_setSizes_X5_failed
set_option maxRecDepth 20000 in
theorem ggX5_setSizes_X5_begin : GoodIn wsX5_setSizes wsX5_begin := goodIn_r _ [13, 2, 3, 4, 14, 15, 16, 17, 18, 19, 20, 21, 22, 23, 24, 25, 26, 27, 28, 29, 30, 31, 32, 33, 34, 35, 36, 37, 38, 39, 40, 41, 42, 43, 44] (by decide +kernel) (by decide +kernel)
set_option maxRecDepth 20000 in
theorem gX5_setSizes_X5_begin : GoodIn wsX5_setSizes (wsV RX5 54 RX5 yX5_begin wsX5_begin) := goodIn_app (goodIn_of _ (by decide +kernel)) ggX5_setSizes_X5_begin
theorem dX5_setSizes_0 : decode cX5_setSizes 0 = .ok (.aload_n 0, 1) := by decide +kernel
theorem dX5_setSizes_1 : decode cX5_setSizes 1 = .ok (.iconst 0, 1) := by decide +kernel
theorem dX5_setSizes_2 : decode cX5_setSizes 2 = .ok (.putfield 58, 3) := by decide +kernel
theorem dX5_setSizes_5 : decode cX5_setSizes 5 = .ok (.iload_n 1, 1) := by decide +kernel
theorem dX5_setSizes_6 : decode cX5_setSizes 6 = .ok (.iconst 2, 1) := by decide +kernel
theorem dX5_setSizes_7 : decode cX5_setSizes 7 = .ok (.if_icmp .lt 29, 3) := by decide +kernel
theorem dX5_setSizes_10 : decode cX5_setSizes 10 = .ok (.iload_n 1, 1) := by decide +kernel
theorem dX5_setSizes_11 : decode cX5_setSizes 11 = .ok (.bipush 8, 2) := by decide +kernel
theorem dX5_setSizes_13 : decode cX5_setSizes 13 = .ok (.if_icmp .gt 23, 3) := by decide +kernel
theorem dX5_setSizes_16 : decode cX5_setSizes 16 = .ok (.iload_n 2, 1) := by decide +kernel
theorem dX5_setSizes_17 : decode cX5_setSizes 17 = .ok (.iconst 2, 1) := by decide +kernel
theorem dX5_setSizes_18 : decode cX5_setSizes 18 = .ok (.if_icmp .lt 18, 3) := by decide +kernel
theorem dX5_setSizes_21 : decode cX5_setSizes 21 = .ok (.iload_n 2, 1) := by decide +kernel
theorem dX5_setSizes_22 : decode cX5_setSizes 22 = .ok (.bipush 8, 2) := by decide +kernel
theorem dX5_setSizes_24 : decode cX5_setSizes 24 = .ok (.if_icmp .gt 12, 3) := by decide +kernel
theorem dX5_setSizes_27 : decode cX5_setSizes 27 = .ok (.iload_n 3, 1) := by decide +kernel
theorem dX5_setSizes_28 : decode cX5_setSizes 28 = .ok (.ifCond .lt 8, 3) := by decide +kernel
theorem dX5_setSizes_31 : decode cX5_setSizes 31 = .ok (.iload_n 3, 1) := by decide +kernel
theorem dX5_setSizes_32 : decode cX5_setSizes 32 = .ok (.iload_n 2, 1) := by decide +kernel
theorem dX5_setSizes_33 : decode cX5_setSizes 33 = .ok (.if_icmp .le 9, 3) := by decide +kernel
theorem dX5_setSizes_36 : decode cX5_setSizes 36 = .ok (.aload_n 0, 1) := by decide +kernel
theorem dX5_setSizes_37 : decode cX5_setSizes 37 = .ok (.iconst 1, 1) := by decide +kernel
theorem dX5_setSizes_38 : decode cX5_setSizes 38 = .ok (.invokevirtual 84, 3) := by decide +kernel
theorem dX5_setSizes_41 : decode cX5_setSizes 41 = .ok (.ireturn, 1) := by decide +kernel
theorem dX5_setSizes_42 : decode cX5_setSizes 42 = .ok (.aload_n 0, 1) := by decide +kernel
theorem dX5_setSizes_43 : decode cX5_setSizes 43 = .ok (.getfield 62, 3) := by decide +kernel
theorem dX5_setSizes_46 : decode cX5_setSizes 46 = .ok (.iload_n 1, 1) := by decide +kernel
theorem dX5_setSizes_47 : decode cX5_setSizes 47 = .ok (.if_icmp .ne 19, 3) := by decide +kernel
theorem dX5_setSizes_50 : decode cX5_setSizes 50 = .ok (.aload_n 0, 1) := by decide +kernel
theorem dX5_setSizes_51 : decode cX5_setSizes 51 = .ok (.getfield 65, 3) := by decide +kernel
theorem dX5_setSizes_54 : decode cX5_setSizes 54 = .ok (.iload_n 2, 1) := by decide +kernel
theorem dX5_setSizes_55 : decode cX5_setSizes 55 = .ok (.if_icmp .ne 11, 3) := by decide +kernel
theorem dX5_setSizes_58 : decode cX5_setSizes 58 = .ok (.aload_n 0, 1) := by decide +kernel
theorem dX5_setSizes_59 : decode cX5_setSizes 59 = .ok (.getfield 68, 3) := by decide +kernel
theorem dX5_setSizes_62 : decode cX5_setSizes 62 = .ok (.iload_n 3, 1) := by decide +kernel
theorem dX5_setSizes_63 : decode cX5_setSizes 63 = .ok (.if_icmp .eq 7, 3) := by decide +kernel
theorem dX5_setSizes_66 : decode cX5_setSizes 66 = .ok (.iconst 1, 1) := by decide +kernel
theorem dX5_setSizes_67 : decode cX5_setSizes 67 = .ok (.goto 4, 3) := by decide +kernel
theorem dX5_setSizes_70 : decode cX5_setSizes 70 = .ok (.iconst 0, 1) := by decide +kernel
theorem dX5_setSizes_71 : decode cX5_setSizes 71 = .ok (.istore 4, 2) := by decide +kernel
theorem dX5_setSizes_73 : decode cX5_setSizes 73 = .ok (.aload_n 0, 1) := by decide +kernel
theorem dX5_setSizes_74 : decode cX5_setSizes 74 = .ok (.iload_n 1, 1) := by decide +kernel
theorem dX5_setSizes_75 : decode cX5_setSizes 75 = .ok (.iload_n 2, 1) := by decide +kernel
theorem dX5_setSizes_76 : decode cX5_setSizes 76 = .ok (.iload_n 3, 1) := by decide +kernel
theorem dX5_setSizes_77 : decode cX5_setSizes 77 = .ok (.invokevirtual 54, 3) := by decide +kernel
theorem dX5_setSizes_80 : decode cX5_setSizes 80 = .ok (.iload 4, 2) := by decide +kernel
theorem dX5_setSizes_82 : decode cX5_setSizes 82 = .ok (.ireturn, 1) := by decide +kernel
theorem dX5_plainIndex_0 : decode cX5_plainIndex 0 = .ok (.iload_n 1, 1) := by decide +kernel
theorem dX5_plainIndex_1 : decode cX5_plainIndex 1 = .ok (.iconst 1, 1) := by decide +kernel
theorem dX5_plainIndex_2 : decode cX5_plainIndex 2 = .ok (.aload_n 0, 1) := by decide +kernel
theorem dX5_plainIndex_3 : decode cX5_plainIndex 3 = .ok (.getfield 62, 3) := by decide +kernel
theorem dX5_plainIndex_6 : decode cX5_plainIndex 6 = .ok (.ishl, 1) := by decide +kernel
theorem dX5_plainIndex_7 : decode cX5_plainIndex 7 = .ok (.irem, 1) := by decide +kernel
theorem dX5_plainIndex_8 : decode cX5_plainIndex 8 = .ok (.ireturn, 1) := by decide +kernel
theorem dX5_globalIndex_0 : decode cX5_globalIndex 0 = .ok (.sipush 256, 3) := by decide +kernel
theorem dX5_globalIndex_3 : decode cX5_globalIndex 3 = .ok (.iload_n 1, 1) := by decide +kernel
theorem dX5_globalIndex_4 : decode cX5_globalIndex 4 = .ok (.iload_n 2, 1) := by decide +kernel
theorem dX5_globalIndex_5 : decode cX5_globalIndex 5 = .ok (.ixor, 1) := by decide +kernel
theorem dX5_globalIndex_6 : decode cX5_globalIndex 6 = .ok (.iconst 1, 1) := by decide +kernel
theorem dX5_globalIndex_7 : decode cX5_globalIndex 7 = .ok (.aload_n 0, 1) := by decide +kernel
theorem dX5_globalIndex_8 : decode cX5_globalIndex 8 = .ok (.getfield 65, 3) := by decide +kernel
theorem dX5_globalIndex_11 : decode cX5_globalIndex 11 = .ok (.ishl, 1) := by decide +kernel
theorem dX5_globalIndex_12 : decode cX5_globalIndex 12 = .ok (.irem, 1) := by decide +kernel
theorem dX5_globalIndex_13 : decode cX5_globalIndex 13 = .ok (.iadd, 1) := by decide +kernel
theorem dX5_globalIndex_14 : decode cX5_globalIndex 14 = .ok (.ireturn, 1) := by decide +kernel
theorem dX5_choiceIndex_0 : decode cX5_choiceIndex 0 = .ok (.sipush 512, 3) := by decide +kernel
theorem dX5_choiceIndex_3 : decode cX5_choiceIndex 3 = .ok (.iload_n 1, 1) := by decide +kernel
theorem dX5_choiceIndex_4 : decode cX5_choiceIndex 4 = .ok (.iconst 1, 1) := by decide +kernel
theorem dX5_choiceIndex_5 : decode cX5_choiceIndex 5 = .ok (.aload_n 0, 1) := by decide +kernel
theorem dX5_choiceIndex_6 : decode cX5_choiceIndex 6 = .ok (.getfield 62, 3) := by decide +kernel
theorem dX5_choiceIndex_9 : decode cX5_choiceIndex 9 = .ok (.ishl, 1) := by decide +kernel
theorem dX5_choiceIndex_10 : decode cX5_choiceIndex 10 = .ok (.irem, 1) := by decide +kernel
theorem dX5_choiceIndex_11 : decode cX5_choiceIndex 11 = .ok (.iadd, 1) := by decide +kernel
theorem dX5_choiceIndex_12 : decode cX5_choiceIndex 12 = .ok (.ireturn, 1) := by decide +kernel
theorem dX5_says_0 : decode cX5_says 0 = .ok (.aload_n 0, 1) := by decide +kernel
theorem dX5_says_1 : decode cX5_says 1 = .ok (.getfield 9, 3) := by decide +kernel
theorem dX5_says_4 : decode cX5_says 4 = .ok (.iload_n 1, 1) := by decide +kernel
theorem dX5_says_5 : decode cX5_says 5 = .ok (.iaload, 1) := by decide +kernel
theorem dX5_says_6 : decode cX5_says 6 = .ok (.iconst 2, 1) := by decide +kernel
theorem dX5_says_7 : decode cX5_says 7 = .ok (.if_icmp .lt 7, 3) := by decide +kernel
theorem dX5_says_10 : decode cX5_says 10 = .ok (.iconst 1, 1) := by decide +kernel
theorem dX5_says_11 : decode cX5_says 11 = .ok (.goto 4, 3) := by decide +kernel
theorem dX5_says_14 : decode cX5_says 14 = .ok (.iconst 0, 1) := by decide +kernel
theorem dX5_says_15 : decode cX5_says 15 = .ok (.ireturn, 1) := by decide +kernel
theorem dX5_appended_0 : decode cX5_appended 0 = .ok (.iconst 2, 1) := by decide +kernel
theorem dX5_appended_1 : decode cX5_appended 1 = .ok (.iload_n 1, 1) := by decide +kernel
theorem dX5_appended_2 : decode cX5_appended 2 = .ok (.imul, 1) := by decide +kernel
theorem dX5_appended_3 : decode cX5_appended 3 = .ok (.iload_n 2, 1) := by decide +kernel
theorem dX5_appended_4 : decode cX5_appended 4 = .ok (.ifCond .eq 7, 3) := by decide +kernel
theorem dX5_appended_7 : decode cX5_appended 7 = .ok (.iconst 1, 1) := by decide +kernel
theorem dX5_appended_8 : decode cX5_appended 8 = .ok (.goto 4, 3) := by decide +kernel
theorem dX5_appended_11 : decode cX5_appended 11 = .ok (.iconst 0, 1) := by decide +kernel
theorem dX5_appended_12 : decode cX5_appended 12 = .ok (.iadd, 1) := by decide +kernel
theorem dX5_appended_13 : decode cX5_appended 13 = .ok (.iconst 1, 1) := by decide +kernel
theorem dX5_appended_14 : decode cX5_appended 14 = .ok (.aload_n 0, 1) := by decide +kernel
theorem dX5_appended_15 : decode cX5_appended 15 = .ok (.getfield 68, 3) := by decide +kernel
theorem dX5_appended_18 : decode cX5_appended 18 = .ok (.ishl, 1) := by decide +kernel
theorem dX5_appended_19 : decode cX5_appended 19 = .ok (.irem, 1) := by decide +kernel
theorem dX5_appended_20 : decode cX5_appended 20 = .ok (.ireturn, 1) := by decide +kernel
theorem dX5_loopOf_0 : decode cX5_loopOf 0 = .ok (.iconst 0, 1) := by decide +kernel
theorem dX5_loopOf_1 : decode cX5_loopOf 1 = .ok (.istore_n 2, 1) := by decide +kernel
theorem dX5_loopOf_2 : decode cX5_loopOf 2 = .ok (.iload_n 2, 1) := by decide +kernel
theorem dX5_loopOf_3 : decode cX5_loopOf 3 = .ok (.bipush 8, 2) := by decide +kernel
theorem dX5_loopOf_5 : decode cX5_loopOf 5 = .ok (.if_icmp .ge 30, 3) := by decide +kernel
theorem dX5_loopOf_8 : decode cX5_loopOf 8 = .ok (.aload_n 0, 1) := by decide +kernel
theorem dX5_loopOf_9 : decode cX5_loopOf 9 = .ok (.getfield 32, 3) := by decide +kernel
theorem dX5_loopOf_12 : decode cX5_loopOf 12 = .ok (.iload_n 2, 1) := by decide +kernel
theorem dX5_loopOf_13 : decode cX5_loopOf 13 = .ok (.baload, 1) := by decide +kernel
theorem dX5_loopOf_14 : decode cX5_loopOf 14 = .ok (.ifCond .eq 15, 3) := by decide +kernel
theorem dX5_loopOf_17 : decode cX5_loopOf 17 = .ok (.aload_n 0, 1) := by decide +kernel
theorem dX5_loopOf_18 : decode cX5_loopOf 18 = .ok (.getfield 35, 3) := by decide +kernel
theorem dX5_loopOf_21 : decode cX5_loopOf 21 = .ok (.iload_n 2, 1) := by decide +kernel
theorem dX5_loopOf_22 : decode cX5_loopOf 22 = .ok (.iaload, 1) := by decide +kernel
theorem dX5_loopOf_23 : decode cX5_loopOf 23 = .ok (.iload_n 1, 1) := by decide +kernel
theorem dX5_loopOf_24 : decode cX5_loopOf 24 = .ok (.if_icmp .ne 5, 3) := by decide +kernel
theorem dX5_loopOf_27 : decode cX5_loopOf 27 = .ok (.iload_n 2, 1) := by decide +kernel
theorem dX5_loopOf_28 : decode cX5_loopOf 28 = .ok (.ireturn, 1) := by decide +kernel
theorem dX5_loopOf_29 : decode cX5_loopOf 29 = .ok (.iinc 2 1, 3) := by decide +kernel
theorem dX5_loopOf_32 : decode cX5_loopOf 32 = .ok (.goto (-30), 3) := by decide +kernel
theorem dX5_loopOf_35 : decode cX5_loopOf 35 = .ok (.iconst (-1), 1) := by decide +kernel
theorem dX5_loopOf_36 : decode cX5_loopOf 36 = .ok (.ireturn, 1) := by decide +kernel
theorem dX5_isTaken_0 : decode cX5_isTaken 0 = .ok (.aload_n 0, 1) := by decide +kernel
theorem dX5_isTaken_1 : decode cX5_isTaken 1 = .ok (.getfield 26, 3) := by decide +kernel
theorem dX5_isTaken_4 : decode cX5_isTaken 4 = .ok (.iload_n 1, 1) := by decide +kernel
theorem dX5_isTaken_5 : decode cX5_isTaken 5 = .ok (.baload, 1) := by decide +kernel
theorem dX5_isTaken_6 : decode cX5_isTaken 6 = .ok (.ifCond .eq 12, 3) := by decide +kernel
theorem dX5_isTaken_9 : decode cX5_isTaken 9 = .ok (.aload_n 0, 1) := by decide +kernel
theorem dX5_isTaken_10 : decode cX5_isTaken 10 = .ok (.getfield 29, 3) := by decide +kernel
theorem dX5_isTaken_13 : decode cX5_isTaken 13 = .ok (.iload_n 1, 1) := by decide +kernel
theorem dX5_isTaken_14 : decode cX5_isTaken 14 = .ok (.baload, 1) := by decide +kernel
theorem dX5_isTaken_15 : decode cX5_isTaken 15 = .ok (.goto 13, 3) := by decide +kernel
theorem dX5_isTaken_18 : decode cX5_isTaken 18 = .ok (.aload_n 0, 1) := by decide +kernel
theorem dX5_isTaken_19 : decode cX5_isTaken 19 = .ok (.getfield 22, 3) := by decide +kernel
theorem dX5_isTaken_22 : decode cX5_isTaken 22 = .ok (.iconst 4, 1) := by decide +kernel
theorem dX5_isTaken_23 : decode cX5_isTaken 23 = .ok (.iload_n 1, 1) := by decide +kernel
theorem dX5_isTaken_24 : decode cX5_isTaken 24 = .ok (.imul, 1) := by decide +kernel
theorem dX5_isTaken_25 : decode cX5_isTaken 25 = .ok (.iconst 3, 1) := by decide +kernel
theorem dX5_isTaken_26 : decode cX5_isTaken 26 = .ok (.iadd, 1) := by decide +kernel
theorem dX5_isTaken_27 : decode cX5_isTaken 27 = .ok (.baload, 1) := by decide +kernel
theorem dX5_isTaken_28 : decode cX5_isTaken 28 = .ok (.ireturn, 1) := by decide +kernel
set_option maxRecDepth 20000 in
theorem ggX5_presumed_X5_isTaken : GoodIn wsX5_presumed wsX5_isTaken := goodIn_r _ [9, 10, 11, 12, 13, 14, 15, 16, 17, 18, 19, 20, 21, 22, 23, 24, 25, 26, 27, 28, 29, 30, 31, 32, 33, 34] (by decide +kernel) (by decide +kernel)
set_option maxRecDepth 20000 in
theorem gX5_presumed_X5_isTaken : GoodIn wsX5_presumed (wsV RX5 88 RX5 yX5_isTaken wsX5_isTaken) := goodIn_app (goodIn_of _ (by decide +kernel)) ggX5_presumed_X5_isTaken
theorem dX5_presumed_0 : decode cX5_presumed 0 = .ok (.aload_n 0, 1) := by decide +kernel
theorem dX5_presumed_1 : decode cX5_presumed 1 = .ok (.getfield 38, 3) := by decide +kernel
theorem dX5_presumed_4 : decode cX5_presumed 4 = .ok (.iload_n 1, 1) := by decide +kernel
theorem dX5_presumed_5 : decode cX5_presumed 5 = .ok (.iaload, 1) := by decide +kernel
theorem dX5_presumed_6 : decode cX5_presumed 6 = .ok (.istore_n 2, 1) := by decide +kernel
theorem dX5_presumed_7 : decode cX5_presumed 7 = .ok (.iconst 0, 1) := by decide +kernel
theorem dX5_presumed_8 : decode cX5_presumed 8 = .ok (.istore_n 3, 1) := by decide +kernel
theorem dX5_presumed_9 : decode cX5_presumed 9 = .ok (.iload_n 3, 1) := by decide +kernel
theorem dX5_presumed_10 : decode cX5_presumed 10 = .ok (.aload_n 0, 1) := by decide +kernel
theorem dX5_presumed_11 : decode cX5_presumed 11 = .ok (.getfield 74, 3) := by decide +kernel
theorem dX5_presumed_14 : decode cX5_presumed 14 = .ok (.if_icmp .ge 40, 3) := by decide +kernel
theorem dX5_presumed_17 : decode cX5_presumed 17 = .ok (.aload_n 0, 1) := by decide +kernel
theorem dX5_presumed_18 : decode cX5_presumed 18 = .ok (.getfield 16, 3) := by decide +kernel
theorem dX5_presumed_21 : decode cX5_presumed 21 = .ok (.iload_n 3, 1) := by decide +kernel
theorem dX5_presumed_22 : decode cX5_presumed 22 = .ok (.iaload, 1) := by decide +kernel
theorem dX5_presumed_23 : decode cX5_presumed 23 = .ok (.aload_n 0, 1) := by decide +kernel
theorem dX5_presumed_24 : decode cX5_presumed 24 = .ok (.getfield 35, 3) := by decide +kernel
theorem dX5_presumed_27 : decode cX5_presumed 27 = .ok (.iload_n 1, 1) := by decide +kernel
theorem dX5_presumed_28 : decode cX5_presumed 28 = .ok (.iaload, 1) := by decide +kernel
theorem dX5_presumed_29 : decode cX5_presumed 29 = .ok (.if_icmp .ne 19, 3) := by decide +kernel
theorem dX5_presumed_32 : decode cX5_presumed 32 = .ok (.aload_n 0, 1) := by decide +kernel
theorem dX5_presumed_33 : decode cX5_presumed 33 = .ok (.iload_n 3, 1) := by decide +kernel
theorem dX5_presumed_34 : decode cX5_presumed 34 = .ok (.invokevirtual 88, 3) := by decide +kernel
theorem dX5_presumed_37 : decode cX5_presumed 37 = .ok (.ifCond .eq 9, 3) := by decide +kernel
theorem dX5_presumed_40 : decode cX5_presumed 40 = .ok (.iload_n 2, 1) := by decide +kernel
theorem dX5_presumed_41 : decode cX5_presumed 41 = .ok (.iconst 1, 1) := by decide +kernel
theorem dX5_presumed_42 : decode cX5_presumed 42 = .ok (.iadd, 1) := by decide +kernel
theorem dX5_presumed_43 : decode cX5_presumed 43 = .ok (.goto 4, 3) := by decide +kernel
theorem dX5_presumed_46 : decode cX5_presumed 46 = .ok (.iconst 0, 1) := by decide +kernel
theorem dX5_presumed_47 : decode cX5_presumed 47 = .ok (.istore_n 2, 1) := by decide +kernel
theorem dX5_presumed_48 : decode cX5_presumed 48 = .ok (.iinc 3 1, 3) := by decide +kernel
theorem dX5_presumed_51 : decode cX5_presumed 51 = .ok (.goto (-42), 3) := by decide +kernel
theorem dX5_presumed_54 : decode cX5_presumed 54 = .ok (.iload_n 2, 1) := by decide +kernel
theorem dX5_presumed_55 : decode cX5_presumed 55 = .ok (.ireturn, 1) := by decide +kernel
set_option maxRecDepth 20000 in
theorem ggX5_add_X5_plainIndex : GoodIn wsX5_add wsX5_plainIndex := goodIn_r _ [13, 14, 50, 51, 52, 53, 54, 55, 56, 57, 58, 59, 60, 61, 62, 63, 64, 65, 66, 67, 68, 69, 70, 71] (by decide +kernel) (by decide +kernel)
set_option maxRecDepth 20000 in
theorem gX5_add_X5_plainIndex : GoodIn wsX5_add (wsV RX5 91 RX5 yX5_plainIndex wsX5_plainIndex) := goodIn_app (goodIn_of _ (by decide +kernel)) ggX5_add_X5_plainIndex
set_option maxRecDepth 20000 in
theorem ggX5_add_X5_says : GoodIn wsX5_add wsX5_says := goodIn_r _ [18, 19, 50, 51, 52, 53, 54, 55, 56, 57, 58, 59, 60, 61, 62, 63, 64, 65, 66, 67, 68, 69, 70, 71] (by decide +kernel) (by decide +kernel)
set_option maxRecDepth 20000 in
theorem gX5_add_X5_says : GoodIn wsX5_add (wsV RX5 95 RX5 yX5_says wsX5_says) := goodIn_app (goodIn_of _ (by decide +kernel)) ggX5_add_X5_says
set_option maxRecDepth 20000 in
theorem ggX5_add_X5_globalIndex : GoodIn wsX5_add wsX5_globalIndex := goodIn_r _ [23, 24, 50, 51, 52, 53, 54, 55, 56, 57, 58, 59, 60, 61, 62, 63, 64, 65, 66, 67, 68, 69, 70, 71] (by decide +kernel) (by decide +kernel)
set_option maxRecDepth 20000 in
theorem gX5_add_X5_globalIndex : GoodIn wsX5_add (wsV RX5 98 RX5 yX5_globalIndex wsX5_globalIndex) := goodIn_app (goodIn_of _ (by decide +kernel)) ggX5_add_X5_globalIndex
set_option maxRecDepth 20000 in
theorem ggX5_add_X5_choiceIndex : GoodIn wsX5_add wsX5_choiceIndex := goodIn_r _ [28, 14, 50, 51, 52, 53, 54, 55, 56, 57, 58, 59, 60, 61, 62, 63, 64, 65, 66, 67, 68, 69, 70, 71] (by decide +kernel) (by decide +kernel)
set_option maxRecDepth 20000 in
theorem gX5_add_X5_choiceIndex : GoodIn wsX5_add (wsV RX5 102 RX5 yX5_choiceIndex wsX5_choiceIndex) := goodIn_app (goodIn_of _ (by decide +kernel)) ggX5_add_X5_choiceIndex
set_option maxRecDepth 20000 in
theorem ggX5_add_X5_loopOf : GoodIn wsX5_add wsX5_loopOf := goodIn_r _ [32, 33, 34, 50, 51, 52, 53, 54, 55, 56, 57, 58, 59, 60, 61, 62, 63, 64, 65, 66, 67, 68, 69, 70, 71] (by decide +kernel) (by decide +kernel)
set_option maxRecDepth 20000 in
theorem gX5_add_X5_loopOf : GoodIn wsX5_add (wsV RX5 105 RX5 yX5_loopOf wsX5_loopOf) := goodIn_app (goodIn_of _ (by decide +kernel)) ggX5_add_X5_loopOf
set_option maxRecDepth 20000 in
theorem ggX5_add_X5_presumed : GoodIn wsX5_add wsX5_presumed := goodIn_r _ [38, 39, 1, 6, 34, 40, 41, 42, 12, 43, 8, 44, 2, 50, 51, 52, 53, 54, 55, 56, 57, 58, 59, 60, 61, 62, 63, 64, 65, 66, 67, 68, 69, 70, 71] (by decide +kernel) (by decide +kernel)
set_option maxRecDepth 20000 in
theorem gX5_add_X5_presumed : GoodIn wsX5_add (wsV RX5 108 RX5 yX5_presumed wsX5_presumed) := goodIn_app (goodIn_of _ (by decide +kernel)) ggX5_add_X5_presumed
set_option maxRecDepth 20000 in
theorem ggX5_add_X5_appended : GoodIn wsX5_add wsX5_appended := goodIn_r _ [48, 49, 50, 51, 52, 53, 54, 55, 56, 57, 58, 59, 60, 61, 62, 63, 64, 65, 66, 67, 68, 69, 70, 71] (by decide +kernel) (by decide +kernel)
set_option maxRecDepth 20000 in
theorem gX5_add_X5_appended : GoodIn wsX5_add (wsV RX5 111 RX5 yX5_appended wsX5_appended) := goodIn_app (goodIn_of _ (by decide +kernel)) ggX5_add_X5_appended
theorem dX5_add_0 : decode cX5_add 0 = .ok (.iconst 4, 1) := by decide +kernel
theorem dX5_add_1 : decode cX5_add 1 = .ok (.aload_n 0, 1) := by decide +kernel
theorem dX5_add_2 : decode cX5_add 2 = .ok (.getfield 74, 3) := by decide +kernel
theorem dX5_add_5 : decode cX5_add 5 = .ok (.imul, 1) := by decide +kernel
theorem dX5_add_6 : decode cX5_add 6 = .ok (.istore_n 2, 1) := by decide +kernel
theorem dX5_add_7 : decode cX5_add 7 = .ok (.aload_n 0, 1) := by decide +kernel
theorem dX5_add_8 : decode cX5_add 8 = .ok (.getfield 22, 3) := by decide +kernel
theorem dX5_add_11 : decode cX5_add 11 = .ok (.iload_n 2, 1) := by decide +kernel
theorem dX5_add_12 : decode cX5_add 12 = .ok (.iconst 0, 1) := by decide +kernel
theorem dX5_add_13 : decode cX5_add 13 = .ok (.iadd, 1) := by decide +kernel
theorem dX5_add_14 : decode cX5_add 14 = .ok (.aload_n 0, 1) := by decide +kernel
theorem dX5_add_15 : decode cX5_add 15 = .ok (.aload_n 0, 1) := by decide +kernel
theorem dX5_add_16 : decode cX5_add 16 = .ok (.iload_n 1, 1) := by decide +kernel
theorem dX5_add_17 : decode cX5_add 17 = .ok (.invokevirtual 91, 3) := by decide +kernel
theorem dX5_add_20 : decode cX5_add 20 = .ok (.invokevirtual 95, 3) := by decide +kernel
theorem dX5_add_23 : decode cX5_add 23 = .ok (.bastore, 1) := by decide +kernel
theorem dX5_add_24 : decode cX5_add 24 = .ok (.aload_n 0, 1) := by decide +kernel
theorem dX5_add_25 : decode cX5_add 25 = .ok (.getfield 22, 3) := by decide +kernel
theorem dX5_add_28 : decode cX5_add 28 = .ok (.iload_n 2, 1) := by decide +kernel
theorem dX5_add_29 : decode cX5_add 29 = .ok (.iconst 1, 1) := by decide +kernel
theorem dX5_add_30 : decode cX5_add 30 = .ok (.iadd, 1) := by decide +kernel
theorem dX5_add_31 : decode cX5_add 31 = .ok (.aload_n 0, 1) := by decide +kernel
theorem dX5_add_32 : decode cX5_add 32 = .ok (.aload_n 0, 1) := by decide +kernel
theorem dX5_add_33 : decode cX5_add 33 = .ok (.iload_n 1, 1) := by decide +kernel
theorem dX5_add_34 : decode cX5_add 34 = .ok (.aload_n 0, 1) := by decide +kernel
theorem dX5_add_35 : decode cX5_add 35 = .ok (.getfield 71, 3) := by decide +kernel
theorem dX5_add_38 : decode cX5_add 38 = .ok (.invokevirtual 98, 3) := by decide +kernel
theorem dX5_add_41 : decode cX5_add 41 = .ok (.invokevirtual 95, 3) := by decide +kernel
theorem dX5_add_44 : decode cX5_add 44 = .ok (.bastore, 1) := by decide +kernel
theorem dX5_add_45 : decode cX5_add 45 = .ok (.aload_n 0, 1) := by decide +kernel
theorem dX5_add_46 : decode cX5_add 46 = .ok (.getfield 22, 3) := by decide +kernel
theorem dX5_add_49 : decode cX5_add 49 = .ok (.iload_n 2, 1) := by decide +kernel
theorem dX5_add_50 : decode cX5_add 50 = .ok (.iconst 2, 1) := by decide +kernel
theorem dX5_add_51 : decode cX5_add 51 = .ok (.iadd, 1) := by decide +kernel
theorem dX5_add_52 : decode cX5_add 52 = .ok (.aload_n 0, 1) := by decide +kernel
theorem dX5_add_53 : decode cX5_add 53 = .ok (.getfield 22, 3) := by decide +kernel
theorem dX5_add_56 : decode cX5_add 56 = .ok (.iload_n 2, 1) := by decide +kernel
theorem dX5_add_57 : decode cX5_add 57 = .ok (.aload_n 0, 1) := by decide +kernel
theorem dX5_add_58 : decode cX5_add 58 = .ok (.aload_n 0, 1) := by decide +kernel
theorem dX5_add_59 : decode cX5_add 59 = .ok (.iload_n 1, 1) := by decide +kernel
theorem dX5_add_60 : decode cX5_add 60 = .ok (.invokevirtual 102, 3) := by decide +kernel
theorem dX5_add_63 : decode cX5_add 63 = .ok (.invokevirtual 95, 3) := by decide +kernel
theorem dX5_add_66 : decode cX5_add 66 = .ok (.ifCond .eq 7, 3) := by decide +kernel
theorem dX5_add_69 : decode cX5_add 69 = .ok (.iconst 1, 1) := by decide +kernel
theorem dX5_add_70 : decode cX5_add 70 = .ok (.goto 4, 3) := by decide +kernel
theorem dX5_add_73 : decode cX5_add 73 = .ok (.iconst 0, 1) := by decide +kernel
theorem dX5_add_74 : decode cX5_add 74 = .ok (.iadd, 1) := by decide +kernel
theorem dX5_add_75 : decode cX5_add 75 = .ok (.baload, 1) := by decide +kernel
theorem dX5_add_76 : decode cX5_add 76 = .ok (.bastore, 1) := by decide +kernel
theorem dX5_add_77 : decode cX5_add 77 = .ok (.aload_n 0, 1) := by decide +kernel
theorem dX5_add_78 : decode cX5_add 78 = .ok (.iload_n 1, 1) := by decide +kernel
theorem dX5_add_79 : decode cX5_add 79 = .ok (.invokevirtual 105, 3) := by decide +kernel
theorem dX5_add_82 : decode cX5_add 82 = .ok (.istore_n 3, 1) := by decide +kernel
theorem dX5_add_83 : decode cX5_add 83 = .ok (.iload_n 3, 1) := by decide +kernel
theorem dX5_add_84 : decode cX5_add 84 = .ok (.iconst (-1), 1) := by decide +kernel
theorem dX5_add_85 : decode cX5_add 85 = .ok (.if_icmp .eq 17, 3) := by decide +kernel
theorem dX5_add_88 : decode cX5_add 88 = .ok (.aload_n 0, 1) := by decide +kernel
theorem dX5_add_89 : decode cX5_add 89 = .ok (.getfield 44, 3) := by decide +kernel
theorem dX5_add_92 : decode cX5_add 92 = .ok (.iload_n 3, 1) := by decide +kernel
theorem dX5_add_93 : decode cX5_add 93 = .ok (.iaload, 1) := by decide +kernel
theorem dX5_add_94 : decode cX5_add 94 = .ok (.iconst 3, 1) := by decide +kernel
theorem dX5_add_95 : decode cX5_add 95 = .ok (.if_icmp .ne 7, 3) := by decide +kernel
theorem dX5_add_98 : decode cX5_add 98 = .ok (.iconst 1, 1) := by decide +kernel
theorem dX5_add_99 : decode cX5_add 99 = .ok (.goto 4, 3) := by decide +kernel
theorem dX5_add_102 : decode cX5_add 102 = .ok (.iconst 0, 1) := by decide +kernel
theorem dX5_add_103 : decode cX5_add 103 = .ok (.istore 4, 2) := by decide +kernel
theorem dX5_add_105 : decode cX5_add 105 = .ok (.aload_n 0, 1) := by decide +kernel
theorem dX5_add_106 : decode cX5_add 106 = .ok (.getfield 22, 3) := by decide +kernel
theorem dX5_add_109 : decode cX5_add 109 = .ok (.iload_n 2, 1) := by decide +kernel
theorem dX5_add_110 : decode cX5_add 110 = .ok (.iconst 3, 1) := by decide +kernel
theorem dX5_add_111 : decode cX5_add 111 = .ok (.iadd, 1) := by decide +kernel
theorem dX5_add_112 : decode cX5_add 112 = .ok (.iload 4, 2) := by decide +kernel
theorem dX5_add_114 : decode cX5_add 114 = .ok (.ifCond .eq 25, 3) := by decide +kernel
theorem dX5_add_117 : decode cX5_add 117 = .ok (.aload_n 0, 1) := by decide +kernel
theorem dX5_add_118 : decode cX5_add 118 = .ok (.iload_n 3, 1) := by decide +kernel
theorem dX5_add_119 : decode cX5_add 119 = .ok (.invokevirtual 108, 3) := by decide +kernel
theorem dX5_add_122 : decode cX5_add 122 = .ok (.aload_n 0, 1) := by decide +kernel
theorem dX5_add_123 : decode cX5_add 123 = .ok (.getfield 41, 3) := by decide +kernel
theorem dX5_add_126 : decode cX5_add 126 = .ok (.iload_n 3, 1) := by decide +kernel
theorem dX5_add_127 : decode cX5_add 127 = .ok (.iaload, 1) := by decide +kernel
theorem dX5_add_128 : decode cX5_add 128 = .ok (.if_icmp .ge 7, 3) := by decide +kernel
theorem dX5_add_131 : decode cX5_add 131 = .ok (.iconst 1, 1) := by decide +kernel
theorem dX5_add_132 : decode cX5_add 132 = .ok (.goto 15, 3) := by decide +kernel
theorem dX5_add_135 : decode cX5_add 135 = .ok (.iconst 0, 1) := by decide +kernel
theorem dX5_add_136 : decode cX5_add 136 = .ok (.goto 11, 3) := by decide +kernel
theorem dX5_add_139 : decode cX5_add 139 = .ok (.aload_n 0, 1) := by decide +kernel
theorem dX5_add_140 : decode cX5_add 140 = .ok (.getfield 22, 3) := by decide +kernel
theorem dX5_add_143 : decode cX5_add 143 = .ok (.iload_n 2, 1) := by decide +kernel
theorem dX5_add_144 : decode cX5_add 144 = .ok (.iconst 2, 1) := by decide +kernel
theorem dX5_add_145 : decode cX5_add 145 = .ok (.iadd, 1) := by decide +kernel
theorem dX5_add_146 : decode cX5_add 146 = .ok (.baload, 1) := by decide +kernel
theorem dX5_add_147 : decode cX5_add 147 = .ok (.bastore, 1) := by decide +kernel
theorem dX5_add_148 : decode cX5_add 148 = .ok (.aload_n 0, 1) := by decide +kernel
theorem dX5_add_149 : decode cX5_add 149 = .ok (.getfield 16, 3) := by decide +kernel
theorem dX5_add_152 : decode cX5_add 152 = .ok (.aload_n 0, 1) := by decide +kernel
theorem dX5_add_153 : decode cX5_add 153 = .ok (.getfield 74, 3) := by decide +kernel
theorem dX5_add_156 : decode cX5_add 156 = .ok (.iload_n 1, 1) := by decide +kernel
theorem dX5_add_157 : decode cX5_add 157 = .ok (.iastore, 1) := by decide +kernel
theorem dX5_add_158 : decode cX5_add 158 = .ok (.aload_n 0, 1) := by decide +kernel
theorem dX5_add_159 : decode cX5_add 159 = .ok (.getfield 19, 3) := by decide +kernel
theorem dX5_add_162 : decode cX5_add 162 = .ok (.aload_n 0, 1) := by decide +kernel
theorem dX5_add_163 : decode cX5_add 163 = .ok (.getfield 74, 3) := by decide +kernel
theorem dX5_add_166 : decode cX5_add 166 = .ok (.aload_n 0, 1) := by decide +kernel
theorem dX5_add_167 : decode cX5_add 167 = .ok (.getfield 71, 3) := by decide +kernel
theorem dX5_add_170 : decode cX5_add 170 = .ok (.iastore, 1) := by decide +kernel
theorem dX5_add_171 : decode cX5_add 171 = .ok (.aload_n 0, 1) := by decide +kernel
theorem dX5_add_172 : decode cX5_add 172 = .ok (.getfield 26, 3) := by decide +kernel
theorem dX5_add_175 : decode cX5_add 175 = .ok (.aload_n 0, 1) := by decide +kernel
theorem dX5_add_176 : decode cX5_add 176 = .ok (.getfield 74, 3) := by decide +kernel
theorem dX5_add_179 : decode cX5_add 179 = .ok (.iconst 0, 1) := by decide +kernel
theorem dX5_add_180 : decode cX5_add 180 = .ok (.bastore, 1) := by decide +kernel
theorem dX5_add_181 : decode cX5_add 181 = .ok (.aload_n 0, 1) := by decide +kernel
theorem dX5_add_182 : decode cX5_add 182 = .ok (.aload_n 0, 1) := by decide +kernel
theorem dX5_add_183 : decode cX5_add 183 = .ok (.aload_n 0, 1) := by decide +kernel
theorem dX5_add_184 : decode cX5_add 184 = .ok (.getfield 71, 3) := by decide +kernel
theorem dX5_add_187 : decode cX5_add 187 = .ok (.aload_n 0, 1) := by decide +kernel
theorem dX5_add_188 : decode cX5_add 188 = .ok (.getfield 22, 3) := by decide +kernel
theorem dX5_add_191 : decode cX5_add 191 = .ok (.iload_n 2, 1) := by decide +kernel
theorem dX5_add_192 : decode cX5_add 192 = .ok (.iconst 3, 1) := by decide +kernel
theorem dX5_add_193 : decode cX5_add 193 = .ok (.iadd, 1) := by decide +kernel
theorem dX5_add_194 : decode cX5_add 194 = .ok (.baload, 1) := by decide +kernel
theorem dX5_add_195 : decode cX5_add 195 = .ok (.invokevirtual 111, 3) := by decide +kernel
theorem dX5_add_198 : decode cX5_add 198 = .ok (.putfield 71, 3) := by decide +kernel
theorem dX5_add_201 : decode cX5_add 201 = .ok (.aload_n 0, 1) := by decide +kernel
theorem dX5_add_202 : decode cX5_add 202 = .ok (.dup, 1) := by decide +kernel
theorem dX5_add_203 : decode cX5_add 203 = .ok (.getfield 74, 3) := by decide +kernel
theorem dX5_add_206 : decode cX5_add 206 = .ok (.iconst 1, 1) := by decide +kernel
theorem dX5_add_207 : decode cX5_add 207 = .ok (.iadd, 1) := by decide +kernel
theorem dX5_add_208 : decode cX5_add 208 = .ok (.putfield 74, 3) := by decide +kernel
theorem dX5_add_211 : decode cX5_add 211 = .ok (.aload_n 0, 1) := by decide +kernel
theorem dX5_add_212 : decode cX5_add 212 = .ok (.getfield 22, 3) := by decide +kernel
theorem dX5_add_215 : decode cX5_add 215 = .ok (.iload_n 2, 1) := by decide +kernel
theorem dX5_add_216 : decode cX5_add 216 = .ok (.iconst 3, 1) := by decide +kernel
theorem dX5_add_217 : decode cX5_add 217 = .ok (.iadd, 1) := by decide +kernel
theorem dX5_add_218 : decode cX5_add 218 = .ok (.baload, 1) := by decide +kernel
theorem dX5_add_219 : decode cX5_add 219 = .ok (.ireturn, 1) := by decide +kernel
set_option maxRecDepth 20000 in
theorem ggX5_predict_X5_failed : GoodIn wsX5_predict wsX5_failed := goodIn_r _ [8, 1, 60, 61, 62, 63, 64, 65, 66, 67, 68, 69, 70, 71, 72, 73, 74, 75, 76, 77, 78, 79, 80, 81] (by decide +kernel) (by decide +kernel)
set_option maxRecDepth 20000 in
theorem gX5_predict_X5_failed : GoodIn wsX5_predict (wsV RX5 84 RX5 yX5_failed wsX5_failed) := goodIn_app (goodIn_of _ (by decide +kernel)) ggX5_predict_X5_failed
set_option maxRecDepth 20000 in
theorem ggX5_predict_X5_add : GoodIn wsX5_predict wsX5_add := goodIn_r _ [12, 3, 13, 14, 15, 16, 17, 18, 19, 20, 21, 22, 7, 23, 24, 25, 26, 27, 28, 29, 30, 31, 32, 33, 34, 35, 36, 37, 38, 39, 40, 41, 42, 43, 44, 45, 46, 47, 48, 49, 50, 51, 52, 53, 54, 55, 56, 57, 58, 59, 60, 61, 62, 63, 64, 65, 66, 67, 68, 69, 70, 71, 72, 73, 74, 75, 76, 77, 78, 79, 80, 81] (by decide +kernel) (by decide +kernel)
set_option maxRecDepth 20000 in
theorem gX5_predict_X5_add : GoodIn wsX5_predict (wsV RX5 116 RX5 yX5_add wsX5_add) := goodIn_app (goodIn_of _ (by decide +kernel)) ggX5_predict_X5_add
theorem dX5_predict_0 : decode cX5_predict 0 = .ok (.aload_n 0, 1) := by decide +kernel
theorem dX5_predict_1 : decode cX5_predict 1 = .ok (.iconst 0, 1) := by decide +kernel
theorem dX5_predict_2 : decode cX5_predict 2 = .ok (.putfield 58, 3) := by decide +kernel
theorem dX5_predict_5 : decode cX5_predict 5 = .ok (.iload_n 1, 1) := by decide +kernel
theorem dX5_predict_6 : decode cX5_predict 6 = .ok (.ifCond .lt 9, 3) := by decide +kernel
theorem dX5_predict_9 : decode cX5_predict 9 = .ok (.iload_n 1, 1) := by decide +kernel
theorem dX5_predict_10 : decode cX5_predict 10 = .ok (.ldc 115, 2) := by decide +kernel
theorem dX5_predict_12 : decode cX5_predict 12 = .ok (.if_icmp .lt 9, 3) := by decide +kernel
theorem dX5_predict_15 : decode cX5_predict 15 = .ok (.aload_n 0, 1) := by decide +kernel
theorem dX5_predict_16 : decode cX5_predict 16 = .ok (.iconst 1, 1) := by decide +kernel
theorem dX5_predict_17 : decode cX5_predict 17 = .ok (.invokevirtual 84, 3) := by decide +kernel
theorem dX5_predict_20 : decode cX5_predict 20 = .ok (.ireturn, 1) := by decide +kernel
theorem dX5_predict_21 : decode cX5_predict 21 = .ok (.aload_n 0, 1) := by decide +kernel
theorem dX5_predict_22 : decode cX5_predict 22 = .ok (.getfield 74, 3) := by decide +kernel
theorem dX5_predict_25 : decode cX5_predict 25 = .ok (.bipush 16, 2) := by decide +kernel
theorem dX5_predict_27 : decode cX5_predict 27 = .ok (.if_icmp .ge 11, 3) := by decide +kernel
theorem dX5_predict_30 : decode cX5_predict 30 = .ok (.aload_n 0, 1) := by decide +kernel
theorem dX5_predict_31 : decode cX5_predict 31 = .ok (.iload_n 1, 1) := by decide +kernel
theorem dX5_predict_32 : decode cX5_predict 32 = .ok (.invokevirtual 116, 3) := by decide +kernel
theorem dX5_predict_35 : decode cX5_predict 35 = .ok (.goto 8, 3) := by decide +kernel
theorem dX5_predict_38 : decode cX5_predict 38 = .ok (.aload_n 0, 1) := by decide +kernel
theorem dX5_predict_39 : decode cX5_predict 39 = .ok (.iconst 2, 1) := by decide +kernel
theorem dX5_predict_40 : decode cX5_predict 40 = .ok (.invokevirtual 84, 3) := by decide +kernel
theorem dX5_predict_43 : decode cX5_predict 43 = .ok (.ireturn, 1) := by decide +kernel
theorem dX5_isFlying_0 : decode cX5_isFlying 0 = .ok (.iload_n 1, 1) := by decide +kernel
theorem dX5_isFlying_1 : decode cX5_isFlying 1 = .ok (.ifCond .lt 15, 3) := by decide +kernel
theorem dX5_isFlying_4 : decode cX5_isFlying 4 = .ok (.iload_n 1, 1) := by decide +kernel
theorem dX5_isFlying_5 : decode cX5_isFlying 5 = .ok (.aload_n 0, 1) := by decide +kernel
theorem dX5_isFlying_6 : decode cX5_isFlying 6 = .ok (.getfield 74, 3) := by decide +kernel
theorem dX5_isFlying_9 : decode cX5_isFlying 9 = .ok (.if_icmp .ge 7, 3) := by decide +kernel
theorem dX5_isFlying_12 : decode cX5_isFlying 12 = .ok (.iconst 1, 1) := by decide +kernel
theorem dX5_isFlying_13 : decode cX5_isFlying 13 = .ok (.goto 4, 3) := by decide +kernel
theorem dX5_isFlying_16 : decode cX5_isFlying 16 = .ok (.iconst 0, 1) := by decide +kernel
theorem dX5_isFlying_17 : decode cX5_isFlying 17 = .ok (.ireturn, 1) := by decide +kernel
theorem dX5_isWrong_0 : decode cX5_isWrong 0 = .ok (.aload_n 0, 1) := by decide +kernel
theorem dX5_isWrong_1 : decode cX5_isWrong 1 = .ok (.getfield 26, 3) := by decide +kernel
theorem dX5_isWrong_4 : decode cX5_isWrong 4 = .ok (.iload_n 1, 1) := by decide +kernel
theorem dX5_isWrong_5 : decode cX5_isWrong 5 = .ok (.baload, 1) := by decide +kernel
theorem dX5_isWrong_6 : decode cX5_isWrong 6 = .ok (.ifCond .eq 26, 3) := by decide +kernel
theorem dX5_isWrong_9 : decode cX5_isWrong 9 = .ok (.aload_n 0, 1) := by decide +kernel
theorem dX5_isWrong_10 : decode cX5_isWrong 10 = .ok (.getfield 29, 3) := by decide +kernel
theorem dX5_isWrong_13 : decode cX5_isWrong 13 = .ok (.iload_n 1, 1) := by decide +kernel
theorem dX5_isWrong_14 : decode cX5_isWrong 14 = .ok (.baload, 1) := by decide +kernel
theorem dX5_isWrong_15 : decode cX5_isWrong 15 = .ok (.aload_n 0, 1) := by decide +kernel
theorem dX5_isWrong_16 : decode cX5_isWrong 16 = .ok (.getfield 22, 3) := by decide +kernel
theorem dX5_isWrong_19 : decode cX5_isWrong 19 = .ok (.iconst 4, 1) := by decide +kernel
theorem dX5_isWrong_20 : decode cX5_isWrong 20 = .ok (.iload_n 1, 1) := by decide +kernel
theorem dX5_isWrong_21 : decode cX5_isWrong 21 = .ok (.imul, 1) := by decide +kernel
theorem dX5_isWrong_22 : decode cX5_isWrong 22 = .ok (.iconst 3, 1) := by decide +kernel
theorem dX5_isWrong_23 : decode cX5_isWrong 23 = .ok (.iadd, 1) := by decide +kernel
theorem dX5_isWrong_24 : decode cX5_isWrong 24 = .ok (.baload, 1) := by decide +kernel
theorem dX5_isWrong_25 : decode cX5_isWrong 25 = .ok (.if_icmp .eq 7, 3) := by decide +kernel
theorem dX5_isWrong_28 : decode cX5_isWrong 28 = .ok (.iconst 1, 1) := by decide +kernel
theorem dX5_isWrong_29 : decode cX5_isWrong 29 = .ok (.goto 4, 3) := by decide +kernel
theorem dX5_isWrong_32 : decode cX5_isWrong 32 = .ok (.iconst 0, 1) := by decide +kernel
theorem dX5_isWrong_33 : decode cX5_isWrong 33 = .ok (.ireturn, 1) := by decide +kernel
set_option maxRecDepth 20000 in
theorem ggX5_settle_X5_isWrong : GoodIn wsX5_settle wsX5_isWrong := goodIn_r _ [11, 1, 2, 12, 18, 19, 20, 21, 22, 23, 24, 25, 26, 27, 28, 29, 30, 31, 32, 33, 34, 35, 36, 37, 38, 39] (by decide +kernel) (by decide +kernel)
set_option maxRecDepth 20000 in
theorem gX5_settle_X5_isWrong : GoodIn wsX5_settle (wsV RX5 119 RX5 yX5_isWrong wsX5_isWrong) := goodIn_app (goodIn_of _ (by decide +kernel)) ggX5_settle_X5_isWrong
set_option maxRecDepth 20000 in
theorem ggX5_settle_X5_appended : GoodIn wsX5_settle wsX5_appended := goodIn_r _ [16, 17, 18, 19, 20, 21, 22, 23, 24, 25, 26, 27, 28, 29, 30, 31, 32, 33, 34, 35, 36, 37, 38, 39] (by decide +kernel) (by decide +kernel)
set_option maxRecDepth 20000 in
theorem gX5_settle_X5_appended : GoodIn wsX5_settle (wsV RX5 111 RX5 yX5_appended wsX5_appended) := goodIn_app (goodIn_of _ (by decide +kernel)) ggX5_settle_X5_appended
theorem dX5_settle_0 : decode cX5_settle 0 = .ok (.aload_n 0, 1) := by decide +kernel
theorem dX5_settle_1 : decode cX5_settle 1 = .ok (.getfield 26, 3) := by decide +kernel
theorem dX5_settle_4 : decode cX5_settle 4 = .ok (.iload_n 1, 1) := by decide +kernel
theorem dX5_settle_5 : decode cX5_settle 5 = .ok (.iconst 1, 1) := by decide +kernel
theorem dX5_settle_6 : decode cX5_settle 6 = .ok (.bastore, 1) := by decide +kernel
theorem dX5_settle_7 : decode cX5_settle 7 = .ok (.aload_n 0, 1) := by decide +kernel
theorem dX5_settle_8 : decode cX5_settle 8 = .ok (.getfield 29, 3) := by decide +kernel
theorem dX5_settle_11 : decode cX5_settle 11 = .ok (.iload_n 1, 1) := by decide +kernel
theorem dX5_settle_12 : decode cX5_settle 12 = .ok (.iload_n 2, 1) := by decide +kernel
theorem dX5_settle_13 : decode cX5_settle 13 = .ok (.bastore, 1) := by decide +kernel
theorem dX5_settle_14 : decode cX5_settle 14 = .ok (.aload_n 0, 1) := by decide +kernel
theorem dX5_settle_15 : decode cX5_settle 15 = .ok (.iload_n 1, 1) := by decide +kernel
theorem dX5_settle_16 : decode cX5_settle 16 = .ok (.invokevirtual 119, 3) := by decide +kernel
theorem dX5_settle_19 : decode cX5_settle 19 = .ok (.ifCond .ne 5, 3) := by decide +kernel
theorem dX5_settle_22 : decode cX5_settle 22 = .ok (.iconst (-1), 1) := by decide +kernel
theorem dX5_settle_23 : decode cX5_settle 23 = .ok (.ireturn, 1) := by decide +kernel
theorem dX5_settle_24 : decode cX5_settle 24 = .ok (.aload_n 0, 1) := by decide +kernel
theorem dX5_settle_25 : decode cX5_settle 25 = .ok (.getfield 74, 3) := by decide +kernel
theorem dX5_settle_28 : decode cX5_settle 28 = .ok (.iload_n 1, 1) := by decide +kernel
theorem dX5_settle_29 : decode cX5_settle 29 = .ok (.isub, 1) := by decide +kernel
theorem dX5_settle_30 : decode cX5_settle 30 = .ok (.iconst 1, 1) := by decide +kernel
theorem dX5_settle_31 : decode cX5_settle 31 = .ok (.isub, 1) := by decide +kernel
theorem dX5_settle_32 : decode cX5_settle 32 = .ok (.istore_n 3, 1) := by decide +kernel
theorem dX5_settle_33 : decode cX5_settle 33 = .ok (.aload_n 0, 1) := by decide +kernel
theorem dX5_settle_34 : decode cX5_settle 34 = .ok (.iload_n 1, 1) := by decide +kernel
theorem dX5_settle_35 : decode cX5_settle 35 = .ok (.iconst 1, 1) := by decide +kernel
theorem dX5_settle_36 : decode cX5_settle 36 = .ok (.iadd, 1) := by decide +kernel
theorem dX5_settle_37 : decode cX5_settle 37 = .ok (.putfield 74, 3) := by decide +kernel
theorem dX5_settle_40 : decode cX5_settle 40 = .ok (.aload_n 0, 1) := by decide +kernel
theorem dX5_settle_41 : decode cX5_settle 41 = .ok (.dup, 1) := by decide +kernel
theorem dX5_settle_42 : decode cX5_settle 42 = .ok (.getfield 81, 3) := by decide +kernel
theorem dX5_settle_45 : decode cX5_settle 45 = .ok (.iload_n 3, 1) := by decide +kernel
theorem dX5_settle_46 : decode cX5_settle 46 = .ok (.i2l, 1) := by decide +kernel
theorem dX5_settle_47 : decode cX5_settle 47 = .ok (.ladd, 1) := by decide +kernel
theorem dX5_settle_48 : decode cX5_settle 48 = .ok (.putfield 81, 3) := by decide +kernel
theorem dX5_settle_51 : decode cX5_settle 51 = .ok (.aload_n 0, 1) := by decide +kernel
theorem dX5_settle_52 : decode cX5_settle 52 = .ok (.aload_n 0, 1) := by decide +kernel
theorem dX5_settle_53 : decode cX5_settle 53 = .ok (.aload_n 0, 1) := by decide +kernel
theorem dX5_settle_54 : decode cX5_settle 54 = .ok (.getfield 19, 3) := by decide +kernel
theorem dX5_settle_57 : decode cX5_settle 57 = .ok (.iload_n 1, 1) := by decide +kernel
theorem dX5_settle_58 : decode cX5_settle 58 = .ok (.iaload, 1) := by decide +kernel
theorem dX5_settle_59 : decode cX5_settle 59 = .ok (.iload_n 2, 1) := by decide +kernel
theorem dX5_settle_60 : decode cX5_settle 60 = .ok (.invokevirtual 111, 3) := by decide +kernel
theorem dX5_settle_63 : decode cX5_settle 63 = .ok (.putfield 71, 3) := by decide +kernel
theorem dX5_settle_66 : decode cX5_settle 66 = .ok (.iload_n 3, 1) := by decide +kernel
theorem dX5_settle_67 : decode cX5_settle 67 = .ok (.ireturn, 1) := by decide +kernel
set_option maxRecDepth 20000 in
theorem ggX5_resolve_X5_isFlying : GoodIn wsX5_resolve wsX5_isFlying := goodIn_r _ [7, 8, 31, 32, 33, 34, 35, 36, 37, 38, 39, 40, 41, 42, 43, 44, 45, 46, 47, 48, 49, 50, 51, 52] (by decide +kernel) (by decide +kernel)
set_option maxRecDepth 20000 in
theorem gX5_resolve_X5_isFlying : GoodIn wsX5_resolve (wsV RX5 122 RX5 yX5_isFlying wsX5_isFlying) := goodIn_app (goodIn_of _ (by decide +kernel)) ggX5_resolve_X5_isFlying
set_option maxRecDepth 20000 in
theorem ggX5_resolve_X5_fail : GoodIn wsX5_resolve wsX5_fail := goodIn_r _ [12, 1, 31, 32, 33, 34, 35, 36, 37, 38, 39, 40, 41, 42, 43, 44, 45, 46, 47, 48, 49, 50, 51, 52] (by decide +kernel) (by decide +kernel)
set_option maxRecDepth 20000 in
theorem gX5_resolve_X5_fail : GoodIn wsX5_resolve (wsV RX5 125 RX5 yX5_fail wsX5_fail) := goodIn_app (goodIn_of _ (by decide +kernel)) ggX5_resolve_X5_fail
set_option maxRecDepth 20000 in
theorem ggX5_resolve_X5_settle : GoodIn wsX5_resolve wsX5_settle := goodIn_r _ [16, 2, 17, 8, 18, 19, 20, 21, 22, 23, 6, 24, 25, 26, 27, 28, 29, 30, 31, 32, 33, 34, 35, 36, 37, 38, 39, 40, 41, 42, 43, 44, 45, 46, 47, 48, 49, 50, 51, 52] (by decide +kernel) (by decide +kernel)
set_option maxRecDepth 20000 in
theorem gX5_resolve_X5_settle : GoodIn wsX5_resolve (wsV RX5 128 RX5 yX5_settle wsX5_settle) := goodIn_app (goodIn_of _ (by decide +kernel)) ggX5_resolve_X5_settle
theorem dX5_resolve_0 : decode cX5_resolve 0 = .ok (.aload_n 0, 1) := by decide +kernel
theorem dX5_resolve_1 : decode cX5_resolve 1 = .ok (.iconst 0, 1) := by decide +kernel
theorem dX5_resolve_2 : decode cX5_resolve 2 = .ok (.putfield 58, 3) := by decide +kernel
theorem dX5_resolve_5 : decode cX5_resolve 5 = .ok (.aload_n 0, 1) := by decide +kernel
theorem dX5_resolve_6 : decode cX5_resolve 6 = .ok (.iload_n 1, 1) := by decide +kernel
theorem dX5_resolve_7 : decode cX5_resolve 7 = .ok (.invokevirtual 122, 3) := by decide +kernel
theorem dX5_resolve_10 : decode cX5_resolve 10 = .ok (.ifCond .ne 9, 3) := by decide +kernel
theorem dX5_resolve_13 : decode cX5_resolve 13 = .ok (.aload_n 0, 1) := by decide +kernel
theorem dX5_resolve_14 : decode cX5_resolve 14 = .ok (.iconst 1, 1) := by decide +kernel
theorem dX5_resolve_15 : decode cX5_resolve 15 = .ok (.invokevirtual 125, 3) := by decide +kernel
theorem dX5_resolve_18 : decode cX5_resolve 18 = .ok (.ireturn, 1) := by decide +kernel
theorem dX5_resolve_19 : decode cX5_resolve 19 = .ok (.aload_n 0, 1) := by decide +kernel
theorem dX5_resolve_20 : decode cX5_resolve 20 = .ok (.getfield 26, 3) := by decide +kernel
theorem dX5_resolve_23 : decode cX5_resolve 23 = .ok (.iload_n 1, 1) := by decide +kernel
theorem dX5_resolve_24 : decode cX5_resolve 24 = .ok (.baload, 1) := by decide +kernel
theorem dX5_resolve_25 : decode cX5_resolve 25 = .ok (.ifCond .eq 11, 3) := by decide +kernel
theorem dX5_resolve_28 : decode cX5_resolve 28 = .ok (.aload_n 0, 1) := by decide +kernel
theorem dX5_resolve_29 : decode cX5_resolve 29 = .ok (.iconst 2, 1) := by decide +kernel
theorem dX5_resolve_30 : decode cX5_resolve 30 = .ok (.invokevirtual 125, 3) := by decide +kernel
theorem dX5_resolve_33 : decode cX5_resolve 33 = .ok (.goto 9, 3) := by decide +kernel
theorem dX5_resolve_36 : decode cX5_resolve 36 = .ok (.aload_n 0, 1) := by decide +kernel
theorem dX5_resolve_37 : decode cX5_resolve 37 = .ok (.iload_n 1, 1) := by decide +kernel
theorem dX5_resolve_38 : decode cX5_resolve 38 = .ok (.iload_n 2, 1) := by decide +kernel
theorem dX5_resolve_39 : decode cX5_resolve 39 = .ok (.invokevirtual 128, 3) := by decide +kernel
theorem dX5_resolve_42 : decode cX5_resolve 42 = .ok (.ireturn, 1) := by decide +kernel
theorem dX5_change_0 : decode cX5_change 0 = .ok (.aload_n 0, 1) := by decide +kernel
theorem dX5_change_1 : decode cX5_change 1 = .ok (.getfield 9, 3) := by decide +kernel
theorem dX5_change_4 : decode cX5_change 4 = .ok (.iload_n 1, 1) := by decide +kernel
theorem dX5_change_5 : decode cX5_change 5 = .ok (.iconst 0, 1) := by decide +kernel
theorem dX5_change_6 : decode cX5_change 6 = .ok (.iconst 3, 1) := by decide +kernel
theorem dX5_change_7 : decode cX5_change 7 = .ok (.aload_n 0, 1) := by decide +kernel
theorem dX5_change_8 : decode cX5_change 8 = .ok (.getfield 9, 3) := by decide +kernel
theorem dX5_change_11 : decode cX5_change 11 = .ok (.iload_n 1, 1) := by decide +kernel
theorem dX5_change_12 : decode cX5_change 12 = .ok (.iaload, 1) := by decide +kernel
theorem dX5_change_13 : decode cX5_change 13 = .ok (.iload_n 2, 1) := by decide +kernel
theorem dX5_change_14 : decode cX5_change 14 = .ok (.ifCond .eq 7, 3) := by decide +kernel
theorem dX5_change_17 : decode cX5_change 17 = .ok (.iconst 1, 1) := by decide +kernel
theorem dX5_change_18 : decode cX5_change 18 = .ok (.goto 4, 3) := by decide +kernel
theorem dX5_change_21 : decode cX5_change 21 = .ok (.iconst (-1), 1) := by decide +kernel
theorem dX5_change_22 : decode cX5_change 22 = .ok (.iadd, 1) := by decide +kernel
theorem dX5_change_23 : decode cX5_change 23 = .ok (.invokestatic 131, 3) := by decide +kernel
theorem dX5_change_26 : decode cX5_change 26 = .ok (.invokestatic 136, 3) := by decide +kernel
theorem dX5_change_29 : decode cX5_change 29 = .ok (.iastore, 1) := by decide +kernel
theorem dX5_change_30 : decode cX5_change 30 = .ok (.return_, 1) := by decide +kernel
set_option maxRecDepth 20000 in
theorem ggX5_audit_X5_says : GoodIn wsX5_audit wsX5_says := goodIn_r _ [7, 8, 9, 10, 11, 12, 13, 14, 15, 16, 17, 18, 19, 20, 21, 22, 23, 24, 25, 26, 27, 28, 29, 30] (by decide +kernel) (by decide +kernel)
set_option maxRecDepth 20000 in
theorem gX5_audit_X5_says : GoodIn wsX5_audit (wsV RX5 95 RX5 yX5_says wsX5_says) := goodIn_app (goodIn_of _ (by decide +kernel)) ggX5_audit_X5_says
theorem dX5_audit_0 : decode cX5_audit 0 = .ok (.aload_n 0, 1) := by decide +kernel
theorem dX5_audit_1 : decode cX5_audit 1 = .ok (.getfield 13, 3) := by decide +kernel
theorem dX5_audit_4 : decode cX5_audit 4 = .ok (.iload_n 2, 1) := by decide +kernel
theorem dX5_audit_5 : decode cX5_audit 5 = .ok (.iaload, 1) := by decide +kernel
theorem dX5_audit_6 : decode cX5_audit 6 = .ok (.iconst (-1), 1) := by decide +kernel
theorem dX5_audit_7 : decode cX5_audit 7 = .ok (.if_icmp .eq 53, 3) := by decide +kernel
theorem dX5_audit_10 : decode cX5_audit 10 = .ok (.aload_n 0, 1) := by decide +kernel
theorem dX5_audit_11 : decode cX5_audit 11 = .ok (.getfield 13, 3) := by decide +kernel
theorem dX5_audit_14 : decode cX5_audit 14 = .ok (.iload_n 2, 1) := by decide +kernel
theorem dX5_audit_15 : decode cX5_audit 15 = .ok (.iaload, 1) := by decide +kernel
theorem dX5_audit_16 : decode cX5_audit 16 = .ok (.iload_n 3, 1) := by decide +kernel
theorem dX5_audit_17 : decode cX5_audit 17 = .ok (.if_icmp .eq 43, 3) := by decide +kernel
theorem dX5_audit_20 : decode cX5_audit 20 = .ok (.aload_n 0, 1) := by decide +kernel
theorem dX5_audit_21 : decode cX5_audit 21 = .ok (.getfield 51, 3) := by decide +kernel
theorem dX5_audit_24 : decode cX5_audit 24 = .ok (.iconst 2, 1) := by decide +kernel
theorem dX5_audit_25 : decode cX5_audit 25 = .ok (.iload_n 1, 1) := by decide +kernel
theorem dX5_audit_26 : decode cX5_audit 26 = .ok (.imul, 1) := by decide +kernel
theorem dX5_audit_27 : decode cX5_audit 27 = .ok (.dup2, 1) := by decide +kernel
theorem dX5_audit_28 : decode cX5_audit 28 = .ok (.laload, 1) := by decide +kernel
theorem dX5_audit_29 : decode cX5_audit 29 = .ok (.lconst 1, 1) := by decide +kernel
theorem dX5_audit_30 : decode cX5_audit 30 = .ok (.ladd, 1) := by decide +kernel
theorem dX5_audit_31 : decode cX5_audit 31 = .ok (.lastore, 1) := by decide +kernel
theorem dX5_audit_32 : decode cX5_audit 32 = .ok (.aload_n 0, 1) := by decide +kernel
theorem dX5_audit_33 : decode cX5_audit 33 = .ok (.getfield 51, 3) := by decide +kernel
theorem dX5_audit_36 : decode cX5_audit 36 = .ok (.iconst 2, 1) := by decide +kernel
theorem dX5_audit_37 : decode cX5_audit 37 = .ok (.iload_n 1, 1) := by decide +kernel
theorem dX5_audit_38 : decode cX5_audit 38 = .ok (.imul, 1) := by decide +kernel
theorem dX5_audit_39 : decode cX5_audit 39 = .ok (.iconst 1, 1) := by decide +kernel
theorem dX5_audit_40 : decode cX5_audit 40 = .ok (.iadd, 1) := by decide +kernel
theorem dX5_audit_41 : decode cX5_audit 41 = .ok (.dup2, 1) := by decide +kernel
theorem dX5_audit_42 : decode cX5_audit 42 = .ok (.laload, 1) := by decide +kernel
theorem dX5_audit_43 : decode cX5_audit 43 = .ok (.aload_n 0, 1) := by decide +kernel
theorem dX5_audit_44 : decode cX5_audit 44 = .ok (.iload_n 2, 1) := by decide +kernel
theorem dX5_audit_45 : decode cX5_audit 45 = .ok (.invokevirtual 95, 3) := by decide +kernel
theorem dX5_audit_48 : decode cX5_audit 48 = .ok (.iload 4, 2) := by decide +kernel
theorem dX5_audit_50 : decode cX5_audit 50 = .ok (.if_icmp .ne 7, 3) := by decide +kernel
theorem dX5_audit_53 : decode cX5_audit 53 = .ok (.lconst 0, 1) := by decide +kernel
theorem dX5_audit_54 : decode cX5_audit 54 = .ok (.goto 4, 3) := by decide +kernel
theorem dX5_audit_57 : decode cX5_audit 57 = .ok (.lconst 1, 1) := by decide +kernel
theorem dX5_audit_58 : decode cX5_audit 58 = .ok (.ladd, 1) := by decide +kernel
theorem dX5_audit_59 : decode cX5_audit 59 = .ok (.lastore, 1) := by decide +kernel
theorem dX5_audit_60 : decode cX5_audit 60 = .ok (.aload_n 0, 1) := by decide +kernel
theorem dX5_audit_61 : decode cX5_audit 61 = .ok (.getfield 13, 3) := by decide +kernel
theorem dX5_audit_64 : decode cX5_audit 64 = .ok (.iload_n 2, 1) := by decide +kernel
theorem dX5_audit_65 : decode cX5_audit 65 = .ok (.iload_n 3, 1) := by decide +kernel
theorem dX5_audit_66 : decode cX5_audit 66 = .ok (.iastore, 1) := by decide +kernel
theorem dX5_audit_67 : decode cX5_audit 67 = .ok (.return_, 1) := by decide +kernel
set_option maxRecDepth 20000 in
theorem ggX5_learnLoop_X5_loopOf : GoodIn wsX5_learnLoop wsX5_loopOf := goodIn_r _ [13, 2, 14, 19, 20, 21, 22, 23, 24, 25, 26, 27, 28, 29, 30, 31, 32, 33, 34, 35, 36, 37, 38, 39, 40] (by decide +kernel) (by decide +kernel)
set_option maxRecDepth 20000 in
theorem gX5_learnLoop_X5_loopOf : GoodIn wsX5_learnLoop (wsV RX5 105 RX5 yX5_loopOf wsX5_loopOf) := goodIn_app (goodIn_of _ (by decide +kernel)) ggX5_learnLoop_X5_loopOf
set_option maxRecDepth 20000 in
theorem ggX5_learnLoop_X5_makeLoop : GoodIn wsX5_learnLoop wsX5_makeLoop := goodIn_r _ [18, 4, 2, 14, 1, 3, 19, 20, 21, 22, 23, 24, 25, 26, 27, 28, 29, 30, 31, 32, 33, 34, 35, 36, 37, 38, 39, 40] (by decide +kernel) (by decide +kernel)
set_option maxRecDepth 20000 in
theorem gX5_learnLoop_X5_makeLoop : GoodIn wsX5_learnLoop (wsV RX5 139 RX5 yX5_makeLoop wsX5_makeLoop) := goodIn_app (goodIn_of _ (by decide +kernel)) ggX5_learnLoop_X5_makeLoop
theorem dX5_learnLoop_0 : decode cX5_learnLoop 0 = .ok (.aload_n 0, 1) := by decide +kernel
theorem dX5_learnLoop_1 : decode cX5_learnLoop 1 = .ok (.iload_n 1, 1) := by decide +kernel
theorem dX5_learnLoop_2 : decode cX5_learnLoop 2 = .ok (.invokevirtual 105, 3) := by decide +kernel
theorem dX5_learnLoop_5 : decode cX5_learnLoop 5 = .ok (.istore 4, 2) := by decide +kernel
theorem dX5_learnLoop_7 : decode cX5_learnLoop 7 = .ok (.iload 4, 2) := by decide +kernel
theorem dX5_learnLoop_9 : decode cX5_learnLoop 9 = .ok (.iconst (-1), 1) := by decide +kernel
theorem dX5_learnLoop_10 : decode cX5_learnLoop 10 = .ok (.if_icmp .ne 17, 3) := by decide +kernel
theorem dX5_learnLoop_13 : decode cX5_learnLoop 13 = .ok (.iload_n 2, 1) := by decide +kernel
theorem dX5_learnLoop_14 : decode cX5_learnLoop 14 = .ok (.ifCond .ne 12, 3) := by decide +kernel
theorem dX5_learnLoop_17 : decode cX5_learnLoop 17 = .ok (.iload_n 3, 1) := by decide +kernel
theorem dX5_learnLoop_18 : decode cX5_learnLoop 18 = .ok (.ifCond .eq 8, 3) := by decide +kernel
theorem dX5_learnLoop_21 : decode cX5_learnLoop 21 = .ok (.aload_n 0, 1) := by decide +kernel
theorem dX5_learnLoop_22 : decode cX5_learnLoop 22 = .ok (.iload_n 1, 1) := by decide +kernel
theorem dX5_learnLoop_23 : decode cX5_learnLoop 23 = .ok (.invokevirtual 139, 3) := by decide +kernel
theorem dX5_learnLoop_26 : decode cX5_learnLoop 26 = .ok (.return_, 1) := by decide +kernel
theorem dX5_learnLoop_27 : decode cX5_learnLoop 27 = .ok (.iload_n 2, 1) := by decide +kernel
theorem dX5_learnLoop_28 : decode cX5_learnLoop 28 = .ok (.ifCond .eq 36, 3) := by decide +kernel
theorem dX5_learnLoop_31 : decode cX5_learnLoop 31 = .ok (.aload_n 0, 1) := by decide +kernel
theorem dX5_learnLoop_32 : decode cX5_learnLoop 32 = .ok (.getfield 38, 3) := by decide +kernel
theorem dX5_learnLoop_35 : decode cX5_learnLoop 35 = .ok (.iload 4, 2) := by decide +kernel
theorem dX5_learnLoop_37 : decode cX5_learnLoop 37 = .ok (.dup2, 1) := by decide +kernel
theorem dX5_learnLoop_38 : decode cX5_learnLoop 38 = .ok (.iaload, 1) := by decide +kernel
theorem dX5_learnLoop_39 : decode cX5_learnLoop 39 = .ok (.iconst 1, 1) := by decide +kernel
theorem dX5_learnLoop_40 : decode cX5_learnLoop 40 = .ok (.iadd, 1) := by decide +kernel
theorem dX5_learnLoop_41 : decode cX5_learnLoop 41 = .ok (.iastore, 1) := by decide +kernel
theorem dX5_learnLoop_42 : decode cX5_learnLoop 42 = .ok (.aload_n 0, 1) := by decide +kernel
theorem dX5_learnLoop_43 : decode cX5_learnLoop 43 = .ok (.getfield 38, 3) := by decide +kernel
theorem dX5_learnLoop_46 : decode cX5_learnLoop 46 = .ok (.iload 4, 2) := by decide +kernel
theorem dX5_learnLoop_48 : decode cX5_learnLoop 48 = .ok (.iaload, 1) := by decide +kernel
theorem dX5_learnLoop_49 : decode cX5_learnLoop 49 = .ok (.sipush 1000, 3) := by decide +kernel
theorem dX5_learnLoop_52 : decode cX5_learnLoop 52 = .ok (.if_icmp .le 11, 3) := by decide +kernel
theorem dX5_learnLoop_55 : decode cX5_learnLoop 55 = .ok (.aload_n 0, 1) := by decide +kernel
theorem dX5_learnLoop_56 : decode cX5_learnLoop 56 = .ok (.getfield 32, 3) := by decide +kernel
theorem dX5_learnLoop_59 : decode cX5_learnLoop 59 = .ok (.iload 4, 2) := by decide +kernel
theorem dX5_learnLoop_61 : decode cX5_learnLoop 61 = .ok (.iconst 0, 1) := by decide +kernel
theorem dX5_learnLoop_62 : decode cX5_learnLoop 62 = .ok (.bastore, 1) := by decide +kernel
theorem dX5_learnLoop_63 : decode cX5_learnLoop 63 = .ok (.return_, 1) := by decide +kernel
theorem dX5_learnLoop_64 : decode cX5_learnLoop 64 = .ok (.aload_n 0, 1) := by decide +kernel
theorem dX5_learnLoop_65 : decode cX5_learnLoop 65 = .ok (.getfield 41, 3) := by decide +kernel
theorem dX5_learnLoop_68 : decode cX5_learnLoop 68 = .ok (.iload 4, 2) := by decide +kernel
theorem dX5_learnLoop_70 : decode cX5_learnLoop 70 = .ok (.iaload, 1) := by decide +kernel
theorem dX5_learnLoop_71 : decode cX5_learnLoop 71 = .ok (.ifCond .eq 43, 3) := by decide +kernel
theorem dX5_learnLoop_74 : decode cX5_learnLoop 74 = .ok (.aload_n 0, 1) := by decide +kernel
theorem dX5_learnLoop_75 : decode cX5_learnLoop 75 = .ok (.getfield 41, 3) := by decide +kernel
theorem dX5_learnLoop_78 : decode cX5_learnLoop 78 = .ok (.iload 4, 2) := by decide +kernel
theorem dX5_learnLoop_80 : decode cX5_learnLoop 80 = .ok (.iaload, 1) := by decide +kernel
theorem dX5_learnLoop_81 : decode cX5_learnLoop 81 = .ok (.aload_n 0, 1) := by decide +kernel
theorem dX5_learnLoop_82 : decode cX5_learnLoop 82 = .ok (.getfield 38, 3) := by decide +kernel
theorem dX5_learnLoop_85 : decode cX5_learnLoop 85 = .ok (.iload 4, 2) := by decide +kernel
theorem dX5_learnLoop_87 : decode cX5_learnLoop 87 = .ok (.iaload, 1) := by decide +kernel
theorem dX5_learnLoop_88 : decode cX5_learnLoop 88 = .ok (.if_icmp .ne 26, 3) := by decide +kernel
theorem dX5_learnLoop_91 : decode cX5_learnLoop 91 = .ok (.aload_n 0, 1) := by decide +kernel
theorem dX5_learnLoop_92 : decode cX5_learnLoop 92 = .ok (.getfield 44, 3) := by decide +kernel
theorem dX5_learnLoop_95 : decode cX5_learnLoop 95 = .ok (.iload 4, 2) := by decide +kernel
theorem dX5_learnLoop_97 : decode cX5_learnLoop 97 = .ok (.aload_n 0, 1) := by decide +kernel
theorem dX5_learnLoop_98 : decode cX5_learnLoop 98 = .ok (.getfield 44, 3) := by decide +kernel
theorem dX5_learnLoop_101 : decode cX5_learnLoop 101 = .ok (.iload 4, 2) := by decide +kernel
theorem dX5_learnLoop_103 : decode cX5_learnLoop 103 = .ok (.iaload, 1) := by decide +kernel
theorem dX5_learnLoop_104 : decode cX5_learnLoop 104 = .ok (.iconst 1, 1) := by decide +kernel
theorem dX5_learnLoop_105 : decode cX5_learnLoop 105 = .ok (.iadd, 1) := by decide +kernel
theorem dX5_learnLoop_106 : decode cX5_learnLoop 106 = .ok (.iconst 3, 1) := by decide +kernel
theorem dX5_learnLoop_107 : decode cX5_learnLoop 107 = .ok (.invokestatic 131, 3) := by decide +kernel
theorem dX5_learnLoop_110 : decode cX5_learnLoop 110 = .ok (.iastore, 1) := by decide +kernel
theorem dX5_learnLoop_111 : decode cX5_learnLoop 111 = .ok (.goto 25, 3) := by decide +kernel
theorem dX5_learnLoop_114 : decode cX5_learnLoop 114 = .ok (.aload_n 0, 1) := by decide +kernel
theorem dX5_learnLoop_115 : decode cX5_learnLoop 115 = .ok (.getfield 41, 3) := by decide +kernel
theorem dX5_learnLoop_118 : decode cX5_learnLoop 118 = .ok (.iload 4, 2) := by decide +kernel
theorem dX5_learnLoop_120 : decode cX5_learnLoop 120 = .ok (.aload_n 0, 1) := by decide +kernel
theorem dX5_learnLoop_121 : decode cX5_learnLoop 121 = .ok (.getfield 38, 3) := by decide +kernel
theorem dX5_learnLoop_124 : decode cX5_learnLoop 124 = .ok (.iload 4, 2) := by decide +kernel
theorem dX5_learnLoop_126 : decode cX5_learnLoop 126 = .ok (.iaload, 1) := by decide +kernel
theorem dX5_learnLoop_127 : decode cX5_learnLoop 127 = .ok (.iastore, 1) := by decide +kernel
theorem dX5_learnLoop_128 : decode cX5_learnLoop 128 = .ok (.aload_n 0, 1) := by decide +kernel
theorem dX5_learnLoop_129 : decode cX5_learnLoop 129 = .ok (.getfield 44, 3) := by decide +kernel
theorem dX5_learnLoop_132 : decode cX5_learnLoop 132 = .ok (.iload 4, 2) := by decide +kernel
theorem dX5_learnLoop_134 : decode cX5_learnLoop 134 = .ok (.iconst 0, 1) := by decide +kernel
theorem dX5_learnLoop_135 : decode cX5_learnLoop 135 = .ok (.iastore, 1) := by decide +kernel
theorem dX5_learnLoop_136 : decode cX5_learnLoop 136 = .ok (.aload_n 0, 1) := by decide +kernel
theorem dX5_learnLoop_137 : decode cX5_learnLoop 137 = .ok (.getfield 38, 3) := by decide +kernel
theorem dX5_learnLoop_140 : decode cX5_learnLoop 140 = .ok (.iload 4, 2) := by decide +kernel
theorem dX5_learnLoop_142 : decode cX5_learnLoop 142 = .ok (.iconst 0, 1) := by decide +kernel
theorem dX5_learnLoop_143 : decode cX5_learnLoop 143 = .ok (.iastore, 1) := by decide +kernel
theorem dX5_learnLoop_144 : decode cX5_learnLoop 144 = .ok (.return_, 1) := by decide +kernel
theorem dX5_makeLoop_0 : decode cX5_makeLoop 0 = .ok (.iconst 0, 1) := by decide +kernel
theorem dX5_makeLoop_1 : decode cX5_makeLoop 1 = .ok (.istore_n 2, 1) := by decide +kernel
theorem dX5_makeLoop_2 : decode cX5_makeLoop 2 = .ok (.bipush 7, 2) := by decide +kernel
theorem dX5_makeLoop_4 : decode cX5_makeLoop 4 = .ok (.istore_n 3, 1) := by decide +kernel
theorem dX5_makeLoop_5 : decode cX5_makeLoop 5 = .ok (.iload_n 3, 1) := by decide +kernel
theorem dX5_makeLoop_6 : decode cX5_makeLoop 6 = .ok (.ifCond .lt 26, 3) := by decide +kernel
theorem dX5_makeLoop_9 : decode cX5_makeLoop 9 = .ok (.aload_n 0, 1) := by decide +kernel
theorem dX5_makeLoop_10 : decode cX5_makeLoop 10 = .ok (.getfield 44, 3) := by decide +kernel
theorem dX5_makeLoop_13 : decode cX5_makeLoop 13 = .ok (.iload_n 3, 1) := by decide +kernel
theorem dX5_makeLoop_14 : decode cX5_makeLoop 14 = .ok (.iaload, 1) := by decide +kernel
theorem dX5_makeLoop_15 : decode cX5_makeLoop 15 = .ok (.aload_n 0, 1) := by decide +kernel
theorem dX5_makeLoop_16 : decode cX5_makeLoop 16 = .ok (.getfield 44, 3) := by decide +kernel
theorem dX5_makeLoop_19 : decode cX5_makeLoop 19 = .ok (.iload_n 2, 1) := by decide +kernel
theorem dX5_makeLoop_20 : decode cX5_makeLoop 20 = .ok (.iaload, 1) := by decide +kernel
theorem dX5_makeLoop_21 : decode cX5_makeLoop 21 = .ok (.if_icmp .gt 5, 3) := by decide +kernel
theorem dX5_makeLoop_24 : decode cX5_makeLoop 24 = .ok (.iload_n 3, 1) := by decide +kernel
theorem dX5_makeLoop_25 : decode cX5_makeLoop 25 = .ok (.istore_n 2, 1) := by decide +kernel
theorem dX5_makeLoop_26 : decode cX5_makeLoop 26 = .ok (.iinc 3 (-1), 3) := by decide +kernel
theorem dX5_makeLoop_29 : decode cX5_makeLoop 29 = .ok (.goto (-24), 3) := by decide +kernel
theorem dX5_makeLoop_32 : decode cX5_makeLoop 32 = .ok (.bipush 7, 2) := by decide +kernel
theorem dX5_makeLoop_34 : decode cX5_makeLoop 34 = .ok (.istore_n 3, 1) := by decide +kernel
theorem dX5_makeLoop_35 : decode cX5_makeLoop 35 = .ok (.iload_n 3, 1) := by decide +kernel
theorem dX5_makeLoop_36 : decode cX5_makeLoop 36 = .ok (.ifCond .lt 20, 3) := by decide +kernel
theorem dX5_makeLoop_39 : decode cX5_makeLoop 39 = .ok (.aload_n 0, 1) := by decide +kernel
theorem dX5_makeLoop_40 : decode cX5_makeLoop 40 = .ok (.getfield 32, 3) := by decide +kernel
theorem dX5_makeLoop_43 : decode cX5_makeLoop 43 = .ok (.iload_n 3, 1) := by decide +kernel
theorem dX5_makeLoop_44 : decode cX5_makeLoop 44 = .ok (.baload, 1) := by decide +kernel
theorem dX5_makeLoop_45 : decode cX5_makeLoop 45 = .ok (.ifCond .ne 5, 3) := by decide +kernel
theorem dX5_makeLoop_48 : decode cX5_makeLoop 48 = .ok (.iload_n 3, 1) := by decide +kernel
theorem dX5_makeLoop_49 : decode cX5_makeLoop 49 = .ok (.istore_n 2, 1) := by decide +kernel
theorem dX5_makeLoop_50 : decode cX5_makeLoop 50 = .ok (.iinc 3 (-1), 3) := by decide +kernel
theorem dX5_makeLoop_53 : decode cX5_makeLoop 53 = .ok (.goto (-18), 3) := by decide +kernel
theorem dX5_makeLoop_56 : decode cX5_makeLoop 56 = .ok (.aload_n 0, 1) := by decide +kernel
theorem dX5_makeLoop_57 : decode cX5_makeLoop 57 = .ok (.getfield 32, 3) := by decide +kernel
theorem dX5_makeLoop_60 : decode cX5_makeLoop 60 = .ok (.iload_n 2, 1) := by decide +kernel
theorem dX5_makeLoop_61 : decode cX5_makeLoop 61 = .ok (.iconst 1, 1) := by decide +kernel
theorem dX5_makeLoop_62 : decode cX5_makeLoop 62 = .ok (.bastore, 1) := by decide +kernel
theorem dX5_makeLoop_63 : decode cX5_makeLoop 63 = .ok (.aload_n 0, 1) := by decide +kernel
theorem dX5_makeLoop_64 : decode cX5_makeLoop 64 = .ok (.getfield 35, 3) := by decide +kernel
theorem dX5_makeLoop_67 : decode cX5_makeLoop 67 = .ok (.iload_n 2, 1) := by decide +kernel
theorem dX5_makeLoop_68 : decode cX5_makeLoop 68 = .ok (.iload_n 1, 1) := by decide +kernel
theorem dX5_makeLoop_69 : decode cX5_makeLoop 69 = .ok (.iastore, 1) := by decide +kernel
theorem dX5_makeLoop_70 : decode cX5_makeLoop 70 = .ok (.aload_n 0, 1) := by decide +kernel
theorem dX5_makeLoop_71 : decode cX5_makeLoop 71 = .ok (.getfield 38, 3) := by decide +kernel
theorem dX5_makeLoop_74 : decode cX5_makeLoop 74 = .ok (.iload_n 2, 1) := by decide +kernel
theorem dX5_makeLoop_75 : decode cX5_makeLoop 75 = .ok (.iconst 0, 1) := by decide +kernel
theorem dX5_makeLoop_76 : decode cX5_makeLoop 76 = .ok (.iastore, 1) := by decide +kernel
theorem dX5_makeLoop_77 : decode cX5_makeLoop 77 = .ok (.aload_n 0, 1) := by decide +kernel
theorem dX5_makeLoop_78 : decode cX5_makeLoop 78 = .ok (.getfield 41, 3) := by decide +kernel
theorem dX5_makeLoop_81 : decode cX5_makeLoop 81 = .ok (.iload_n 2, 1) := by decide +kernel
theorem dX5_makeLoop_82 : decode cX5_makeLoop 82 = .ok (.iconst 0, 1) := by decide +kernel
theorem dX5_makeLoop_83 : decode cX5_makeLoop 83 = .ok (.iastore, 1) := by decide +kernel
theorem dX5_makeLoop_84 : decode cX5_makeLoop 84 = .ok (.aload_n 0, 1) := by decide +kernel
theorem dX5_makeLoop_85 : decode cX5_makeLoop 85 = .ok (.getfield 44, 3) := by decide +kernel
theorem dX5_makeLoop_88 : decode cX5_makeLoop 88 = .ok (.iload_n 2, 1) := by decide +kernel
theorem dX5_makeLoop_89 : decode cX5_makeLoop 89 = .ok (.iconst 0, 1) := by decide +kernel
theorem dX5_makeLoop_90 : decode cX5_makeLoop 90 = .ok (.iastore, 1) := by decide +kernel
theorem dX5_makeLoop_91 : decode cX5_makeLoop 91 = .ok (.return_, 1) := by decide +kernel
set_option maxRecDepth 20000 in
theorem ggX5_learn_X5_isWrong : GoodIn wsX5_learn wsX5_isWrong := goodIn_r _ [13, 8, 2, 3, 67, 68, 69, 70, 71, 72, 73, 74, 75, 76, 77, 78, 79, 80, 81, 82, 83, 84, 85, 86, 87, 88] (by decide +kernel) (by decide +kernel)
set_option maxRecDepth 20000 in
theorem gX5_learn_X5_isWrong : GoodIn wsX5_learn (wsV RX5 119 RX5 yX5_isWrong wsX5_isWrong) := goodIn_app (goodIn_of _ (by decide +kernel)) ggX5_learn_X5_isWrong
set_option maxRecDepth 20000 in
theorem ggX5_learn_X5_choiceIndex : GoodIn wsX5_learn wsX5_choiceIndex := goodIn_r _ [17, 18, 67, 68, 69, 70, 71, 72, 73, 74, 75, 76, 77, 78, 79, 80, 81, 82, 83, 84, 85, 86, 87, 88] (by decide +kernel) (by decide +kernel)
set_option maxRecDepth 20000 in
theorem gX5_learn_X5_choiceIndex : GoodIn wsX5_learn (wsV RX5 102 RX5 yX5_choiceIndex wsX5_choiceIndex) := goodIn_app (goodIn_of _ (by decide +kernel)) ggX5_learn_X5_choiceIndex
set_option maxRecDepth 20000 in
theorem ggX5_learn_X5_change : GoodIn wsX5_learn wsX5_change := goodIn_r _ [22, 23, 24, 25, 26, 27, 28, 29, 30, 67, 68, 69, 70, 71, 72, 73, 74, 75, 76, 77, 78, 79, 80, 81, 82, 83, 84, 85, 86, 87, 88] (by decide +kernel) (by decide +kernel)
set_option maxRecDepth 20000 in
theorem gX5_learn_X5_change : GoodIn wsX5_learn (wsV RX5 143 RX5 yX5_change wsX5_change) := goodIn_app (goodIn_of _ (by decide +kernel)) ggX5_learn_X5_change
set_option maxRecDepth 20000 in
theorem ggX5_learn_X5_globalIndex : GoodIn wsX5_learn wsX5_globalIndex := goodIn_r _ [34, 35, 67, 68, 69, 70, 71, 72, 73, 74, 75, 76, 77, 78, 79, 80, 81, 82, 83, 84, 85, 86, 87, 88] (by decide +kernel) (by decide +kernel)
set_option maxRecDepth 20000 in
theorem gX5_learn_X5_globalIndex : GoodIn wsX5_learn (wsV RX5 98 RX5 yX5_globalIndex wsX5_globalIndex) := goodIn_app (goodIn_of _ (by decide +kernel)) ggX5_learn_X5_globalIndex
set_option maxRecDepth 20000 in
theorem ggX5_learn_X5_plainIndex : GoodIn wsX5_learn wsX5_plainIndex := goodIn_r _ [39, 18, 67, 68, 69, 70, 71, 72, 73, 74, 75, 76, 77, 78, 79, 80, 81, 82, 83, 84, 85, 86, 87, 88] (by decide +kernel) (by decide +kernel)
set_option maxRecDepth 20000 in
theorem gX5_learn_X5_plainIndex : GoodIn wsX5_learn (wsV RX5 91 RX5 yX5_plainIndex wsX5_plainIndex) := goodIn_app (goodIn_of _ (by decide +kernel)) ggX5_learn_X5_plainIndex
set_option maxRecDepth 20000 in
theorem ggX5_learn_X5_audit : GoodIn wsX5_learn wsX5_audit := goodIn_r _ [43, 44, 45, 46, 47, 48, 12, 49, 23, 67, 68, 69, 70, 71, 72, 73, 74, 75, 76, 77, 78, 79, 80, 81, 82, 83, 84, 85, 86, 87, 88] (by decide +kernel) (by decide +kernel)
set_option maxRecDepth 20000 in
theorem gX5_learn_X5_audit : GoodIn wsX5_learn (wsV RX5 147 RX5 yX5_audit wsX5_audit) := goodIn_app (goodIn_of _ (by decide +kernel)) ggX5_learn_X5_audit
set_option maxRecDepth 20000 in
theorem ggX5_learn_X5_learnLoop : GoodIn wsX5_learn wsX5_learnLoop := goodIn_r _ [53, 54, 55, 56, 57, 24, 25, 26, 27, 58, 59, 60, 12, 61, 62, 63, 64, 65, 66, 67, 68, 69, 70, 71, 72, 73, 74, 75, 76, 77, 78, 79, 80, 81, 82, 83, 84, 85, 86, 87, 88] (by decide +kernel) (by decide +kernel)
set_option maxRecDepth 20000 in
theorem gX5_learn_X5_learnLoop : GoodIn wsX5_learn (wsV RX5 151 RX5 yX5_learnLoop wsX5_learnLoop) := goodIn_app (goodIn_of _ (by decide +kernel)) ggX5_learn_X5_learnLoop
theorem dX5_learn_0 : decode cX5_learn 0 = .ok (.aload_n 0, 1) := by decide +kernel
theorem dX5_learn_1 : decode cX5_learn 1 = .ok (.getfield 16, 3) := by decide +kernel
theorem dX5_learn_4 : decode cX5_learn 4 = .ok (.iconst 0, 1) := by decide +kernel
theorem dX5_learn_5 : decode cX5_learn 5 = .ok (.iaload, 1) := by decide +kernel
theorem dX5_learn_6 : decode cX5_learn 6 = .ok (.istore_n 1, 1) := by decide +kernel
theorem dX5_learn_7 : decode cX5_learn 7 = .ok (.aload_n 0, 1) := by decide +kernel
theorem dX5_learn_8 : decode cX5_learn 8 = .ok (.getfield 29, 3) := by decide +kernel
theorem dX5_learn_11 : decode cX5_learn 11 = .ok (.iconst 0, 1) := by decide +kernel
theorem dX5_learn_12 : decode cX5_learn 12 = .ok (.baload, 1) := by decide +kernel
theorem dX5_learn_13 : decode cX5_learn 13 = .ok (.istore_n 2, 1) := by decide +kernel
theorem dX5_learn_14 : decode cX5_learn 14 = .ok (.aload_n 0, 1) := by decide +kernel
theorem dX5_learn_15 : decode cX5_learn 15 = .ok (.iconst 0, 1) := by decide +kernel
theorem dX5_learn_16 : decode cX5_learn 16 = .ok (.invokevirtual 119, 3) := by decide +kernel
theorem dX5_learn_19 : decode cX5_learn 19 = .ok (.istore_n 3, 1) := by decide +kernel
theorem dX5_learn_20 : decode cX5_learn 20 = .ok (.aload_n 0, 1) := by decide +kernel
theorem dX5_learn_21 : decode cX5_learn 21 = .ok (.getfield 22, 3) := by decide +kernel
theorem dX5_learn_24 : decode cX5_learn 24 = .ok (.iconst 0, 1) := by decide +kernel
theorem dX5_learn_25 : decode cX5_learn 25 = .ok (.baload, 1) := by decide +kernel
theorem dX5_learn_26 : decode cX5_learn 26 = .ok (.aload_n 0, 1) := by decide +kernel
theorem dX5_learn_27 : decode cX5_learn 27 = .ok (.getfield 22, 3) := by decide +kernel
theorem dX5_learn_30 : decode cX5_learn 30 = .ok (.iconst 1, 1) := by decide +kernel
theorem dX5_learn_31 : decode cX5_learn 31 = .ok (.baload, 1) := by decide +kernel
theorem dX5_learn_32 : decode cX5_learn 32 = .ok (.if_icmp .eq 27, 3) := by decide +kernel
theorem dX5_learn_35 : decode cX5_learn 35 = .ok (.aload_n 0, 1) := by decide +kernel
theorem dX5_learn_36 : decode cX5_learn 36 = .ok (.aload_n 0, 1) := by decide +kernel
theorem dX5_learn_37 : decode cX5_learn 37 = .ok (.iload_n 1, 1) := by decide +kernel
theorem dX5_learn_38 : decode cX5_learn 38 = .ok (.invokevirtual 102, 3) := by decide +kernel
theorem dX5_learn_41 : decode cX5_learn 41 = .ok (.aload_n 0, 1) := by decide +kernel
theorem dX5_learn_42 : decode cX5_learn 42 = .ok (.getfield 22, 3) := by decide +kernel
theorem dX5_learn_45 : decode cX5_learn 45 = .ok (.iconst 1, 1) := by decide +kernel
theorem dX5_learn_46 : decode cX5_learn 46 = .ok (.baload, 1) := by decide +kernel
theorem dX5_learn_47 : decode cX5_learn 47 = .ok (.iload_n 2, 1) := by decide +kernel
theorem dX5_learn_48 : decode cX5_learn 48 = .ok (.if_icmp .ne 7, 3) := by decide +kernel
theorem dX5_learn_51 : decode cX5_learn 51 = .ok (.iconst 1, 1) := by decide +kernel
theorem dX5_learn_52 : decode cX5_learn 52 = .ok (.goto 4, 3) := by decide +kernel
theorem dX5_learn_55 : decode cX5_learn 55 = .ok (.iconst 0, 1) := by decide +kernel
theorem dX5_learn_56 : decode cX5_learn 56 = .ok (.invokevirtual 143, 3) := by decide +kernel
theorem dX5_learn_59 : decode cX5_learn 59 = .ok (.aload_n 0, 1) := by decide +kernel
theorem dX5_learn_60 : decode cX5_learn 60 = .ok (.iload_n 1, 1) := by decide +kernel
theorem dX5_learn_61 : decode cX5_learn 61 = .ok (.aload_n 0, 1) := by decide +kernel
theorem dX5_learn_62 : decode cX5_learn 62 = .ok (.getfield 19, 3) := by decide +kernel
theorem dX5_learn_65 : decode cX5_learn 65 = .ok (.iconst 0, 1) := by decide +kernel
theorem dX5_learn_66 : decode cX5_learn 66 = .ok (.iaload, 1) := by decide +kernel
theorem dX5_learn_67 : decode cX5_learn 67 = .ok (.invokevirtual 98, 3) := by decide +kernel
theorem dX5_learn_70 : decode cX5_learn 70 = .ok (.istore 4, 2) := by decide +kernel
theorem dX5_learn_72 : decode cX5_learn 72 = .ok (.aload_n 0, 1) := by decide +kernel
theorem dX5_learn_73 : decode cX5_learn 73 = .ok (.iconst 0, 1) := by decide +kernel
theorem dX5_learn_74 : decode cX5_learn 74 = .ok (.aload_n 0, 1) := by decide +kernel
theorem dX5_learn_75 : decode cX5_learn 75 = .ok (.iload_n 1, 1) := by decide +kernel
theorem dX5_learn_76 : decode cX5_learn 76 = .ok (.invokevirtual 91, 3) := by decide +kernel
theorem dX5_learn_79 : decode cX5_learn 79 = .ok (.iload_n 1, 1) := by decide +kernel
theorem dX5_learn_80 : decode cX5_learn 80 = .ok (.iload_n 2, 1) := by decide +kernel
theorem dX5_learn_81 : decode cX5_learn 81 = .ok (.invokevirtual 147, 3) := by decide +kernel
theorem dX5_learn_84 : decode cX5_learn 84 = .ok (.aload_n 0, 1) := by decide +kernel
theorem dX5_learn_85 : decode cX5_learn 85 = .ok (.iconst 1, 1) := by decide +kernel
theorem dX5_learn_86 : decode cX5_learn 86 = .ok (.iload 4, 2) := by decide +kernel
theorem dX5_learn_88 : decode cX5_learn 88 = .ok (.iload_n 1, 1) := by decide +kernel
theorem dX5_learn_89 : decode cX5_learn 89 = .ok (.iload_n 2, 1) := by decide +kernel
theorem dX5_learn_90 : decode cX5_learn 90 = .ok (.invokevirtual 147, 3) := by decide +kernel
theorem dX5_learn_93 : decode cX5_learn 93 = .ok (.aload_n 0, 1) := by decide +kernel
theorem dX5_learn_94 : decode cX5_learn 94 = .ok (.aload_n 0, 1) := by decide +kernel
theorem dX5_learn_95 : decode cX5_learn 95 = .ok (.iload_n 1, 1) := by decide +kernel
theorem dX5_learn_96 : decode cX5_learn 96 = .ok (.invokevirtual 91, 3) := by decide +kernel
theorem dX5_learn_99 : decode cX5_learn 99 = .ok (.iload_n 2, 1) := by decide +kernel
theorem dX5_learn_100 : decode cX5_learn 100 = .ok (.invokevirtual 143, 3) := by decide +kernel
theorem dX5_learn_103 : decode cX5_learn 103 = .ok (.aload_n 0, 1) := by decide +kernel
theorem dX5_learn_104 : decode cX5_learn 104 = .ok (.iload 4, 2) := by decide +kernel
theorem dX5_learn_106 : decode cX5_learn 106 = .ok (.iload_n 2, 1) := by decide +kernel
theorem dX5_learn_107 : decode cX5_learn 107 = .ok (.invokevirtual 143, 3) := by decide +kernel
theorem dX5_learn_110 : decode cX5_learn 110 = .ok (.aload_n 0, 1) := by decide +kernel
theorem dX5_learn_111 : decode cX5_learn 111 = .ok (.iload_n 1, 1) := by decide +kernel
theorem dX5_learn_112 : decode cX5_learn 112 = .ok (.iload_n 2, 1) := by decide +kernel
theorem dX5_learn_113 : decode cX5_learn 113 = .ok (.iload_n 3, 1) := by decide +kernel
theorem dX5_learn_114 : decode cX5_learn 114 = .ok (.invokevirtual 151, 3) := by decide +kernel
theorem dX5_learn_117 : decode cX5_learn 117 = .ok (.iconst 0, 1) := by decide +kernel
theorem dX5_learn_118 : decode cX5_learn 118 = .ok (.istore 5, 2) := by decide +kernel
theorem dX5_learn_120 : decode cX5_learn 120 = .ok (.iload 5, 2) := by decide +kernel
theorem dX5_learn_122 : decode cX5_learn 122 = .ok (.iconst 4, 1) := by decide +kernel
theorem dX5_learn_123 : decode cX5_learn 123 = .ok (.if_icmp .ge 35, 3) := by decide +kernel
theorem dX5_learn_126 : decode cX5_learn 126 = .ok (.aload_n 0, 1) := by decide +kernel
theorem dX5_learn_127 : decode cX5_learn 127 = .ok (.getfield 47, 3) := by decide +kernel
theorem dX5_learn_130 : decode cX5_learn 130 = .ok (.iload 5, 2) := by decide +kernel
theorem dX5_learn_132 : decode cX5_learn 132 = .ok (.dup2, 1) := by decide +kernel
theorem dX5_learn_133 : decode cX5_learn 133 = .ok (.laload, 1) := by decide +kernel
theorem dX5_learn_134 : decode cX5_learn 134 = .ok (.aload_n 0, 1) := by decide +kernel
theorem dX5_learn_135 : decode cX5_learn 135 = .ok (.getfield 22, 3) := by decide +kernel
theorem dX5_learn_138 : decode cX5_learn 138 = .ok (.iload 5, 2) := by decide +kernel
theorem dX5_learn_140 : decode cX5_learn 140 = .ok (.baload, 1) := by decide +kernel
theorem dX5_learn_141 : decode cX5_learn 141 = .ok (.iload_n 2, 1) := by decide +kernel
theorem dX5_learn_142 : decode cX5_learn 142 = .ok (.if_icmp .ne 7, 3) := by decide +kernel
theorem dX5_learn_145 : decode cX5_learn 145 = .ok (.lconst 0, 1) := by decide +kernel
theorem dX5_learn_146 : decode cX5_learn 146 = .ok (.goto 4, 3) := by decide +kernel
theorem dX5_learn_149 : decode cX5_learn 149 = .ok (.lconst 1, 1) := by decide +kernel
theorem dX5_learn_150 : decode cX5_learn 150 = .ok (.ladd, 1) := by decide +kernel
theorem dX5_learn_151 : decode cX5_learn 151 = .ok (.lastore, 1) := by decide +kernel
theorem dX5_learn_152 : decode cX5_learn 152 = .ok (.iinc 5 1, 3) := by decide +kernel
theorem dX5_learn_155 : decode cX5_learn 155 = .ok (.goto (-35), 3) := by decide +kernel
theorem dX5_learn_158 : decode cX5_learn 158 = .ok (.aload_n 0, 1) := by decide +kernel
theorem dX5_learn_159 : decode cX5_learn 159 = .ok (.dup, 1) := by decide +kernel
theorem dX5_learn_160 : decode cX5_learn 160 = .ok (.getfield 77, 3) := by decide +kernel
theorem dX5_learn_163 : decode cX5_learn 163 = .ok (.lconst 1, 1) := by decide +kernel
theorem dX5_learn_164 : decode cX5_learn 164 = .ok (.ladd, 1) := by decide +kernel
theorem dX5_learn_165 : decode cX5_learn 165 = .ok (.putfield 77, 3) := by decide +kernel
theorem dX5_learn_168 : decode cX5_learn 168 = .ok (.aload_n 0, 1) := by decide +kernel
theorem dX5_learn_169 : decode cX5_learn 169 = .ok (.dup, 1) := by decide +kernel
theorem dX5_learn_170 : decode cX5_learn 170 = .ok (.getfield 74, 3) := by decide +kernel
theorem dX5_learn_173 : decode cX5_learn 173 = .ok (.iconst 1, 1) := by decide +kernel
theorem dX5_learn_174 : decode cX5_learn 174 = .ok (.isub, 1) := by decide +kernel
theorem dX5_learn_175 : decode cX5_learn 175 = .ok (.putfield 74, 3) := by decide +kernel
theorem dX5_learn_178 : decode cX5_learn 178 = .ok (.iconst 0, 1) := by decide +kernel
theorem dX5_learn_179 : decode cX5_learn 179 = .ok (.istore 5, 2) := by decide +kernel
theorem dX5_learn_181 : decode cX5_learn 181 = .ok (.iload 5, 2) := by decide +kernel
theorem dX5_learn_183 : decode cX5_learn 183 = .ok (.aload_n 0, 1) := by decide +kernel
theorem dX5_learn_184 : decode cX5_learn 184 = .ok (.getfield 74, 3) := by decide +kernel
theorem dX5_learn_187 : decode cX5_learn 187 = .ok (.if_icmp .ge 73, 3) := by decide +kernel
theorem dX5_learn_190 : decode cX5_learn 190 = .ok (.aload_n 0, 1) := by decide +kernel
theorem dX5_learn_191 : decode cX5_learn 191 = .ok (.getfield 16, 3) := by decide +kernel
theorem dX5_learn_194 : decode cX5_learn 194 = .ok (.iload 5, 2) := by decide +kernel
theorem dX5_learn_196 : decode cX5_learn 196 = .ok (.aload_n 0, 1) := by decide +kernel
theorem dX5_learn_197 : decode cX5_learn 197 = .ok (.getfield 16, 3) := by decide +kernel
theorem dX5_learn_200 : decode cX5_learn 200 = .ok (.iload 5, 2) := by decide +kernel
theorem dX5_learn_202 : decode cX5_learn 202 = .ok (.iconst 1, 1) := by decide +kernel
theorem dX5_learn_203 : decode cX5_learn 203 = .ok (.iadd, 1) := by decide +kernel
theorem dX5_learn_204 : decode cX5_learn 204 = .ok (.iaload, 1) := by decide +kernel
theorem dX5_learn_205 : decode cX5_learn 205 = .ok (.iastore, 1) := by decide +kernel
theorem dX5_learn_206 : decode cX5_learn 206 = .ok (.aload_n 0, 1) := by decide +kernel
theorem dX5_learn_207 : decode cX5_learn 207 = .ok (.getfield 19, 3) := by decide +kernel
theorem dX5_learn_210 : decode cX5_learn 210 = .ok (.iload 5, 2) := by decide +kernel
theorem dX5_learn_212 : decode cX5_learn 212 = .ok (.aload_n 0, 1) := by decide +kernel
theorem dX5_learn_213 : decode cX5_learn 213 = .ok (.getfield 19, 3) := by decide +kernel
theorem dX5_learn_216 : decode cX5_learn 216 = .ok (.iload 5, 2) := by decide +kernel
theorem dX5_learn_218 : decode cX5_learn 218 = .ok (.iconst 1, 1) := by decide +kernel
theorem dX5_learn_219 : decode cX5_learn 219 = .ok (.iadd, 1) := by decide +kernel
theorem dX5_learn_220 : decode cX5_learn 220 = .ok (.iaload, 1) := by decide +kernel
theorem dX5_learn_221 : decode cX5_learn 221 = .ok (.iastore, 1) := by decide +kernel
theorem dX5_learn_222 : decode cX5_learn 222 = .ok (.aload_n 0, 1) := by decide +kernel
theorem dX5_learn_223 : decode cX5_learn 223 = .ok (.getfield 26, 3) := by decide +kernel
theorem dX5_learn_226 : decode cX5_learn 226 = .ok (.iload 5, 2) := by decide +kernel
theorem dX5_learn_228 : decode cX5_learn 228 = .ok (.aload_n 0, 1) := by decide +kernel
theorem dX5_learn_229 : decode cX5_learn 229 = .ok (.getfield 26, 3) := by decide +kernel
theorem dX5_learn_232 : decode cX5_learn 232 = .ok (.iload 5, 2) := by decide +kernel
theorem dX5_learn_234 : decode cX5_learn 234 = .ok (.iconst 1, 1) := by decide +kernel
theorem dX5_learn_235 : decode cX5_learn 235 = .ok (.iadd, 1) := by decide +kernel
theorem dX5_learn_236 : decode cX5_learn 236 = .ok (.baload, 1) := by decide +kernel
theorem dX5_learn_237 : decode cX5_learn 237 = .ok (.bastore, 1) := by decide +kernel
theorem dX5_learn_238 : decode cX5_learn 238 = .ok (.aload_n 0, 1) := by decide +kernel
theorem dX5_learn_239 : decode cX5_learn 239 = .ok (.getfield 29, 3) := by decide +kernel
theorem dX5_learn_242 : decode cX5_learn 242 = .ok (.iload 5, 2) := by decide +kernel
theorem dX5_learn_244 : decode cX5_learn 244 = .ok (.aload_n 0, 1) := by decide +kernel
theorem dX5_learn_245 : decode cX5_learn 245 = .ok (.getfield 29, 3) := by decide +kernel
theorem dX5_learn_248 : decode cX5_learn 248 = .ok (.iload 5, 2) := by decide +kernel
theorem dX5_learn_250 : decode cX5_learn 250 = .ok (.iconst 1, 1) := by decide +kernel
theorem dX5_learn_251 : decode cX5_learn 251 = .ok (.iadd, 1) := by decide +kernel
theorem dX5_learn_252 : decode cX5_learn 252 = .ok (.baload, 1) := by decide +kernel
theorem dX5_learn_253 : decode cX5_learn 253 = .ok (.bastore, 1) := by decide +kernel
theorem dX5_learn_254 : decode cX5_learn 254 = .ok (.iinc 5 1, 3) := by decide +kernel
theorem dX5_learn_257 : decode cX5_learn 257 = .ok (.goto (-76), 3) := by decide +kernel
theorem dX5_learn_260 : decode cX5_learn 260 = .ok (.iconst 0, 1) := by decide +kernel
theorem dX5_learn_261 : decode cX5_learn 261 = .ok (.istore 5, 2) := by decide +kernel
theorem dX5_learn_263 : decode cX5_learn 263 = .ok (.iload 5, 2) := by decide +kernel
theorem dX5_learn_265 : decode cX5_learn 265 = .ok (.iconst 4, 1) := by decide +kernel
theorem dX5_learn_266 : decode cX5_learn 266 = .ok (.aload_n 0, 1) := by decide +kernel
theorem dX5_learn_267 : decode cX5_learn 267 = .ok (.getfield 74, 3) := by decide +kernel
theorem dX5_learn_270 : decode cX5_learn 270 = .ok (.imul, 1) := by decide +kernel
theorem dX5_learn_271 : decode cX5_learn 271 = .ok (.if_icmp .ge 25, 3) := by decide +kernel
theorem dX5_learn_274 : decode cX5_learn 274 = .ok (.aload_n 0, 1) := by decide +kernel
theorem dX5_learn_275 : decode cX5_learn 275 = .ok (.getfield 22, 3) := by decide +kernel
theorem dX5_learn_278 : decode cX5_learn 278 = .ok (.iload 5, 2) := by decide +kernel
theorem dX5_learn_280 : decode cX5_learn 280 = .ok (.aload_n 0, 1) := by decide +kernel
theorem dX5_learn_281 : decode cX5_learn 281 = .ok (.getfield 22, 3) := by decide +kernel
theorem dX5_learn_284 : decode cX5_learn 284 = .ok (.iload 5, 2) := by decide +kernel
theorem dX5_learn_286 : decode cX5_learn 286 = .ok (.iconst 4, 1) := by decide +kernel
theorem dX5_learn_287 : decode cX5_learn 287 = .ok (.iadd, 1) := by decide +kernel
theorem dX5_learn_288 : decode cX5_learn 288 = .ok (.baload, 1) := by decide +kernel
theorem dX5_learn_289 : decode cX5_learn 289 = .ok (.bastore, 1) := by decide +kernel
theorem dX5_learn_290 : decode cX5_learn 290 = .ok (.iinc 5 1, 3) := by decide +kernel
theorem dX5_learn_293 : decode cX5_learn 293 = .ok (.goto (-30), 3) := by decide +kernel
theorem dX5_learn_296 : decode cX5_learn 296 = .ok (.iload_n 3, 1) := by decide +kernel
theorem dX5_learn_297 : decode cX5_learn 297 = .ok (.ireturn, 1) := by decide +kernel
set_option maxRecDepth 20000 in
theorem ggX5_commit_X5_learn : GoodIn wsX5_commit wsX5_learn := goodIn_r _ [8, 9, 10, 11, 12, 13, 14, 2, 3, 15, 16, 17, 7, 18, 19, 20, 21, 22, 23, 24, 25, 26, 27, 28, 29, 30, 31, 32, 33, 34, 35, 36, 37, 38, 39, 40, 41, 42, 43, 44, 45, 46, 47, 48, 49, 50, 51, 52, 53, 54, 55, 56, 57, 58, 59, 60, 61, 62, 63, 64, 65, 66, 67, 68, 69, 70, 71, 76, 77, 78, 79, 80, 81, 82, 83, 84, 85, 86, 87, 88, 89, 90, 91, 92, 93, 94, 95, 96, 97] (by decide +kernel) (by decide +kernel)
set_option maxRecDepth 20000 in
theorem gX5_commit_X5_learn : GoodIn wsX5_commit (wsV RX5 155 RX5 yX5_learn wsX5_learn) := goodIn_app (goodIn_of _ (by decide +kernel)) ggX5_commit_X5_learn
set_option maxRecDepth 20000 in
theorem ggX5_commit_X5_failed : GoodIn wsX5_commit wsX5_failed := goodIn_r _ [75, 1, 76, 77, 78, 79, 80, 81, 82, 83, 84, 85, 86, 87, 88, 89, 90, 91, 92, 93, 94, 95, 96, 97] (by decide +kernel) (by decide +kernel)
set_option maxRecDepth 20000 in
theorem gX5_commit_X5_failed : GoodIn wsX5_commit (wsV RX5 84 RX5 yX5_failed wsX5_failed) := goodIn_app (goodIn_of _ (by decide +kernel)) ggX5_commit_X5_failed
theorem dX5_commit_0 : decode cX5_commit 0 = .ok (.aload_n 0, 1) := by decide +kernel
theorem dX5_commit_1 : decode cX5_commit 1 = .ok (.iconst 0, 1) := by decide +kernel
theorem dX5_commit_2 : decode cX5_commit 2 = .ok (.putfield 58, 3) := by decide +kernel
theorem dX5_commit_5 : decode cX5_commit 5 = .ok (.aload_n 0, 1) := by decide +kernel
theorem dX5_commit_6 : decode cX5_commit 6 = .ok (.getfield 74, 3) := by decide +kernel
theorem dX5_commit_9 : decode cX5_commit 9 = .ok (.ifCond .le 19, 3) := by decide +kernel
theorem dX5_commit_12 : decode cX5_commit 12 = .ok (.aload_n 0, 1) := by decide +kernel
theorem dX5_commit_13 : decode cX5_commit 13 = .ok (.getfield 26, 3) := by decide +kernel
theorem dX5_commit_16 : decode cX5_commit 16 = .ok (.iconst 0, 1) := by decide +kernel
theorem dX5_commit_17 : decode cX5_commit 17 = .ok (.baload, 1) := by decide +kernel
theorem dX5_commit_18 : decode cX5_commit 18 = .ok (.ifCond .eq 10, 3) := by decide +kernel
theorem dX5_commit_21 : decode cX5_commit 21 = .ok (.aload_n 0, 1) := by decide +kernel
theorem dX5_commit_22 : decode cX5_commit 22 = .ok (.invokevirtual 155, 3) := by decide +kernel
theorem dX5_commit_25 : decode cX5_commit 25 = .ok (.goto 8, 3) := by decide +kernel
theorem dX5_commit_28 : decode cX5_commit 28 = .ok (.aload_n 0, 1) := by decide +kernel
theorem dX5_commit_29 : decode cX5_commit 29 = .ok (.iconst 1, 1) := by decide +kernel
theorem dX5_commit_30 : decode cX5_commit 30 = .ok (.invokevirtual 84, 3) := by decide +kernel
theorem dX5_commit_33 : decode cX5_commit 33 = .ok (.ireturn, 1) := by decide +kernel
set_option maxRecDepth 20000 in
theorem ggX5_train_X5_failed : GoodIn wsX5_train wsX5_failed := goodIn_r _ [8, 1, 100, 101, 102, 103, 104, 105, 106, 107, 108, 109, 110, 111, 112, 113, 114, 115, 116, 117, 118, 119, 120, 121] (by decide +kernel) (by decide +kernel)
set_option maxRecDepth 20000 in
theorem gX5_train_X5_failed : GoodIn wsX5_train (wsV RX5 84 RX5 yX5_failed wsX5_failed) := goodIn_app (goodIn_of _ (by decide +kernel)) ggX5_train_X5_failed
set_option maxRecDepth 20000 in
theorem ggX5_train_X5_add : GoodIn wsX5_train wsX5_add := goodIn_r _ [12, 3, 13, 14, 15, 16, 17, 18, 19, 20, 21, 22, 7, 23, 24, 25, 26, 27, 28, 29, 30, 31, 32, 33, 34, 35, 36, 37, 38, 39, 40, 41, 42, 43, 44, 45, 46, 47, 48, 49, 50, 51, 52, 53, 54, 55, 56, 57, 58, 59, 100, 101, 102, 103, 104, 105, 106, 107, 108, 109, 110, 111, 112, 113, 114, 115, 116, 117, 118, 119, 120, 121] (by decide +kernel) (by decide +kernel)
set_option maxRecDepth 20000 in
theorem gX5_train_X5_add : GoodIn wsX5_train (wsV RX5 116 RX5 yX5_add wsX5_add) := goodIn_app (goodIn_of _ (by decide +kernel)) ggX5_train_X5_add
set_option maxRecDepth 20000 in
theorem ggX5_train_X5_settle : GoodIn wsX5_train wsX5_settle := goodIn_r _ [63, 19, 54, 3, 64, 18, 14, 65, 66, 67, 7, 68, 13, 55, 56, 57, 58, 59, 100, 101, 102, 103, 104, 105, 106, 107, 108, 109, 110, 111, 112, 113, 114, 115, 116, 117, 118, 119, 120, 121] (by decide +kernel) (by decide +kernel)
set_option maxRecDepth 20000 in
theorem gX5_train_X5_settle : GoodIn wsX5_train (wsV RX5 128 RX5 yX5_settle wsX5_settle) := goodIn_app (goodIn_of _ (by decide +kernel)) ggX5_train_X5_settle
set_option maxRecDepth 20000 in
theorem ggX5_train_X5_learn : GoodIn wsX5_train wsX5_learn := goodIn_r _ [72, 17, 54, 13, 18, 73, 74, 3, 19, 65, 66, 67, 7, 68, 35, 36, 37, 38, 24, 75, 76, 77, 78, 29, 79, 80, 81, 82, 83, 84, 85, 30, 31, 32, 33, 34, 20, 21, 22, 23, 86, 87, 88, 89, 90, 91, 25, 26, 27, 28, 92, 93, 94, 95, 49, 43, 16, 15, 39, 40, 41, 42, 44, 96, 97, 98, 99, 100, 101, 102, 103, 104, 105, 106, 107, 108, 109, 110, 111, 112, 113, 114, 115, 116, 117, 118, 119, 120, 121] (by decide +kernel) (by decide +kernel)
set_option maxRecDepth 20000 in
theorem gX5_train_X5_learn : GoodIn wsX5_train (wsV RX5 155 RX5 yX5_learn wsX5_learn) := goodIn_app (goodIn_of _ (by decide +kernel)) ggX5_train_X5_learn
theorem dX5_train_0 : decode cX5_train 0 = .ok (.aload_n 0, 1) := by decide +kernel
theorem dX5_train_1 : decode cX5_train 1 = .ok (.iconst 0, 1) := by decide +kernel
theorem dX5_train_2 : decode cX5_train 2 = .ok (.putfield 58, 3) := by decide +kernel
theorem dX5_train_5 : decode cX5_train 5 = .ok (.iload_n 1, 1) := by decide +kernel
theorem dX5_train_6 : decode cX5_train 6 = .ok (.ifCond .lt 9, 3) := by decide +kernel
theorem dX5_train_9 : decode cX5_train 9 = .ok (.iload_n 1, 1) := by decide +kernel
theorem dX5_train_10 : decode cX5_train 10 = .ok (.ldc 115, 2) := by decide +kernel
theorem dX5_train_12 : decode cX5_train 12 = .ok (.if_icmp .lt 9, 3) := by decide +kernel
theorem dX5_train_15 : decode cX5_train 15 = .ok (.aload_n 0, 1) := by decide +kernel
theorem dX5_train_16 : decode cX5_train 16 = .ok (.iconst 1, 1) := by decide +kernel
theorem dX5_train_17 : decode cX5_train 17 = .ok (.invokevirtual 84, 3) := by decide +kernel
theorem dX5_train_20 : decode cX5_train 20 = .ok (.ireturn, 1) := by decide +kernel
theorem dX5_train_21 : decode cX5_train 21 = .ok (.aload_n 0, 1) := by decide +kernel
theorem dX5_train_22 : decode cX5_train 22 = .ok (.getfield 74, 3) := by decide +kernel
theorem dX5_train_25 : decode cX5_train 25 = .ok (.ifCond .le 9, 3) := by decide +kernel
theorem dX5_train_28 : decode cX5_train 28 = .ok (.aload_n 0, 1) := by decide +kernel
theorem dX5_train_29 : decode cX5_train 29 = .ok (.iconst 2, 1) := by decide +kernel
theorem dX5_train_30 : decode cX5_train 30 = .ok (.invokevirtual 84, 3) := by decide +kernel
theorem dX5_train_33 : decode cX5_train 33 = .ok (.ireturn, 1) := by decide +kernel
theorem dX5_train_34 : decode cX5_train 34 = .ok (.aload_n 0, 1) := by decide +kernel
theorem dX5_train_35 : decode cX5_train 35 = .ok (.iload_n 1, 1) := by decide +kernel
theorem dX5_train_36 : decode cX5_train 36 = .ok (.invokevirtual 116, 3) := by decide +kernel
theorem dX5_train_39 : decode cX5_train 39 = .ok (.pop, 1) := by decide +kernel
theorem dX5_train_40 : decode cX5_train 40 = .ok (.aload_n 0, 1) := by decide +kernel
theorem dX5_train_41 : decode cX5_train 41 = .ok (.iconst 0, 1) := by decide +kernel
theorem dX5_train_42 : decode cX5_train 42 = .ok (.iload_n 2, 1) := by decide +kernel
theorem dX5_train_43 : decode cX5_train 43 = .ok (.invokevirtual 128, 3) := by decide +kernel
theorem dX5_train_46 : decode cX5_train 46 = .ok (.pop, 1) := by decide +kernel
theorem dX5_train_47 : decode cX5_train 47 = .ok (.aload_n 0, 1) := by decide +kernel
theorem dX5_train_48 : decode cX5_train 48 = .ok (.invokevirtual 155, 3) := by decide +kernel
theorem dX5_train_51 : decode cX5_train 51 = .ok (.ifCond .ne 7, 3) := by decide +kernel
theorem dX5_train_54 : decode cX5_train 54 = .ok (.iconst 1, 1) := by decide +kernel
theorem dX5_train_55 : decode cX5_train 55 = .ok (.goto 4, 3) := by decide +kernel
theorem dX5_train_58 : decode cX5_train 58 = .ok (.iconst 0, 1) := by decide +kernel
theorem dX5_train_59 : decode cX5_train 59 = .ok (.ireturn, 1) := by decide +kernel
set_option maxRecDepth 20000 in
theorem ggX5_flush_X5_fail : GoodIn wsX5_flush wsX5_fail := goodIn_r _ [10, 1, 11, 12, 13, 14, 15, 16, 17, 18, 19, 20, 21, 22, 23, 24, 25, 26, 27, 28, 29, 30, 31, 32] (by decide +kernel) (by decide +kernel)
set_option maxRecDepth 20000 in
theorem gX5_flush_X5_fail : GoodIn wsX5_flush (wsV RX5 125 RX5 yX5_fail wsX5_fail) := goodIn_app (goodIn_of _ (by decide +kernel)) ggX5_flush_X5_fail
theorem dX5_flush_0 : decode cX5_flush 0 = .ok (.aload_n 0, 1) := by decide +kernel
theorem dX5_flush_1 : decode cX5_flush 1 = .ok (.iconst 0, 1) := by decide +kernel
theorem dX5_flush_2 : decode cX5_flush 2 = .ok (.putfield 58, 3) := by decide +kernel
theorem dX5_flush_5 : decode cX5_flush 5 = .ok (.iload_n 1, 1) := by decide +kernel
theorem dX5_flush_6 : decode cX5_flush 6 = .ok (.ifCond .lt 11, 3) := by decide +kernel
theorem dX5_flush_9 : decode cX5_flush 9 = .ok (.iload_n 1, 1) := by decide +kernel
theorem dX5_flush_10 : decode cX5_flush 10 = .ok (.aload_n 0, 1) := by decide +kernel
theorem dX5_flush_11 : decode cX5_flush 11 = .ok (.getfield 74, 3) := by decide +kernel
theorem dX5_flush_14 : decode cX5_flush 14 = .ok (.if_icmp .le 9, 3) := by decide +kernel
theorem dX5_flush_17 : decode cX5_flush 17 = .ok (.aload_n 0, 1) := by decide +kernel
theorem dX5_flush_18 : decode cX5_flush 18 = .ok (.iconst 1, 1) := by decide +kernel
theorem dX5_flush_19 : decode cX5_flush 19 = .ok (.invokevirtual 125, 3) := by decide +kernel
theorem dX5_flush_22 : decode cX5_flush 22 = .ok (.ireturn, 1) := by decide +kernel
theorem dX5_flush_23 : decode cX5_flush 23 = .ok (.aload_n 0, 1) := by decide +kernel
theorem dX5_flush_24 : decode cX5_flush 24 = .ok (.dup, 1) := by decide +kernel
theorem dX5_flush_25 : decode cX5_flush 25 = .ok (.getfield 74, 3) := by decide +kernel
theorem dX5_flush_28 : decode cX5_flush 28 = .ok (.iload_n 1, 1) := by decide +kernel
theorem dX5_flush_29 : decode cX5_flush 29 = .ok (.isub, 1) := by decide +kernel
theorem dX5_flush_30 : decode cX5_flush 30 = .ok (.putfield 74, 3) := by decide +kernel
theorem dX5_flush_33 : decode cX5_flush 33 = .ok (.aload_n 0, 1) := by decide +kernel
theorem dX5_flush_34 : decode cX5_flush 34 = .ok (.dup, 1) := by decide +kernel
theorem dX5_flush_35 : decode cX5_flush 35 = .ok (.getfield 81, 3) := by decide +kernel
theorem dX5_flush_38 : decode cX5_flush 38 = .ok (.iload_n 1, 1) := by decide +kernel
theorem dX5_flush_39 : decode cX5_flush 39 = .ok (.i2l, 1) := by decide +kernel
theorem dX5_flush_40 : decode cX5_flush 40 = .ok (.ladd, 1) := by decide +kernel
theorem dX5_flush_41 : decode cX5_flush 41 = .ok (.putfield 81, 3) := by decide +kernel
theorem dX5_flush_44 : decode cX5_flush 44 = .ok (.iload_n 1, 1) := by decide +kernel
theorem dX5_flush_45 : decode cX5_flush 45 = .ok (.ifCond .le 16, 3) := by decide +kernel
theorem dX5_flush_48 : decode cX5_flush 48 = .ok (.aload_n 0, 1) := by decide +kernel
theorem dX5_flush_49 : decode cX5_flush 49 = .ok (.aload_n 0, 1) := by decide +kernel
theorem dX5_flush_50 : decode cX5_flush 50 = .ok (.getfield 19, 3) := by decide +kernel
theorem dX5_flush_53 : decode cX5_flush 53 = .ok (.aload_n 0, 1) := by decide +kernel
theorem dX5_flush_54 : decode cX5_flush 54 = .ok (.getfield 74, 3) := by decide +kernel
theorem dX5_flush_57 : decode cX5_flush 57 = .ok (.iaload, 1) := by decide +kernel
theorem dX5_flush_58 : decode cX5_flush 58 = .ok (.putfield 71, 3) := by decide +kernel
theorem dX5_flush_61 : decode cX5_flush 61 = .ok (.aload_n 0, 1) := by decide +kernel
theorem dX5_flush_62 : decode cX5_flush 62 = .ok (.getfield 74, 3) := by decide +kernel
theorem dX5_flush_65 : decode cX5_flush 65 = .ok (.ireturn, 1) := by decide +kernel
theorem dX5_inFlight_0 : decode cX5_inFlight 0 = .ok (.aload_n 0, 1) := by decide +kernel
theorem dX5_inFlight_1 : decode cX5_inFlight 1 = .ok (.iconst 0, 1) := by decide +kernel
theorem dX5_inFlight_2 : decode cX5_inFlight 2 = .ok (.putfield 58, 3) := by decide +kernel
theorem dX5_inFlight_5 : decode cX5_inFlight 5 = .ok (.aload_n 0, 1) := by decide +kernel
theorem dX5_inFlight_6 : decode cX5_inFlight 6 = .ok (.getfield 74, 3) := by decide +kernel
theorem dX5_inFlight_9 : decode cX5_inFlight 9 = .ok (.ireturn, 1) := by decide +kernel
set_option maxRecDepth 20000 in
theorem ggX5_place_X5_isFlying : GoodIn wsX5_place wsX5_isFlying := goodIn_r _ [7, 8, 13, 14, 15, 16, 17, 18, 19, 20, 21, 22, 23, 24, 25, 26, 27, 28, 29, 30, 31, 32, 33, 34] (by decide +kernel) (by decide +kernel)
set_option maxRecDepth 20000 in
theorem gX5_place_X5_isFlying : GoodIn wsX5_place (wsV RX5 122 RX5 yX5_isFlying wsX5_isFlying) := goodIn_app (goodIn_of _ (by decide +kernel)) ggX5_place_X5_isFlying
set_option maxRecDepth 20000 in
theorem ggX5_place_X5_fail : GoodIn wsX5_place wsX5_fail := goodIn_r _ [12, 1, 13, 14, 15, 16, 17, 18, 19, 20, 21, 22, 23, 24, 25, 26, 27, 28, 29, 30, 31, 32, 33, 34] (by decide +kernel) (by decide +kernel)
set_option maxRecDepth 20000 in
theorem gX5_place_X5_fail : GoodIn wsX5_place (wsV RX5 125 RX5 yX5_fail wsX5_fail) := goodIn_app (goodIn_of _ (by decide +kernel)) ggX5_place_X5_fail
theorem dX5_place_0 : decode cX5_place 0 = .ok (.aload_n 0, 1) := by decide +kernel
theorem dX5_place_1 : decode cX5_place 1 = .ok (.iconst 0, 1) := by decide +kernel
theorem dX5_place_2 : decode cX5_place 2 = .ok (.putfield 58, 3) := by decide +kernel
theorem dX5_place_5 : decode cX5_place 5 = .ok (.aload_n 0, 1) := by decide +kernel
theorem dX5_place_6 : decode cX5_place 6 = .ok (.iload_n 1, 1) := by decide +kernel
theorem dX5_place_7 : decode cX5_place 7 = .ok (.invokevirtual 122, 3) := by decide +kernel
theorem dX5_place_10 : decode cX5_place 10 = .ok (.ifCond .eq 12, 3) := by decide +kernel
theorem dX5_place_13 : decode cX5_place 13 = .ok (.aload_n 0, 1) := by decide +kernel
theorem dX5_place_14 : decode cX5_place 14 = .ok (.getfield 16, 3) := by decide +kernel
theorem dX5_place_17 : decode cX5_place 17 = .ok (.iload_n 1, 1) := by decide +kernel
theorem dX5_place_18 : decode cX5_place 18 = .ok (.iaload, 1) := by decide +kernel
theorem dX5_place_19 : decode cX5_place 19 = .ok (.goto 8, 3) := by decide +kernel
theorem dX5_place_22 : decode cX5_place 22 = .ok (.aload_n 0, 1) := by decide +kernel
theorem dX5_place_23 : decode cX5_place 23 = .ok (.iconst 1, 1) := by decide +kernel
theorem dX5_place_24 : decode cX5_place 24 = .ok (.invokevirtual 125, 3) := by decide +kernel
theorem dX5_place_27 : decode cX5_place 27 = .ok (.ireturn, 1) := by decide +kernel
set_option maxRecDepth 20000 in
theorem ggX5_stateOf_X5_isWrong : GoodIn wsX5_stateOf wsX5_isWrong := goodIn_r _ [6, 1, 7, 8, 9, 10, 11, 12, 13, 14, 15, 16, 17, 18, 19, 20, 21, 22, 23, 24, 25, 26, 27, 28, 29, 30] (by decide +kernel) (by decide +kernel)
set_option maxRecDepth 20000 in
theorem gX5_stateOf_X5_isWrong : GoodIn wsX5_stateOf (wsV RX5 119 RX5 yX5_isWrong wsX5_isWrong) := goodIn_app (goodIn_of _ (by decide +kernel)) ggX5_stateOf_X5_isWrong
theorem dX5_stateOf_0 : decode cX5_stateOf 0 = .ok (.aload_n 0, 1) := by decide +kernel
theorem dX5_stateOf_1 : decode cX5_stateOf 1 = .ok (.getfield 26, 3) := by decide +kernel
theorem dX5_stateOf_4 : decode cX5_stateOf 4 = .ok (.iload_n 1, 1) := by decide +kernel
theorem dX5_stateOf_5 : decode cX5_stateOf 5 = .ok (.baload, 1) := by decide +kernel
theorem dX5_stateOf_6 : decode cX5_stateOf 6 = .ok (.ifCond .ne 7, 3) := by decide +kernel
theorem dX5_stateOf_9 : decode cX5_stateOf 9 = .ok (.iconst 0, 1) := by decide +kernel
theorem dX5_stateOf_10 : decode cX5_stateOf 10 = .ok (.goto 16, 3) := by decide +kernel
theorem dX5_stateOf_13 : decode cX5_stateOf 13 = .ok (.aload_n 0, 1) := by decide +kernel
theorem dX5_stateOf_14 : decode cX5_stateOf 14 = .ok (.iload_n 1, 1) := by decide +kernel
theorem dX5_stateOf_15 : decode cX5_stateOf 15 = .ok (.invokevirtual 119, 3) := by decide +kernel
theorem dX5_stateOf_18 : decode cX5_stateOf 18 = .ok (.ifCond .eq 7, 3) := by decide +kernel
theorem dX5_stateOf_21 : decode cX5_stateOf 21 = .ok (.iconst 2, 1) := by decide +kernel
theorem dX5_stateOf_22 : decode cX5_stateOf 22 = .ok (.goto 4, 3) := by decide +kernel
theorem dX5_stateOf_25 : decode cX5_stateOf 25 = .ok (.iconst 1, 1) := by decide +kernel
theorem dX5_stateOf_26 : decode cX5_stateOf 26 = .ok (.ireturn, 1) := by decide +kernel
set_option maxRecDepth 20000 in
theorem ggX5_state_X5_isFlying : GoodIn wsX5_state wsX5_isFlying := goodIn_r _ [6, 7, 23, 24, 25, 26, 27, 28, 29, 30, 31, 32, 33, 34, 35, 36, 37, 38, 39, 40, 41, 42, 43, 44] (by decide +kernel) (by decide +kernel)
set_option maxRecDepth 20000 in
theorem gX5_state_X5_isFlying : GoodIn wsX5_state (wsV RX5 122 RX5 yX5_isFlying wsX5_isFlying) := goodIn_app (goodIn_of _ (by decide +kernel)) ggX5_state_X5_isFlying
set_option maxRecDepth 20000 in
theorem ggX5_state_X5_stateOf : GoodIn wsX5_state wsX5_stateOf := goodIn_r _ [11, 12, 13, 14, 15, 5, 16, 17, 18, 23, 24, 25, 26, 27, 28, 29, 30, 31, 32, 33, 34, 35, 36, 37, 38, 39, 40, 41, 42, 43, 44] (by decide +kernel) (by decide +kernel)
set_option maxRecDepth 20000 in
theorem gX5_state_X5_stateOf : GoodIn wsX5_state (wsV RX5 159 RX5 yX5_stateOf wsX5_stateOf) := goodIn_app (goodIn_of _ (by decide +kernel)) ggX5_state_X5_stateOf
set_option maxRecDepth 20000 in
theorem ggX5_state_X5_fail : GoodIn wsX5_state wsX5_fail := goodIn_r _ [22, 1, 23, 24, 25, 26, 27, 28, 29, 30, 31, 32, 33, 34, 35, 36, 37, 38, 39, 40, 41, 42, 43, 44] (by decide +kernel) (by decide +kernel)
set_option maxRecDepth 20000 in
theorem gX5_state_X5_fail : GoodIn wsX5_state (wsV RX5 125 RX5 yX5_fail wsX5_fail) := goodIn_app (goodIn_of _ (by decide +kernel)) ggX5_state_X5_fail
theorem dX5_state_0 : decode cX5_state 0 = .ok (.aload_n 0, 1) := by decide +kernel
theorem dX5_state_1 : decode cX5_state 1 = .ok (.iconst 0, 1) := by decide +kernel
theorem dX5_state_2 : decode cX5_state 2 = .ok (.putfield 58, 3) := by decide +kernel
theorem dX5_state_5 : decode cX5_state 5 = .ok (.aload_n 0, 1) := by decide +kernel
theorem dX5_state_6 : decode cX5_state 6 = .ok (.iload_n 1, 1) := by decide +kernel
theorem dX5_state_7 : decode cX5_state 7 = .ok (.invokevirtual 122, 3) := by decide +kernel
theorem dX5_state_10 : decode cX5_state 10 = .ok (.ifCond .eq 11, 3) := by decide +kernel
theorem dX5_state_13 : decode cX5_state 13 = .ok (.aload_n 0, 1) := by decide +kernel
theorem dX5_state_14 : decode cX5_state 14 = .ok (.iload_n 1, 1) := by decide +kernel
theorem dX5_state_15 : decode cX5_state 15 = .ok (.invokevirtual 159, 3) := by decide +kernel
theorem dX5_state_18 : decode cX5_state 18 = .ok (.goto 8, 3) := by decide +kernel
theorem dX5_state_21 : decode cX5_state 21 = .ok (.aload_n 0, 1) := by decide +kernel
theorem dX5_state_22 : decode cX5_state 22 = .ok (.iconst 1, 1) := by decide +kernel
theorem dX5_state_23 : decode cX5_state 23 = .ok (.invokevirtual 125, 3) := by decide +kernel
theorem dX5_state_26 : decode cX5_state 26 = .ok (.ireturn, 1) := by decide +kernel
theorem dX5_isKind_0 : decode cX5_isKind 0 = .ok (.iload_n 0, 1) := by decide +kernel
theorem dX5_isKind_1 : decode cX5_isKind 1 = .ok (.ifCond .lt 12, 3) := by decide +kernel
theorem dX5_isKind_4 : decode cX5_isKind 4 = .ok (.iload_n 0, 1) := by decide +kernel
theorem dX5_isKind_5 : decode cX5_isKind 5 = .ok (.iconst 4, 1) := by decide +kernel
theorem dX5_isKind_6 : decode cX5_isKind 6 = .ok (.if_icmp .ge 7, 3) := by decide +kernel
theorem dX5_isKind_9 : decode cX5_isKind 9 = .ok (.iconst 1, 1) := by decide +kernel
theorem dX5_isKind_10 : decode cX5_isKind 10 = .ok (.goto 4, 3) := by decide +kernel
theorem dX5_isKind_13 : decode cX5_isKind 13 = .ok (.iconst 0, 1) := by decide +kernel
theorem dX5_isKind_14 : decode cX5_isKind 14 = .ok (.ireturn, 1) := by decide +kernel
set_option maxRecDepth 20000 in
theorem ggX5_predicted_X5_isFlying : GoodIn wsX5_predicted wsX5_isFlying := goodIn_r _ [7, 8, 16, 17, 18, 19, 20, 21, 22, 23, 24, 25, 26, 27, 28, 29, 30, 31, 32, 33, 34, 35, 36, 37] (by decide +kernel) (by decide +kernel)
set_option maxRecDepth 20000 in
theorem gX5_predicted_X5_isFlying : GoodIn wsX5_predicted (wsV RX5 122 RX5 yX5_isFlying wsX5_isFlying) := goodIn_app (goodIn_of _ (by decide +kernel)) ggX5_predicted_X5_isFlying
set_option maxRecDepth 20000 in
theorem ggX5_predicted_X5_isKind : GoodIn wsX5_predicted wsX5_isKind := goodIn_r _ [11] (by decide +kernel) (by decide +kernel)
set_option maxRecDepth 20000 in
theorem gX5_predicted_X5_isKind : GoodIn wsX5_predicted (va_wsS RX5 162 yX5_isKind wsX5_isKind) := goodIn_app (goodIn_of _ (by decide +kernel)) ggX5_predicted_X5_isKind
set_option maxRecDepth 20000 in
theorem ggX5_predicted_X5_failed : GoodIn wsX5_predicted wsX5_failed := goodIn_r _ [15, 1, 16, 17, 18, 19, 20, 21, 22, 23, 24, 25, 26, 27, 28, 29, 30, 31, 32, 33, 34, 35, 36, 37] (by decide +kernel) (by decide +kernel)
set_option maxRecDepth 20000 in
theorem gX5_predicted_X5_failed : GoodIn wsX5_predicted (wsV RX5 84 RX5 yX5_failed wsX5_failed) := goodIn_app (goodIn_of _ (by decide +kernel)) ggX5_predicted_X5_failed
theorem dX5_predicted_0 : decode cX5_predicted 0 = .ok (.aload_n 0, 1) := by decide +kernel
theorem dX5_predicted_1 : decode cX5_predicted 1 = .ok (.iconst 0, 1) := by decide +kernel
theorem dX5_predicted_2 : decode cX5_predicted 2 = .ok (.putfield 58, 3) := by decide +kernel
theorem dX5_predicted_5 : decode cX5_predicted 5 = .ok (.aload_n 0, 1) := by decide +kernel
theorem dX5_predicted_6 : decode cX5_predicted 6 = .ok (.iload_n 1, 1) := by decide +kernel
theorem dX5_predicted_7 : decode cX5_predicted 7 = .ok (.invokevirtual 122, 3) := by decide +kernel
theorem dX5_predicted_10 : decode cX5_predicted 10 = .ok (.ifCond .eq 23, 3) := by decide +kernel
theorem dX5_predicted_13 : decode cX5_predicted 13 = .ok (.iload_n 2, 1) := by decide +kernel
theorem dX5_predicted_14 : decode cX5_predicted 14 = .ok (.invokestatic 162, 3) := by decide +kernel
theorem dX5_predicted_17 : decode cX5_predicted 17 = .ok (.ifCond .eq 16, 3) := by decide +kernel
theorem dX5_predicted_20 : decode cX5_predicted 20 = .ok (.aload_n 0, 1) := by decide +kernel
theorem dX5_predicted_21 : decode cX5_predicted 21 = .ok (.getfield 22, 3) := by decide +kernel
theorem dX5_predicted_24 : decode cX5_predicted 24 = .ok (.iconst 4, 1) := by decide +kernel
theorem dX5_predicted_25 : decode cX5_predicted 25 = .ok (.iload_n 1, 1) := by decide +kernel
theorem dX5_predicted_26 : decode cX5_predicted 26 = .ok (.imul, 1) := by decide +kernel
theorem dX5_predicted_27 : decode cX5_predicted 27 = .ok (.iload_n 2, 1) := by decide +kernel
theorem dX5_predicted_28 : decode cX5_predicted 28 = .ok (.iadd, 1) := by decide +kernel
theorem dX5_predicted_29 : decode cX5_predicted 29 = .ok (.baload, 1) := by decide +kernel
theorem dX5_predicted_30 : decode cX5_predicted 30 = .ok (.goto 8, 3) := by decide +kernel
theorem dX5_predicted_33 : decode cX5_predicted 33 = .ok (.aload_n 0, 1) := by decide +kernel
theorem dX5_predicted_34 : decode cX5_predicted 34 = .ok (.iconst 1, 1) := by decide +kernel
theorem dX5_predicted_35 : decode cX5_predicted 35 = .ok (.invokevirtual 84, 3) := by decide +kernel
theorem dX5_predicted_38 : decode cX5_predicted 38 = .ok (.ireturn, 1) := by decide +kernel
theorem dX5_history_0 : decode cX5_history 0 = .ok (.aload_n 0, 1) := by decide +kernel
theorem dX5_history_1 : decode cX5_history 1 = .ok (.iconst 0, 1) := by decide +kernel
theorem dX5_history_2 : decode cX5_history 2 = .ok (.putfield 58, 3) := by decide +kernel
theorem dX5_history_5 : decode cX5_history 5 = .ok (.aload_n 0, 1) := by decide +kernel
theorem dX5_history_6 : decode cX5_history 6 = .ok (.getfield 71, 3) := by decide +kernel
theorem dX5_history_9 : decode cX5_history 9 = .ok (.ireturn, 1) := by decide +kernel
theorem dX5_sizeOf_0 : decode cX5_sizeOf 0 = .ok (.iload_n 1, 1) := by decide +kernel
theorem dX5_sizeOf_1 : decode cX5_sizeOf 1 = .ok (.ifCond .lt 8, 3) := by decide +kernel
theorem dX5_sizeOf_4 : decode cX5_sizeOf 4 = .ok (.iload_n 1, 1) := by decide +kernel
theorem dX5_sizeOf_5 : decode cX5_sizeOf 5 = .ok (.iconst 2, 1) := by decide +kernel
theorem dX5_sizeOf_6 : decode cX5_sizeOf 6 = .ok (.if_icmp .le 7, 3) := by decide +kernel
theorem dX5_sizeOf_9 : decode cX5_sizeOf 9 = .ok (.iconst 0, 1) := by decide +kernel
theorem dX5_sizeOf_10 : decode cX5_sizeOf 10 = .ok (.goto 21, 3) := by decide +kernel
theorem dX5_sizeOf_13 : decode cX5_sizeOf 13 = .ok (.iconst 1, 1) := by decide +kernel
theorem dX5_sizeOf_14 : decode cX5_sizeOf 14 = .ok (.iload_n 1, 1) := by decide +kernel
theorem dX5_sizeOf_15 : decode cX5_sizeOf 15 = .ok (.iconst 1, 1) := by decide +kernel
theorem dX5_sizeOf_16 : decode cX5_sizeOf 16 = .ok (.if_icmp .ne 10, 3) := by decide +kernel
theorem dX5_sizeOf_19 : decode cX5_sizeOf 19 = .ok (.aload_n 0, 1) := by decide +kernel
theorem dX5_sizeOf_20 : decode cX5_sizeOf 20 = .ok (.getfield 65, 3) := by decide +kernel
theorem dX5_sizeOf_23 : decode cX5_sizeOf 23 = .ok (.goto 7, 3) := by decide +kernel
theorem dX5_sizeOf_26 : decode cX5_sizeOf 26 = .ok (.aload_n 0, 1) := by decide +kernel
theorem dX5_sizeOf_27 : decode cX5_sizeOf 27 = .ok (.getfield 62, 3) := by decide +kernel
theorem dX5_sizeOf_30 : decode cX5_sizeOf 30 = .ok (.ishl, 1) := by decide +kernel
theorem dX5_sizeOf_31 : decode cX5_sizeOf 31 = .ok (.ireturn, 1) := by decide +kernel
set_option maxRecDepth 20000 in
theorem ggX5_counter_X5_sizeOf : GoodIn wsX5_counter wsX5_sizeOf := goodIn_r _ [7, 8, 9, 14, 15, 16, 17, 18, 19, 20, 21, 22, 23, 24, 25, 26, 27, 28, 29, 30, 31, 32, 33, 34, 35] (by decide +kernel) (by decide +kernel)
set_option maxRecDepth 20000 in
theorem gX5_counter_X5_sizeOf : GoodIn wsX5_counter (wsV RX5 165 RX5 yX5_sizeOf wsX5_sizeOf) := goodIn_app (goodIn_of _ (by decide +kernel)) ggX5_counter_X5_sizeOf
set_option maxRecDepth 20000 in
theorem ggX5_counter_X5_fail : GoodIn wsX5_counter wsX5_fail := goodIn_r _ [13, 1, 14, 15, 16, 17, 18, 19, 20, 21, 22, 23, 24, 25, 26, 27, 28, 29, 30, 31, 32, 33, 34, 35] (by decide +kernel) (by decide +kernel)
set_option maxRecDepth 20000 in
theorem gX5_counter_X5_fail : GoodIn wsX5_counter (wsV RX5 125 RX5 yX5_fail wsX5_fail) := goodIn_app (goodIn_of _ (by decide +kernel)) ggX5_counter_X5_fail
theorem dX5_counter_0 : decode cX5_counter 0 = .ok (.aload_n 0, 1) := by decide +kernel
theorem dX5_counter_1 : decode cX5_counter 1 = .ok (.iconst 0, 1) := by decide +kernel
theorem dX5_counter_2 : decode cX5_counter 2 = .ok (.putfield 58, 3) := by decide +kernel
theorem dX5_counter_5 : decode cX5_counter 5 = .ok (.iload_n 2, 1) := by decide +kernel
theorem dX5_counter_6 : decode cX5_counter 6 = .ok (.ifCond .lt 27, 3) := by decide +kernel
theorem dX5_counter_9 : decode cX5_counter 9 = .ok (.iload_n 2, 1) := by decide +kernel
theorem dX5_counter_10 : decode cX5_counter 10 = .ok (.aload_n 0, 1) := by decide +kernel
theorem dX5_counter_11 : decode cX5_counter 11 = .ok (.iload_n 1, 1) := by decide +kernel
theorem dX5_counter_12 : decode cX5_counter 12 = .ok (.invokevirtual 165, 3) := by decide +kernel
theorem dX5_counter_15 : decode cX5_counter 15 = .ok (.if_icmp .ge 18, 3) := by decide +kernel
theorem dX5_counter_18 : decode cX5_counter 18 = .ok (.aload_n 0, 1) := by decide +kernel
theorem dX5_counter_19 : decode cX5_counter 19 = .ok (.getfield 9, 3) := by decide +kernel
theorem dX5_counter_22 : decode cX5_counter 22 = .ok (.sipush 256, 3) := by decide +kernel
theorem dX5_counter_25 : decode cX5_counter 25 = .ok (.iload_n 1, 1) := by decide +kernel
theorem dX5_counter_26 : decode cX5_counter 26 = .ok (.imul, 1) := by decide +kernel
theorem dX5_counter_27 : decode cX5_counter 27 = .ok (.iload_n 2, 1) := by decide +kernel
theorem dX5_counter_28 : decode cX5_counter 28 = .ok (.iadd, 1) := by decide +kernel
theorem dX5_counter_29 : decode cX5_counter 29 = .ok (.iaload, 1) := by decide +kernel
theorem dX5_counter_30 : decode cX5_counter 30 = .ok (.goto 8, 3) := by decide +kernel
theorem dX5_counter_33 : decode cX5_counter 33 = .ok (.aload_n 0, 1) := by decide +kernel
theorem dX5_counter_34 : decode cX5_counter 34 = .ok (.iconst 1, 1) := by decide +kernel
theorem dX5_counter_35 : decode cX5_counter 35 = .ok (.invokevirtual 125, 3) := by decide +kernel
theorem dX5_counter_38 : decode cX5_counter 38 = .ok (.ireturn, 1) := by decide +kernel
set_option maxRecDepth 20000 in
theorem ggX5_ofLoop_X5_presumed : GoodIn wsX5_ofLoop wsX5_presumed := goodIn_r _ [10, 3, 11, 12, 2, 13, 14, 15, 9, 16, 17, 18, 19, 20, 21, 22, 23, 24, 25, 26, 27, 28, 29, 30, 31, 32, 33, 34, 35, 36, 37, 38, 39, 40, 41] (by decide +kernel) (by decide +kernel)
set_option maxRecDepth 20000 in
theorem gX5_ofLoop_X5_presumed : GoodIn wsX5_ofLoop (wsV RX5 108 RX5 yX5_presumed wsX5_presumed) := goodIn_app (goodIn_of _ (by decide +kernel)) ggX5_ofLoop_X5_presumed
theorem dX5_ofLoop_0 : decode cX5_ofLoop 0 = .ok (.aload_n 0, 1) := by decide +kernel
theorem dX5_ofLoop_1 : decode cX5_ofLoop 1 = .ok (.getfield 32, 3) := by decide +kernel
theorem dX5_ofLoop_4 : decode cX5_ofLoop 4 = .ok (.iload_n 1, 1) := by decide +kernel
theorem dX5_ofLoop_5 : decode cX5_ofLoop 5 = .ok (.baload, 1) := by decide +kernel
theorem dX5_ofLoop_6 : decode cX5_ofLoop 6 = .ok (.ifCond .ne 7, 3) := by decide +kernel
theorem dX5_ofLoop_9 : decode cX5_ofLoop 9 = .ok (.iconst (-1), 1) := by decide +kernel
theorem dX5_ofLoop_10 : decode cX5_ofLoop 10 = .ok (.goto 63, 3) := by decide +kernel
theorem dX5_ofLoop_13 : decode cX5_ofLoop 13 = .ok (.iload_n 2, 1) := by decide +kernel
theorem dX5_ofLoop_14 : decode cX5_ofLoop 14 = .ok (.ifCond .ne 12, 3) := by decide +kernel
theorem dX5_ofLoop_17 : decode cX5_ofLoop 17 = .ok (.aload_n 0, 1) := by decide +kernel
theorem dX5_ofLoop_18 : decode cX5_ofLoop 18 = .ok (.getfield 35, 3) := by decide +kernel
theorem dX5_ofLoop_21 : decode cX5_ofLoop 21 = .ok (.iload_n 1, 1) := by decide +kernel
theorem dX5_ofLoop_22 : decode cX5_ofLoop 22 = .ok (.iaload, 1) := by decide +kernel
theorem dX5_ofLoop_23 : decode cX5_ofLoop 23 = .ok (.goto 50, 3) := by decide +kernel
theorem dX5_ofLoop_26 : decode cX5_ofLoop 26 = .ok (.iload_n 2, 1) := by decide +kernel
theorem dX5_ofLoop_27 : decode cX5_ofLoop 27 = .ok (.iconst 1, 1) := by decide +kernel
theorem dX5_ofLoop_28 : decode cX5_ofLoop 28 = .ok (.if_icmp .ne 12, 3) := by decide +kernel
theorem dX5_ofLoop_31 : decode cX5_ofLoop 31 = .ok (.aload_n 0, 1) := by decide +kernel
theorem dX5_ofLoop_32 : decode cX5_ofLoop 32 = .ok (.getfield 38, 3) := by decide +kernel
theorem dX5_ofLoop_35 : decode cX5_ofLoop 35 = .ok (.iload_n 1, 1) := by decide +kernel
theorem dX5_ofLoop_36 : decode cX5_ofLoop 36 = .ok (.iaload, 1) := by decide +kernel
theorem dX5_ofLoop_37 : decode cX5_ofLoop 37 = .ok (.goto 36, 3) := by decide +kernel
theorem dX5_ofLoop_40 : decode cX5_ofLoop 40 = .ok (.iload_n 2, 1) := by decide +kernel
theorem dX5_ofLoop_41 : decode cX5_ofLoop 41 = .ok (.iconst 2, 1) := by decide +kernel
theorem dX5_ofLoop_42 : decode cX5_ofLoop 42 = .ok (.if_icmp .ne 12, 3) := by decide +kernel
theorem dX5_ofLoop_45 : decode cX5_ofLoop 45 = .ok (.aload_n 0, 1) := by decide +kernel
theorem dX5_ofLoop_46 : decode cX5_ofLoop 46 = .ok (.getfield 41, 3) := by decide +kernel
theorem dX5_ofLoop_49 : decode cX5_ofLoop 49 = .ok (.iload_n 1, 1) := by decide +kernel
theorem dX5_ofLoop_50 : decode cX5_ofLoop 50 = .ok (.iaload, 1) := by decide +kernel
theorem dX5_ofLoop_51 : decode cX5_ofLoop 51 = .ok (.goto 22, 3) := by decide +kernel
theorem dX5_ofLoop_54 : decode cX5_ofLoop 54 = .ok (.iload_n 2, 1) := by decide +kernel
theorem dX5_ofLoop_55 : decode cX5_ofLoop 55 = .ok (.iconst 3, 1) := by decide +kernel
theorem dX5_ofLoop_56 : decode cX5_ofLoop 56 = .ok (.if_icmp .ne 12, 3) := by decide +kernel
theorem dX5_ofLoop_59 : decode cX5_ofLoop 59 = .ok (.aload_n 0, 1) := by decide +kernel
theorem dX5_ofLoop_60 : decode cX5_ofLoop 60 = .ok (.getfield 44, 3) := by decide +kernel
theorem dX5_ofLoop_63 : decode cX5_ofLoop 63 = .ok (.iload_n 1, 1) := by decide +kernel
theorem dX5_ofLoop_64 : decode cX5_ofLoop 64 = .ok (.iaload, 1) := by decide +kernel
theorem dX5_ofLoop_65 : decode cX5_ofLoop 65 = .ok (.goto 8, 3) := by decide +kernel
theorem dX5_ofLoop_68 : decode cX5_ofLoop 68 = .ok (.aload_n 0, 1) := by decide +kernel
theorem dX5_ofLoop_69 : decode cX5_ofLoop 69 = .ok (.iload_n 1, 1) := by decide +kernel
theorem dX5_ofLoop_70 : decode cX5_ofLoop 70 = .ok (.invokevirtual 108, 3) := by decide +kernel
theorem dX5_ofLoop_73 : decode cX5_ofLoop 73 = .ok (.ireturn, 1) := by decide +kernel
set_option maxRecDepth 20000 in
theorem ggX5_loop_X5_ofLoop : GoodIn wsX5_loop wsX5_ofLoop := goodIn_r _ [6, 7, 8, 9, 10, 11, 12, 13, 14, 5, 15, 16, 17, 18, 19, 20, 21, 22, 23, 24, 29, 30, 31, 32, 33, 34, 35, 36, 37, 38, 39, 40, 41, 42, 43, 44, 45, 46, 47, 48, 49, 50] (by decide +kernel) (by decide +kernel)
set_option maxRecDepth 20000 in
theorem gX5_loop_X5_ofLoop : GoodIn wsX5_loop (wsV RX5 168 RX5 yX5_ofLoop wsX5_ofLoop) := goodIn_app (goodIn_of _ (by decide +kernel)) ggX5_loop_X5_ofLoop
set_option maxRecDepth 20000 in
theorem ggX5_loop_X5_fail : GoodIn wsX5_loop wsX5_fail := goodIn_r _ [28, 1, 29, 30, 31, 32, 33, 34, 35, 36, 37, 38, 39, 40, 41, 42, 43, 44, 45, 46, 47, 48, 49, 50] (by decide +kernel) (by decide +kernel)
set_option maxRecDepth 20000 in
theorem gX5_loop_X5_fail : GoodIn wsX5_loop (wsV RX5 125 RX5 yX5_fail wsX5_fail) := goodIn_app (goodIn_of _ (by decide +kernel)) ggX5_loop_X5_fail
theorem dX5_loop_0 : decode cX5_loop 0 = .ok (.aload_n 0, 1) := by decide +kernel
theorem dX5_loop_1 : decode cX5_loop 1 = .ok (.iconst 0, 1) := by decide +kernel
theorem dX5_loop_2 : decode cX5_loop 2 = .ok (.putfield 58, 3) := by decide +kernel
theorem dX5_loop_5 : decode cX5_loop 5 = .ok (.iload_n 1, 1) := by decide +kernel
theorem dX5_loop_6 : decode cX5_loop 6 = .ok (.ifCond .lt 27, 3) := by decide +kernel
theorem dX5_loop_9 : decode cX5_loop 9 = .ok (.iload_n 1, 1) := by decide +kernel
theorem dX5_loop_10 : decode cX5_loop 10 = .ok (.bipush 8, 2) := by decide +kernel
theorem dX5_loop_12 : decode cX5_loop 12 = .ok (.if_icmp .ge 21, 3) := by decide +kernel
theorem dX5_loop_15 : decode cX5_loop 15 = .ok (.iload_n 2, 1) := by decide +kernel
theorem dX5_loop_16 : decode cX5_loop 16 = .ok (.ifCond .lt 17, 3) := by decide +kernel
theorem dX5_loop_19 : decode cX5_loop 19 = .ok (.iload_n 2, 1) := by decide +kernel
theorem dX5_loop_20 : decode cX5_loop 20 = .ok (.iconst 4, 1) := by decide +kernel
theorem dX5_loop_21 : decode cX5_loop 21 = .ok (.if_icmp .gt 12, 3) := by decide +kernel
theorem dX5_loop_24 : decode cX5_loop 24 = .ok (.aload_n 0, 1) := by decide +kernel
theorem dX5_loop_25 : decode cX5_loop 25 = .ok (.iload_n 1, 1) := by decide +kernel
theorem dX5_loop_26 : decode cX5_loop 26 = .ok (.iload_n 2, 1) := by decide +kernel
theorem dX5_loop_27 : decode cX5_loop 27 = .ok (.invokevirtual 168, 3) := by decide +kernel
theorem dX5_loop_30 : decode cX5_loop 30 = .ok (.goto 8, 3) := by decide +kernel
theorem dX5_loop_33 : decode cX5_loop 33 = .ok (.aload_n 0, 1) := by decide +kernel
theorem dX5_loop_34 : decode cX5_loop 34 = .ok (.iconst 1, 1) := by decide +kernel
theorem dX5_loop_35 : decode cX5_loop 35 = .ok (.invokevirtual 125, 3) := by decide +kernel
theorem dX5_loop_38 : decode cX5_loop 38 = .ok (.ireturn, 1) := by decide +kernel
theorem dX5_commits_0 : decode cX5_commits 0 = .ok (.aload_n 0, 1) := by decide +kernel
theorem dX5_commits_1 : decode cX5_commits 1 = .ok (.iconst 0, 1) := by decide +kernel
theorem dX5_commits_2 : decode cX5_commits 2 = .ok (.putfield 58, 3) := by decide +kernel
theorem dX5_commits_5 : decode cX5_commits 5 = .ok (.aload_n 0, 1) := by decide +kernel
theorem dX5_commits_6 : decode cX5_commits 6 = .ok (.getfield 77, 3) := by decide +kernel
theorem dX5_commits_9 : decode cX5_commits 9 = .ok (.lreturn, 1) := by decide +kernel
set_option maxRecDepth 20000 in
theorem ggX5_misses_X5_isKind : GoodIn wsX5_misses wsX5_isKind := goodIn_r _ [6] (by decide +kernel) (by decide +kernel)
set_option maxRecDepth 20000 in
theorem gX5_misses_X5_isKind : GoodIn wsX5_misses (va_wsS RX5 162 yX5_isKind wsX5_isKind) := goodIn_app (goodIn_of _ (by decide +kernel)) ggX5_misses_X5_isKind
set_option maxRecDepth 20000 in
theorem ggX5_misses_X5_fail : GoodIn wsX5_misses wsX5_fail := goodIn_r _ [10, 1, 11, 12, 13, 14, 15, 16, 17, 18, 19, 20, 21, 22, 23, 24, 25, 26, 27, 28, 29, 30, 31, 32] (by decide +kernel) (by decide +kernel)
set_option maxRecDepth 20000 in
theorem gX5_misses_X5_fail : GoodIn wsX5_misses (wsV RX5 125 RX5 yX5_fail wsX5_fail) := goodIn_app (goodIn_of _ (by decide +kernel)) ggX5_misses_X5_fail
theorem dX5_misses_0 : decode cX5_misses 0 = .ok (.aload_n 0, 1) := by decide +kernel
theorem dX5_misses_1 : decode cX5_misses 1 = .ok (.iconst 0, 1) := by decide +kernel
theorem dX5_misses_2 : decode cX5_misses 2 = .ok (.putfield 58, 3) := by decide +kernel
theorem dX5_misses_5 : decode cX5_misses 5 = .ok (.iload_n 1, 1) := by decide +kernel
theorem dX5_misses_6 : decode cX5_misses 6 = .ok (.invokestatic 162, 3) := by decide +kernel
theorem dX5_misses_9 : decode cX5_misses 9 = .ok (.ifCond .eq 12, 3) := by decide +kernel
theorem dX5_misses_12 : decode cX5_misses 12 = .ok (.aload_n 0, 1) := by decide +kernel
theorem dX5_misses_13 : decode cX5_misses 13 = .ok (.getfield 47, 3) := by decide +kernel
theorem dX5_misses_16 : decode cX5_misses 16 = .ok (.iload_n 1, 1) := by decide +kernel
theorem dX5_misses_17 : decode cX5_misses 17 = .ok (.laload, 1) := by decide +kernel
theorem dX5_misses_18 : decode cX5_misses 18 = .ok (.goto 9, 3) := by decide +kernel
theorem dX5_misses_21 : decode cX5_misses 21 = .ok (.aload_n 0, 1) := by decide +kernel
theorem dX5_misses_22 : decode cX5_misses 22 = .ok (.iconst 1, 1) := by decide +kernel
theorem dX5_misses_23 : decode cX5_misses 23 = .ok (.invokevirtual 125, 3) := by decide +kernel
theorem dX5_misses_26 : decode cX5_misses 26 = .ok (.i2l, 1) := by decide +kernel
theorem dX5_misses_27 : decode cX5_misses 27 = .ok (.lreturn, 1) := by decide +kernel
theorem dX5_drops_0 : decode cX5_drops 0 = .ok (.aload_n 0, 1) := by decide +kernel
theorem dX5_drops_1 : decode cX5_drops 1 = .ok (.iconst 0, 1) := by decide +kernel
theorem dX5_drops_2 : decode cX5_drops 2 = .ok (.putfield 58, 3) := by decide +kernel
theorem dX5_drops_5 : decode cX5_drops 5 = .ok (.aload_n 0, 1) := by decide +kernel
theorem dX5_drops_6 : decode cX5_drops 6 = .ok (.getfield 81, 3) := by decide +kernel
theorem dX5_drops_9 : decode cX5_drops 9 = .ok (.lreturn, 1) := by decide +kernel
set_option maxRecDepth 20000 in
theorem ggX5_meetings_X5_fail : GoodIn wsX5_meetings wsX5_fail := goodIn_r _ [7, 1, 8, 9, 10, 11, 12, 13, 14, 15, 16, 17, 18, 19, 20, 21, 22, 23, 24, 25, 26, 27, 28, 29] (by decide +kernel) (by decide +kernel)
set_option maxRecDepth 20000 in
theorem gX5_meetings_X5_fail : GoodIn wsX5_meetings (wsV RX5 125 RX5 yX5_fail wsX5_fail) := goodIn_app (goodIn_of _ (by decide +kernel)) ggX5_meetings_X5_fail
theorem dX5_meetings_0 : decode cX5_meetings 0 = .ok (.aload_n 0, 1) := by decide +kernel
theorem dX5_meetings_1 : decode cX5_meetings 1 = .ok (.iconst 0, 1) := by decide +kernel
theorem dX5_meetings_2 : decode cX5_meetings 2 = .ok (.putfield 58, 3) := by decide +kernel
theorem dX5_meetings_5 : decode cX5_meetings 5 = .ok (.iload_n 1, 1) := by decide +kernel
theorem dX5_meetings_6 : decode cX5_meetings 6 = .ok (.ifCond .eq 8, 3) := by decide +kernel
theorem dX5_meetings_9 : decode cX5_meetings 9 = .ok (.iload_n 1, 1) := by decide +kernel
theorem dX5_meetings_10 : decode cX5_meetings 10 = .ok (.iconst 1, 1) := by decide +kernel
theorem dX5_meetings_11 : decode cX5_meetings 11 = .ok (.if_icmp .ne 24, 3) := by decide +kernel
theorem dX5_meetings_14 : decode cX5_meetings 14 = .ok (.aload_n 0, 1) := by decide +kernel
theorem dX5_meetings_15 : decode cX5_meetings 15 = .ok (.getfield 51, 3) := by decide +kernel
theorem dX5_meetings_18 : decode cX5_meetings 18 = .ok (.iconst 2, 1) := by decide +kernel
theorem dX5_meetings_19 : decode cX5_meetings 19 = .ok (.iload_n 1, 1) := by decide +kernel
theorem dX5_meetings_20 : decode cX5_meetings 20 = .ok (.imul, 1) := by decide +kernel
theorem dX5_meetings_21 : decode cX5_meetings 21 = .ok (.iload_n 2, 1) := by decide +kernel
theorem dX5_meetings_22 : decode cX5_meetings 22 = .ok (.ifCond .eq 7, 3) := by decide +kernel
theorem dX5_meetings_25 : decode cX5_meetings 25 = .ok (.iconst 1, 1) := by decide +kernel
theorem dX5_meetings_26 : decode cX5_meetings 26 = .ok (.goto 4, 3) := by decide +kernel
theorem dX5_meetings_29 : decode cX5_meetings 29 = .ok (.iconst 0, 1) := by decide +kernel
theorem dX5_meetings_30 : decode cX5_meetings 30 = .ok (.iadd, 1) := by decide +kernel
theorem dX5_meetings_31 : decode cX5_meetings 31 = .ok (.laload, 1) := by decide +kernel
theorem dX5_meetings_32 : decode cX5_meetings 32 = .ok (.goto 9, 3) := by decide +kernel
theorem dX5_meetings_35 : decode cX5_meetings 35 = .ok (.aload_n 0, 1) := by decide +kernel
theorem dX5_meetings_36 : decode cX5_meetings 36 = .ok (.iconst 1, 1) := by decide +kernel
theorem dX5_meetings_37 : decode cX5_meetings 37 = .ok (.invokevirtual 125, 3) := by decide +kernel
theorem dX5_meetings_40 : decode cX5_meetings 40 = .ok (.i2l, 1) := by decide +kernel
theorem dX5_meetings_41 : decode cX5_meetings 41 = .ok (.lreturn, 1) := by decide +kernel
theorem dX5_accuracy_0 : decode cX5_accuracy 0 = .ok (.aload_n 0, 1) := by decide +kernel
theorem dX5_accuracy_1 : decode cX5_accuracy 1 = .ok (.iconst 0, 1) := by decide +kernel
theorem dX5_accuracy_2 : decode cX5_accuracy 2 = .ok (.putfield 58, 3) := by decide +kernel
theorem dX5_accuracy_5 : decode cX5_accuracy 5 = .ok (.aload_n 0, 1) := by decide +kernel
theorem dX5_accuracy_6 : decode cX5_accuracy 6 = .ok (.getfield 77, 3) := by decide +kernel
theorem dX5_accuracy_9 : decode cX5_accuracy 9 = .ok (.lconst 0, 1) := by decide +kernel
theorem dX5_accuracy_10 : decode cX5_accuracy 10 = .ok (.lcmp, 1) := by decide +kernel
theorem dX5_accuracy_11 : decode cX5_accuracy 11 = .ok (.ifCond .ne 7, 3) := by decide +kernel
theorem dX5_accuracy_14 : decode cX5_accuracy 14 = .ok (.dconst 1, 1) := by decide +kernel
theorem dX5_accuracy_15 : decode cX5_accuracy 15 = .ok (.goto 21, 3) := by decide +kernel
theorem dX5_accuracy_18 : decode cX5_accuracy 18 = .ok (.aload_n 0, 1) := by decide +kernel
theorem dX5_accuracy_19 : decode cX5_accuracy 19 = .ok (.getfield 77, 3) := by decide +kernel
theorem dX5_accuracy_22 : decode cX5_accuracy 22 = .ok (.aload_n 0, 1) := by decide +kernel
theorem dX5_accuracy_23 : decode cX5_accuracy 23 = .ok (.getfield 47, 3) := by decide +kernel
theorem dX5_accuracy_26 : decode cX5_accuracy 26 = .ok (.iconst 3, 1) := by decide +kernel
theorem dX5_accuracy_27 : decode cX5_accuracy 27 = .ok (.laload, 1) := by decide +kernel
theorem dX5_accuracy_28 : decode cX5_accuracy 28 = .ok (.lsub, 1) := by decide +kernel
theorem dX5_accuracy_29 : decode cX5_accuracy 29 = .ok (.l2d, 1) := by decide +kernel
theorem dX5_accuracy_30 : decode cX5_accuracy 30 = .ok (.aload_n 0, 1) := by decide +kernel
theorem dX5_accuracy_31 : decode cX5_accuracy 31 = .ok (.getfield 77, 3) := by decide +kernel
theorem dX5_accuracy_34 : decode cX5_accuracy 34 = .ok (.l2d, 1) := by decide +kernel
theorem dX5_accuracy_35 : decode cX5_accuracy 35 = .ok (.ddiv, 1) := by decide +kernel
theorem dX5_accuracy_36 : decode cX5_accuracy 36 = .ok (.dreturn, 1) := by decide +kernel
set_option maxRecDepth 20000 in
theorem ggX5_digest_X5_sizeOf : GoodIn wsX5_digest wsX5_sizeOf := goodIn_r _ [18, 5, 3, 47, 48, 49, 50, 51, 52, 53, 54, 55, 56, 57, 58, 59, 60, 61, 62, 63, 64, 65, 66, 67, 68] (by decide +kernel) (by decide +kernel)
set_option maxRecDepth 20000 in
theorem gX5_digest_X5_sizeOf : GoodIn wsX5_digest (wsV RX5 165 RX5 yX5_sizeOf wsX5_sizeOf) := goodIn_app (goodIn_of _ (by decide +kernel)) ggX5_digest_X5_sizeOf
set_option maxRecDepth 20000 in
theorem ggX5_digest_X5_ofLoop : GoodIn wsX5_digest wsX5_ofLoop := goodIn_r _ [22, 23, 24, 25, 26, 27, 28, 29, 30, 17, 31, 9, 10, 32, 33, 34, 35, 36, 37, 38, 47, 48, 49, 50, 51, 52, 53, 54, 55, 56, 57, 58, 59, 60, 61, 62, 63, 64, 65, 66, 67, 68] (by decide +kernel) (by decide +kernel)
set_option maxRecDepth 20000 in
theorem gX5_digest_X5_ofLoop : GoodIn wsX5_digest (wsV RX5 168 RX5 yX5_ofLoop wsX5_ofLoop) := goodIn_app (goodIn_of _ (by decide +kernel)) ggX5_digest_X5_ofLoop
set_option maxRecDepth 20000 in
theorem ggX5_digest_X5_stateOf : GoodIn wsX5_digest wsX5_stateOf := goodIn_r _ [42, 36, 43, 44, 45, 17, 46, 37, 38, 47, 48, 49, 50, 51, 52, 53, 54, 55, 56, 57, 58, 59, 60, 61, 62, 63, 64, 65, 66, 67, 68] (by decide +kernel) (by decide +kernel)
set_option maxRecDepth 20000 in
theorem gX5_digest_X5_stateOf : GoodIn wsX5_digest (wsV RX5 159 RX5 yX5_stateOf wsX5_stateOf) := goodIn_app (goodIn_of _ (by decide +kernel)) ggX5_digest_X5_stateOf
theorem dX5_digest_0 : decode cX5_digest 0 = .ok (.aload_n 0, 1) := by decide +kernel
theorem dX5_digest_1 : decode cX5_digest 1 = .ok (.iconst 0, 1) := by decide +kernel
theorem dX5_digest_2 : decode cX5_digest 2 = .ok (.putfield 58, 3) := by decide +kernel
theorem dX5_digest_5 : decode cX5_digest 5 = .ok (.ldc2_w 171, 3) := by decide +kernel
theorem dX5_digest_8 : decode cX5_digest 8 = .ok (.aload_n 0, 1) := by decide +kernel
theorem dX5_digest_9 : decode cX5_digest 9 = .ok (.getfield 62, 3) := by decide +kernel
theorem dX5_digest_12 : decode cX5_digest 12 = .ok (.i2l, 1) := by decide +kernel
theorem dX5_digest_13 : decode cX5_digest 13 = .ok (.ladd, 1) := by decide +kernel
theorem dX5_digest_14 : decode cX5_digest 14 = .ok (.ldc2_w 173, 3) := by decide +kernel
theorem dX5_digest_17 : decode cX5_digest 17 = .ok (.lmul, 1) := by decide +kernel
theorem dX5_digest_18 : decode cX5_digest 18 = .ok (.aload_n 0, 1) := by decide +kernel
theorem dX5_digest_19 : decode cX5_digest 19 = .ok (.getfield 65, 3) := by decide +kernel
theorem dX5_digest_22 : decode cX5_digest 22 = .ok (.i2l, 1) := by decide +kernel
theorem dX5_digest_23 : decode cX5_digest 23 = .ok (.ladd, 1) := by decide +kernel
theorem dX5_digest_24 : decode cX5_digest 24 = .ok (.ldc2_w 173, 3) := by decide +kernel
theorem dX5_digest_27 : decode cX5_digest 27 = .ok (.lmul, 1) := by decide +kernel
theorem dX5_digest_28 : decode cX5_digest 28 = .ok (.aload_n 0, 1) := by decide +kernel
theorem dX5_digest_29 : decode cX5_digest 29 = .ok (.getfield 68, 3) := by decide +kernel
theorem dX5_digest_32 : decode cX5_digest 32 = .ok (.i2l, 1) := by decide +kernel
theorem dX5_digest_33 : decode cX5_digest 33 = .ok (.ladd, 1) := by decide +kernel
theorem dX5_digest_34 : decode cX5_digest 34 = .ok (.ldc2_w 173, 3) := by decide +kernel
theorem dX5_digest_37 : decode cX5_digest 37 = .ok (.lmul, 1) := by decide +kernel
theorem dX5_digest_38 : decode cX5_digest 38 = .ok (.aload_n 0, 1) := by decide +kernel
theorem dX5_digest_39 : decode cX5_digest 39 = .ok (.getfield 71, 3) := by decide +kernel
theorem dX5_digest_42 : decode cX5_digest 42 = .ok (.i2l, 1) := by decide +kernel
theorem dX5_digest_43 : decode cX5_digest 43 = .ok (.ladd, 1) := by decide +kernel
theorem dX5_digest_44 : decode cX5_digest 44 = .ok (.lstore_n 1, 1) := by decide +kernel
theorem dX5_digest_45 : decode cX5_digest 45 = .ok (.iconst 0, 1) := by decide +kernel
theorem dX5_digest_46 : decode cX5_digest 46 = .ok (.istore_n 3, 1) := by decide +kernel
theorem dX5_digest_47 : decode cX5_digest 47 = .ok (.iload_n 3, 1) := by decide +kernel
theorem dX5_digest_48 : decode cX5_digest 48 = .ok (.iconst 3, 1) := by decide +kernel
theorem dX5_digest_49 : decode cX5_digest 49 = .ok (.if_icmp .ge 49, 3) := by decide +kernel
theorem dX5_digest_52 : decode cX5_digest 52 = .ok (.iconst 0, 1) := by decide +kernel
theorem dX5_digest_53 : decode cX5_digest 53 = .ok (.istore 4, 2) := by decide +kernel
theorem dX5_digest_55 : decode cX5_digest 55 = .ok (.iload 4, 2) := by decide +kernel
theorem dX5_digest_57 : decode cX5_digest 57 = .ok (.aload_n 0, 1) := by decide +kernel
theorem dX5_digest_58 : decode cX5_digest 58 = .ok (.iload_n 3, 1) := by decide +kernel
theorem dX5_digest_59 : decode cX5_digest 59 = .ok (.invokevirtual 165, 3) := by decide +kernel
theorem dX5_digest_62 : decode cX5_digest 62 = .ok (.if_icmp .ge 30, 3) := by decide +kernel
theorem dX5_digest_65 : decode cX5_digest 65 = .ok (.lload_n 1, 1) := by decide +kernel
theorem dX5_digest_66 : decode cX5_digest 66 = .ok (.ldc2_w 173, 3) := by decide +kernel
theorem dX5_digest_69 : decode cX5_digest 69 = .ok (.lmul, 1) := by decide +kernel
theorem dX5_digest_70 : decode cX5_digest 70 = .ok (.aload_n 0, 1) := by decide +kernel
theorem dX5_digest_71 : decode cX5_digest 71 = .ok (.getfield 9, 3) := by decide +kernel
theorem dX5_digest_74 : decode cX5_digest 74 = .ok (.sipush 256, 3) := by decide +kernel
theorem dX5_digest_77 : decode cX5_digest 77 = .ok (.iload_n 3, 1) := by decide +kernel
theorem dX5_digest_78 : decode cX5_digest 78 = .ok (.imul, 1) := by decide +kernel
theorem dX5_digest_79 : decode cX5_digest 79 = .ok (.iload 4, 2) := by decide +kernel
theorem dX5_digest_81 : decode cX5_digest 81 = .ok (.iadd, 1) := by decide +kernel
theorem dX5_digest_82 : decode cX5_digest 82 = .ok (.iaload, 1) := by decide +kernel
theorem dX5_digest_83 : decode cX5_digest 83 = .ok (.i2l, 1) := by decide +kernel
theorem dX5_digest_84 : decode cX5_digest 84 = .ok (.ladd, 1) := by decide +kernel
theorem dX5_digest_85 : decode cX5_digest 85 = .ok (.lstore_n 1, 1) := by decide +kernel
theorem dX5_digest_86 : decode cX5_digest 86 = .ok (.iinc 4 1, 3) := by decide +kernel
theorem dX5_digest_89 : decode cX5_digest 89 = .ok (.goto (-34), 3) := by decide +kernel
theorem dX5_digest_92 : decode cX5_digest 92 = .ok (.iinc 3 1, 3) := by decide +kernel
theorem dX5_digest_95 : decode cX5_digest 95 = .ok (.goto (-48), 3) := by decide +kernel
theorem dX5_digest_98 : decode cX5_digest 98 = .ok (.iconst 0, 1) := by decide +kernel
theorem dX5_digest_99 : decode cX5_digest 99 = .ok (.istore_n 3, 1) := by decide +kernel
theorem dX5_digest_100 : decode cX5_digest 100 = .ok (.iload_n 3, 1) := by decide +kernel
theorem dX5_digest_101 : decode cX5_digest 101 = .ok (.bipush 8, 2) := by decide +kernel
theorem dX5_digest_103 : decode cX5_digest 103 = .ok (.if_icmp .ge 39, 3) := by decide +kernel
theorem dX5_digest_106 : decode cX5_digest 106 = .ok (.iconst 0, 1) := by decide +kernel
theorem dX5_digest_107 : decode cX5_digest 107 = .ok (.istore 4, 2) := by decide +kernel
theorem dX5_digest_109 : decode cX5_digest 109 = .ok (.iload 4, 2) := by decide +kernel
theorem dX5_digest_111 : decode cX5_digest 111 = .ok (.iconst 4, 1) := by decide +kernel
theorem dX5_digest_112 : decode cX5_digest 112 = .ok (.if_icmp .ge 24, 3) := by decide +kernel
theorem dX5_digest_115 : decode cX5_digest 115 = .ok (.lload_n 1, 1) := by decide +kernel
theorem dX5_digest_116 : decode cX5_digest 116 = .ok (.ldc2_w 173, 3) := by decide +kernel
theorem dX5_digest_119 : decode cX5_digest 119 = .ok (.lmul, 1) := by decide +kernel
theorem dX5_digest_120 : decode cX5_digest 120 = .ok (.aload_n 0, 1) := by decide +kernel
theorem dX5_digest_121 : decode cX5_digest 121 = .ok (.iload_n 3, 1) := by decide +kernel
theorem dX5_digest_122 : decode cX5_digest 122 = .ok (.iload 4, 2) := by decide +kernel
theorem dX5_digest_124 : decode cX5_digest 124 = .ok (.invokevirtual 168, 3) := by decide +kernel
theorem dX5_digest_127 : decode cX5_digest 127 = .ok (.i2l, 1) := by decide +kernel
theorem dX5_digest_128 : decode cX5_digest 128 = .ok (.ladd, 1) := by decide +kernel
theorem dX5_digest_129 : decode cX5_digest 129 = .ok (.lstore_n 1, 1) := by decide +kernel
theorem dX5_digest_130 : decode cX5_digest 130 = .ok (.iinc 4 1, 3) := by decide +kernel
theorem dX5_digest_133 : decode cX5_digest 133 = .ok (.goto (-24), 3) := by decide +kernel
theorem dX5_digest_136 : decode cX5_digest 136 = .ok (.iinc 3 1, 3) := by decide +kernel
theorem dX5_digest_139 : decode cX5_digest 139 = .ok (.goto (-39), 3) := by decide +kernel
theorem dX5_digest_142 : decode cX5_digest 142 = .ok (.iconst 0, 1) := by decide +kernel
theorem dX5_digest_143 : decode cX5_digest 143 = .ok (.istore_n 3, 1) := by decide +kernel
theorem dX5_digest_144 : decode cX5_digest 144 = .ok (.iload_n 3, 1) := by decide +kernel
theorem dX5_digest_145 : decode cX5_digest 145 = .ok (.aload_n 0, 1) := by decide +kernel
theorem dX5_digest_146 : decode cX5_digest 146 = .ok (.getfield 74, 3) := by decide +kernel
theorem dX5_digest_149 : decode cX5_digest 149 = .ok (.if_icmp .ge 34, 3) := by decide +kernel
theorem dX5_digest_152 : decode cX5_digest 152 = .ok (.lload_n 1, 1) := by decide +kernel
theorem dX5_digest_153 : decode cX5_digest 153 = .ok (.ldc2_w 173, 3) := by decide +kernel
theorem dX5_digest_156 : decode cX5_digest 156 = .ok (.lmul, 1) := by decide +kernel
theorem dX5_digest_157 : decode cX5_digest 157 = .ok (.aload_n 0, 1) := by decide +kernel
theorem dX5_digest_158 : decode cX5_digest 158 = .ok (.getfield 16, 3) := by decide +kernel
theorem dX5_digest_161 : decode cX5_digest 161 = .ok (.iload_n 3, 1) := by decide +kernel
theorem dX5_digest_162 : decode cX5_digest 162 = .ok (.iaload, 1) := by decide +kernel
theorem dX5_digest_163 : decode cX5_digest 163 = .ok (.i2l, 1) := by decide +kernel
theorem dX5_digest_164 : decode cX5_digest 164 = .ok (.ladd, 1) := by decide +kernel
theorem dX5_digest_165 : decode cX5_digest 165 = .ok (.ldc2_w 173, 3) := by decide +kernel
theorem dX5_digest_168 : decode cX5_digest 168 = .ok (.lmul, 1) := by decide +kernel
theorem dX5_digest_169 : decode cX5_digest 169 = .ok (.aload_n 0, 1) := by decide +kernel
theorem dX5_digest_170 : decode cX5_digest 170 = .ok (.iload_n 3, 1) := by decide +kernel
theorem dX5_digest_171 : decode cX5_digest 171 = .ok (.invokevirtual 159, 3) := by decide +kernel
theorem dX5_digest_174 : decode cX5_digest 174 = .ok (.i2l, 1) := by decide +kernel
theorem dX5_digest_175 : decode cX5_digest 175 = .ok (.ladd, 1) := by decide +kernel
theorem dX5_digest_176 : decode cX5_digest 176 = .ok (.lstore_n 1, 1) := by decide +kernel
theorem dX5_digest_177 : decode cX5_digest 177 = .ok (.iinc 3 1, 3) := by decide +kernel
theorem dX5_digest_180 : decode cX5_digest 180 = .ok (.goto (-36), 3) := by decide +kernel
theorem dX5_digest_183 : decode cX5_digest 183 = .ok (.lload_n 1, 1) := by decide +kernel
theorem dX5_digest_184 : decode cX5_digest 184 = .ok (.ldc2_w 173, 3) := by decide +kernel
theorem dX5_digest_187 : decode cX5_digest 187 = .ok (.lmul, 1) := by decide +kernel
theorem dX5_digest_188 : decode cX5_digest 188 = .ok (.aload_n 0, 1) := by decide +kernel
theorem dX5_digest_189 : decode cX5_digest 189 = .ok (.getfield 77, 3) := by decide +kernel
theorem dX5_digest_192 : decode cX5_digest 192 = .ok (.ladd, 1) := by decide +kernel
theorem dX5_digest_193 : decode cX5_digest 193 = .ok (.ldc2_w 173, 3) := by decide +kernel
theorem dX5_digest_196 : decode cX5_digest 196 = .ok (.lmul, 1) := by decide +kernel
theorem dX5_digest_197 : decode cX5_digest 197 = .ok (.aload_n 0, 1) := by decide +kernel
theorem dX5_digest_198 : decode cX5_digest 198 = .ok (.getfield 81, 3) := by decide +kernel
theorem dX5_digest_201 : decode cX5_digest 201 = .ok (.ladd, 1) := by decide +kernel
theorem dX5_digest_202 : decode cX5_digest 202 = .ok (.ldc2_w 173, 3) := by decide +kernel
theorem dX5_digest_205 : decode cX5_digest 205 = .ok (.lmul, 1) := by decide +kernel
theorem dX5_digest_206 : decode cX5_digest 206 = .ok (.aload_n 0, 1) := by decide +kernel
theorem dX5_digest_207 : decode cX5_digest 207 = .ok (.getfield 51, 3) := by decide +kernel
theorem dX5_digest_210 : decode cX5_digest 210 = .ok (.iconst 0, 1) := by decide +kernel
theorem dX5_digest_211 : decode cX5_digest 211 = .ok (.laload, 1) := by decide +kernel
theorem dX5_digest_212 : decode cX5_digest 212 = .ok (.ladd, 1) := by decide +kernel
theorem dX5_digest_213 : decode cX5_digest 213 = .ok (.ldc2_w 173, 3) := by decide +kernel
theorem dX5_digest_216 : decode cX5_digest 216 = .ok (.lmul, 1) := by decide +kernel
theorem dX5_digest_217 : decode cX5_digest 217 = .ok (.aload_n 0, 1) := by decide +kernel
theorem dX5_digest_218 : decode cX5_digest 218 = .ok (.getfield 51, 3) := by decide +kernel
theorem dX5_digest_221 : decode cX5_digest 221 = .ok (.iconst 2, 1) := by decide +kernel
theorem dX5_digest_222 : decode cX5_digest 222 = .ok (.laload, 1) := by decide +kernel
theorem dX5_digest_223 : decode cX5_digest 223 = .ok (.ladd, 1) := by decide +kernel
theorem dX5_digest_224 : decode cX5_digest 224 = .ok (.lreturn, 1) := by decide +kernel
theorem dJ9_max_7cf53_0 : decode cJ9_max_7cf53 0 = .ok (.iload_n 0, 1) := by decide +kernel
theorem dJ9_max_7cf53_1 : decode cJ9_max_7cf53 1 = .ok (.iload_n 1, 1) := by decide +kernel
theorem dJ9_max_7cf53_2 : decode cJ9_max_7cf53 2 = .ok (.if_icmp .lt 7, 3) := by decide +kernel
theorem dJ9_max_7cf53_5 : decode cJ9_max_7cf53 5 = .ok (.iload_n 0, 1) := by decide +kernel
theorem dJ9_max_7cf53_6 : decode cJ9_max_7cf53 6 = .ok (.goto 4, 3) := by decide +kernel
theorem dJ9_max_7cf53_9 : decode cJ9_max_7cf53 9 = .ok (.iload_n 1, 1) := by decide +kernel
theorem dJ9_max_7cf53_10 : decode cJ9_max_7cf53 10 = .ok (.ireturn, 1) := by decide +kernel
theorem dJ9_min_7cf53_0 : decode cJ9_min_7cf53 0 = .ok (.iload_n 0, 1) := by decide +kernel
theorem dJ9_min_7cf53_1 : decode cJ9_min_7cf53 1 = .ok (.iload_n 1, 1) := by decide +kernel
theorem dJ9_min_7cf53_2 : decode cJ9_min_7cf53 2 = .ok (.if_icmp .gt 7, 3) := by decide +kernel
theorem dJ9_min_7cf53_5 : decode cJ9_min_7cf53 5 = .ok (.iload_n 0, 1) := by decide +kernel
theorem dJ9_min_7cf53_6 : decode cJ9_min_7cf53 6 = .ok (.goto 4, 3) := by decide +kernel
theorem dJ9_min_7cf53_9 : decode cJ9_min_7cf53 9 = .ok (.iload_n 1, 1) := by decide +kernel
theorem dJ9_min_7cf53_10 : decode cJ9_min_7cf53 10 = .ok (.ireturn, 1) := by decide +kernel
set_option maxRecDepth 20000 in
theorem ggL_setSizes_X4_setSizes : GoodIn wsL_setSizes wsX4_setSizes := goodIn_ca (goodIn_r _ [6, 7, 8, 9, 10, 11, 12, 13, 5, 14, 15, 16, 17, 18, 19, 20, 21, 22, 23, 24, 25, 26, 27, 28, 29, 30, 31, 32, 33, 34, 35, 36, 37, 38, 39, 40, 41, 42, 43, 44, 45, 46, 47, 48, 49, 50, 51, 52, 53, 54, 55, 56, 57, 58, 59, 60, 61, 62, 63, 64, 65, 66, 67, 68, 69, 70, 71] (by decide +kernel) (by decide +kernel)) (goodIn_sub (fun _ h => List.mem_cons_of_mem _ (List.mem_append_right _ h)) (by decide +kernel))
set_option maxRecDepth 20000 in
theorem gL_setSizes_X4_setSizes : GoodIn wsL_setSizes (wsV RL 7 RX4 yX4_setSizes wsX4_setSizes) := goodIn_app (goodIn_of _ (by decide +kernel)) ggL_setSizes_X4_setSizes
end
section
/-! KEYED WORLDS: a world is a list of keys (kind, number), an address for each key, a content for each key. -/
abbrev kK : Type := Nat × Nat
def kw_up (e : kK → va_E) (k : kK) (v : va_E) : kK → va_E := fun j => if j = k then v else e j
def kw (ks : List kK) (g : kK → Nat) (e : kK → va_E) : va_W := ks.map fun k => (g k, e k)
theorem kw_get {ks : List kK} {g : kK → Nat} {e : kK → va_E} {Z : va_W} {i : Nat} {k : kK} (hi : ks[i]? = some k) : (kw ks g e ++ Z)[i]? = some (g k, e k) := by
  have hl : i < (kw ks g e).length := by
    simp only [kw, List.length_map]
    exact (List.getElem?_eq_some_iff.mp hi).1
  rw [List.getElem?_append_left hl]
  simp [kw, hi]
theorem kw_at {ks : List kK} {k : kK} (h : k ∈ ks) : ∃ i : Nat, ks[i]? = some k := List.getElem?_of_mem h
theorem kw_set {A : Nat → Prop} {ks : List kK} {g : kK → Nat} {e : kK → va_E} {Z : va_W} {i : Nat} {k : kK} {v : va_E} (hD : va_D A (kw ks g e ++ Z)) (hi : ks[i]? = some k) : (kw ks g e ++ Z).set i (g k, v) = kw ks g (kw_up e k v) ++ Z := by
  have hl : i < (kw ks g e).length := by
    simp only [kw, List.length_map]
    exact (List.getElem?_eq_some_iff.mp hi).1
  rw [List.set_append_left _ _ hl]
  congr 1
  apply List.ext_getElem?
  intro j
  by_cases hj : j = i
  · subst hj
    rw [List.getElem?_set_self hl]
    simp [kw, hi, kw_up]
  · rw [List.getElem?_set_ne (Ne.symm hj)]
    simp only [kw, List.getElem?_map]
    cases hk : ks[j]? with
    | none => rfl
    | some k' =>
      have hne : k' ≠ k := by
        intro he
        subst he
        exact hj (hD.1 j i (g k', e k') (g k', e k') (kw_get hk) (kw_get hi) rfl)
      simp [kw_up, hne]
/-- the state: ints, longs and flags, by kind, number and place -/
abbrev uS : Type := (Nat → Nat → Nat → Int32) × (Nat → Nat → Nat → Int64) × (Nat → Nat → Nat → Bool)
def uI (S : uS) (a b c : Nat) (v : Int32) : uS := (fun x y z => if x = a ∧ y = b ∧ z = c then v else S.1 x y z, S.2)
def uL (S : uS) (a b c : Nat) (v : Int64) : uS := (S.1, fun x y z => if x = a ∧ y = b ∧ z = c then v else S.2.1 x y z, S.2.2)
def uF (S : uS) (a b c : Nat) (v : Bool) : uS := (S.1, S.2.1, fun x y z => if x = a ∧ y = b ∧ z = c then v else S.2.2 x y z)
def bI : Bool → Int32
  | true => 1
  | false => 0
theorem bI_nar (b : Bool) : narrow .boolean (.int (bI b)) = .int (bI b) := by cases b <;> rfl
theorem bI_fit (b : Bool) : fits .boolean (.int (bI b)) = true := by cases b <;> rfl
theorem bI_vn (b : Bool) : vp_nar .boolean (bI b) = bI b := by cases b <;> rfl
theorem bI_0 (b : Bool) : bI b = 0 ↔ b = false := by cases b <;> simp [bI]
theorem bI_eq (a b : Bool) : bI a = bI b ↔ a = b := by cases a <;> cases b <;> simp [bI]
/-- where things lie: the classes' numbers, the array classes, the addresses by keys -/
abbrev gG : Type := va_G × (Nat → ClassId) × (kK → Nat)
abbrev gTy (G : gG) : List (ClassId × FieldType) := [(G.2.1 0, .int), (G.2.1 1, .long), (G.2.1 2, .boolean), (G.2.1 3, .object "BranchPredictor$Branch"), (G.2.1 4, .object "BranchPredictor$Loop")]
/-- what lies at a key: 0 the predictor, 1 its tables, 2 their rows, 3 its audits, 4 their rows, 5 the ring, 6 the loops' row, 7 the misses, 8 the branches, 9 the loops; 10 the model, 11 its int rows, 12 its flag rows, 13 its long rows; 14 the law's row -/
def eE (G : gG) (k : kK) (i : Nat → Int32) (l : Nat → Int64) (f : Nat → Bool) : va_E := match k.1 with
  | 0 => .inr (4, [.ref (G.2.2 (1, 0)), .ref (G.2.2 (1, 1)), .ref (G.2.2 (1, 2)), .ref (G.2.2 (3, 0)), .ref (G.2.2 (3, 1)), .ref (G.2.2 (5, 0)), .ref (G.2.2 (6, 0)), .ref (G.2.2 (7, 0)), .int (i 8), .int (i 9), .int (i 10), .int (i 11), .int (i 12), .int (i 13), .long (l 14), .long (l 15)])
  | 1 => .inr (2, [.ref (G.2.2 (2, k.2)), .int (i 1)])
  | 2 => .inl (G.2.1 0, 256, .inl i)
  | 3 => .inr (0, [.ref (G.2.2 (4, k.2)), .long (l 1), .long (l 2)])
  | 4 => .inl (G.2.1 0, 256, .inl i)
  | 5 => .inl (G.2.1 3, 16, .inr (.inr (.inr (.inr (fun j => some (G.2.2 (8, j)))))))
  | 6 => .inl (G.2.1 4, 8, .inr (.inr (.inr (.inr (fun j => some (G.2.2 (9, j)))))))
  | 7 => .inl (G.2.1 1, 4, .inr (.inl l))
  | 8 => .inr (1, [.int (i 0), .int (i 1), .int (i 2), .int (i 3), .int (i 4), .int (bI (f 5)), .int (bI (f 6)), .int (bI (f 7)), .int (bI (f 8))])
  | 9 => .inr (3, [.int (i 0), .int (i 1), .int (i 2), .int (i 3)])
  | 10 => .inr (5, [.int (i 0), .int (i 1), .int (i 2), .int (i 3), .int (i 4), .ref (G.2.2 (11, 0)), .ref (G.2.2 (11, 1)), .int (i 7), .ref (G.2.2 (11, 2)), .ref (G.2.2 (11, 3)), .ref (G.2.2 (12, 0)), .ref (G.2.2 (12, 1)), .ref (G.2.2 (12, 2)), .ref (G.2.2 (12, 3)), .ref (G.2.2 (11, 4)), .ref (G.2.2 (11, 5)), .ref (G.2.2 (11, 6)), .ref (G.2.2 (11, 7)), .long (l 18), .long (l 19), .ref (G.2.2 (13, 0)), .ref (G.2.2 (13, 1))])
  | 11 => .inl (G.2.1 0, (match k.2 with | 0 => 768 | 1 => 512 | 2 => 16 | 3 => 16 | _ => 8), .inl i)
  | 12 => .inl (G.2.1 2, (match k.2 with | 0 => 64 | 1 => 16 | 2 => 16 | _ => 8), .inl (fun j => bI (f j)))
  | 13 => .inl (G.2.1 1, 4, .inr (.inl l))
  | _ => .inl (G.2.1 1, 1, .inr (.inl l))
def eU (G : gG) (S : uS) (k : kK) : va_E := eE G k (S.1 k.1 k.2) (S.2.1 k.1 k.2) (S.2.2 k.1 k.2)
theorem eU_uI (G : gG) (S : uS) (a b c : Nat) (v : Int32) : kw_up (eU G S) (a, b) (eE G (a, b) (upd (S.1 a b) c v) (S.2.1 a b) (S.2.2 a b)) = eU G (uI S a b c v) := by
  funext k
  obtain ⟨x, y⟩ := k
  by_cases h : (x, y) = (a, b)
  · cases h
    simp only [kw_up, if_true, eU, uI]
    congr 1
    funext z
    simp [upd]
  · have h2 : ¬ (x = a ∧ y = b) := fun q => h (by rw [q.1, q.2])
    simp only [kw_up, if_neg h, eU, uI]
    congr 1
    funext z
    rw [if_neg (fun q => h2 ⟨q.1, q.2.1⟩)]
theorem eU_uL (G : gG) (S : uS) (a b c : Nat) (v : Int64) : kw_up (eU G S) (a, b) (eE G (a, b) (S.1 a b) (vp_updL (S.2.1 a b) c v) (S.2.2 a b)) = eU G (uL S a b c v) := by
  funext k
  obtain ⟨x, y⟩ := k
  by_cases h : (x, y) = (a, b)
  · cases h
    simp only [kw_up, if_true, eU, uL]
    congr 1
    funext z
    simp [vp_updL]
  · have h2 : ¬ (x = a ∧ y = b) := fun q => h (by rw [q.1, q.2])
    simp only [kw_up, if_neg h, eU, uL]
    congr 1
    funext z
    rw [if_neg (fun q => h2 ⟨q.1, q.2.1⟩)]
def updF (f : Nat → Bool) (k : Nat) (x : Bool) : Nat → Bool := fun j => if j = k then x else f j
theorem eU_uF (G : gG) (S : uS) (a b c : Nat) (v : Bool) : kw_up (eU G S) (a, b) (eE G (a, b) (S.1 a b) (S.2.1 a b) (updF (S.2.2 a b) c v)) = eU G (uF S a b c v) := by
  funext k
  obtain ⟨x, y⟩ := k
  by_cases h : (x, y) = (a, b)
  · cases h
    simp only [kw_up, if_true, eU, uF]
    congr 1
    funext z
    simp [updF]
  · have h2 : ¬ (x = a ∧ y = b) := fun q => h (by rw [q.1, q.2])
    simp only [kw_up, if_neg h, eU, uF]
    congr 1
    funext z
    rw [if_neg (fun q => h2 ⟨q.1, q.2.1⟩)]
theorem updF_bI (f : Nat → Bool) (k : Nat) (b : Bool) : upd (fun j => bI (f j)) k (bI b) = fun j => bI (updF f k b j) := by
  funext j
  by_cases h : j = k <;> simp [upd, updF, h]
abbrev vwCl : List vw_C := [(RX0, TX0, 3), (RX1, TX1, 9), (RX2, TX2, 2), (RX3, TX3, 4), (RX4, TX4, 16), (RX5, TX5, 22)]
end
section
/-! CONTRACTS over keyed worlds -/
def kS (G : gG) (ks : List kK) (S : uS) (Z : va_W) (A : Nat → Prop) (H0 H : Heap) (locs : List Loc) : Prop := va_P G.1 vwCl (kw ks G.2.2 (eU G S) ++ Z) H ∧ va_D A (kw ks G.2.2 (eU G S) ++ Z) ∧ va_S A H0 H locs
/-- the addresses that a method may change: its world's, and new ones -/
def kA (G : gG) (ks : List kK) (Z : va_W) (sz : Nat) : Nat → Prop := fun q => (∃ k ∈ ks, q = G.2.2 k) ∨ (∃ z ∈ Z, q = z.1) ∨ sz ≤ q
/-- a String constant of the predictor's class: its entry, its text -/
def kTx : Nat → String := fun k => match k with
  | 100 => "the branch is resolved already"
  | 106 => "no branch can be committed"
  | 112 => "a branch is in flight"
  | 114 => "there are not so many branches in flight"
  | 137 => "a table is 0 to 2"
  | 147 => "there is no such counter"
  | 152 => "a number is 0 to 7, what is 0 to 4"
  | 178 => "a table with meetings is 0 or 1"
  | 200 => "a place is 0 to 65535"
  | 202 => "a kind of prediction is 0 to 3"
  | 204 => "there is no such branch in flight"
  | 70 => "p and g are 2 to 8, h is 0 to g"
  | 84 => "16 branches are in flight"
  | _ => ""
def kTk : List Nat := [100, 106, 112, 114, 137, 147, 152, 178, 200, 202, 204, 70, 84]
def kN (G : gG) (U : State) : Prop := (∀ k ∈ kTk, vk_R RX4 k (kTx k) (G.2.2 (20, k)) U) ∧ va_Nw (.methodLinkNest RX2 32 yX4_mix "BranchPredictor") U ∧ va_Nw (.methodLinkNest RX3 36 yX4_mix "BranchPredictor") U ∧ va_Nw (.methodLinkNest RX4 11 yX2_init "BranchPredictor") U ∧ va_Nw (.methodLinkNest RX4 24 yX0_init "BranchPredictor") U ∧ va_Nw (.methodLinkNest RX4 58 yX1_init "BranchPredictor") U ∧ va_Nw (.methodLinkNest RX4 59 yX3_init "BranchPredictor") U ∧ va_Nc "java/lang/IllegalStateException" "java/lang/IllegalArgumentException" U ∧ va_Nc "java/lang/IllegalStateException" "java/lang/IndexOutOfBoundsException" U
theorem kN.warm {G : gG} {s U : State} (hW : s.WarmedH U.vm) (h : kN G s) : kN G U := by
  obtain ⟨h0, h1, h2, h3, h4, h5, h6, h7, h8⟩ := h
  exact ⟨fun k hk => (h0 k hk).warm hW, h1.warmM hW, h2.warmM hW, h3.warmM hW, h4.warmM hW, h5.warmM hW, h6.warmM hW, h7.moved hW.alike, h8.moved hW.alike⟩
theorem kN.same {G : gG} {s U : State} (hv : s.vm = U.vm) (h : kN G s) : kN G U := by
  obtain ⟨h0, h1, h2, h3, h4, h5, h6, h7, h8⟩ := h
  have ha : s.vm.Alike U.vm := by rw [hv]; exact Vm.Alike.refl U.vm
  exact ⟨fun k hk => (h0 k hk).same hv.symm, h1.same rfl hv, h2.same rfl hv, h3.same rfl hv, h4.same rfl hv, h5.same rfl hv, h6.same rfl hv, h7.moved ha, h8.moved ha⟩
def kZ (A : Nat → Prop) (U : State) (H : Heap) : Prop := vx_Zq Bundle.tN "UNASSIGNED_STACK" Bundle.steD A U H ∧ vx_Zq Bundle.tN "SUPPRESSED_SENTINEL" Bundle.listD A U H
theorem kZ.moved {A : Nat → Prop} {u U : State} {H : Heap} (hvm : u.vm.Alike U.vm) (h : kZ A u H) : kZ A U H := ⟨h.1.moved hvm, h.2.moved hvm⟩
theorem kZ.kept {A : Nat → Prop} {U : State} {H H1 : Heap} (h : kZ A U H) (hq : ∀ a : Nat, a < H.size → ¬ A a → H1[a]? = H[a]?) : kZ A U H1 := ⟨h.1.kept hq, h.2.kept hq⟩
theorem kZ.narrow {A B : Nat → Prop} {U : State} {H : Heap} (h : kZ A U H) (hAB : ∀ q, B q → A q) : kZ B U H := ⟨h.1.narrow hAB, h.2.narrow hAB⟩
def kPc (G : gG) (ks : List kK) (S : uS) (Z : va_W) (sz : Nat) (av : List Value) : Array Value → State → Prop := va_Pc av (fun U => U.heap.size = sz ∧ va_P G.1 vwCl (kw ks G.2.2 (eU G S) ++ Z) U.heap ∧ va_K G.1 vwCl (gTy G) U ∧ va_D (fun _ => True) (kw ks G.2.2 (eU G S) ++ Z) ∧ kN G U ∧ kZ (kA G ks Z sz) U U.heap)
theorem kPc.blind {G : gG} {ks : List kK} {S : uS} {Z : va_W} {sz : Nat} {av : List Value} : FrameBlind (kPc G ks S Z sz av) := by
  intro a U g mk q
  obtain ⟨q0, q1, qP, qK, qD, qN, qZ⟩ := q
  exact ⟨q0, q1, qP, va_K.moved (u := U) (U := U.calling g mk a) (Vm.Alike.refl U.vm) qK, qD, qN.same (U := U.calling g mk a) rfl, kZ.moved (u := U) (U := U.calling g mk a) (Vm.Alike.refl U.vm) qZ⟩
def kB (G : gG) (ks : List kK) (Z : va_W) (A : Nat → Prop) (u : uS) (t : State) : Prop := va_P G.1 vwCl (kw ks G.2.2 (eU G u) ++ Z) t.heap ∧ va_K G.1 vwCl (gTy G) t ∧ va_D A (kw ks G.2.2 (eU G u) ++ Z)
def kQ (G : gG) (ks : List kK) (Z : va_W) (A : Nat → Prop) (v : Option Value) (u : uS) : Array Value → State → Outcome → State → Prop := fun _ st oc t => (oc = .returned v ∧ kB G ks Z A u t) ∧ va_F A st t
/-- THE CONTRACT: in the world of S, with the arguments av, the method returns v and leaves the world of u -/
def kMet (l : Launch) (y : MethodName) (ws : List Cond) (rm : Room) (G : gG) (ks : List kK) (Z : va_W) (S : uS) (av : List Value) (v : Option Value) (u : uS) : Prop := ∀ sz : Nat, Met l y ws rm (kPc G ks S Z sz av) (kQ G ks Z (kA G ks Z sz) v u) 0 0 (kA G ks Z sz)
theorem kA_D {G : gG} {ks : List kK} {Z : va_W} {S : uS} {A : Nat → Prop} {sz : Nat} (h : va_D A (kw ks G.2.2 (eU G S) ++ Z)) : va_D (kA G ks Z sz) (kw ks G.2.2 (eU G S) ++ Z) := by
  refine h.weaken (fun k q hk _ => ?_)
  rcases List.mem_append.mp (List.mem_of_getElem? hk) with h1 | h1
  · obtain ⟨x, hx, he⟩ := List.mem_map.mp h1
    exact Or.inl ⟨x, hx, by rw [← he]⟩
  · exact Or.inr (Or.inl ⟨q, h1, rfl⟩)
theorem kA_in {G : gG} {ks : List kK} {Z : va_W} {S : uS} {A : Nat → Prop} {H0 H : Heap} {locs : List Loc} (hw : kS G ks S Z A H0 H locs) (hA : ∀ q, H0.size ≤ q → A q) : ∀ q, kA G ks Z H.size q → A q := by
  intro q h
  rcases h with ⟨k, hk, rfl⟩ | ⟨z, hz, rfl⟩ | h
  · obtain ⟨i, hi⟩ := List.getElem?_of_mem (show (G.2.2 k, eU G S k) ∈ kw ks G.2.2 (eU G S) ++ Z from List.mem_append_left _ (List.mem_map.mpr ⟨k, hk, rfl⟩))
    exact hw.2.1.2 i _ hi
  · obtain ⟨i, hi⟩ := List.getElem?_of_mem (show z ∈ kw ks G.2.2 (eU G S) ++ Z from List.mem_append_right _ hz)
    exact hw.2.1.2 i _ hi
  · exact hA q (Nat.le_trans hw.2.2.1 h)
/-- two roads that meet again with one value each -/
theorem k_join {α : Type} {P : α → Prop} {g C : Prop} [Decidable C] {a b : α} (k : P (if C then a else b)) (br : (C → P a) → (¬ C → P b) → g) : g := br (fun h => by rw [if_pos h] at k; exact k) (fun h => by rw [if_neg h] at k; exact k)
theorem vp_lt {i : Int32} {n : Nat} (h : vp_in i n) : i.toNatClampNeg < n := Nat.not_le.mp fun q => h (Or.inr q)
section KR
variable {p : Program} {l : Launch} {e : Env} {R : Room} {s : State} {m : MethodId} {args : Array Value} {below : List Frame} {meth : Method} {c : Code} {H : Heap} {locs : List Loc} {cells slots : Nat} {Q : State → Prop}
variable {cc : ByteArray} {pc : Nat} {ls : Array Slot} {rest : List Value} {G : gG} {ks : List kK} {S : uS} {Z : va_W} {A : Nat → Prop} {H0 : Heap} {Ts : List Cond} {own : String} {index : Nat}
/-- a method's body, from its first instruction -/
theorem kMet_of {y : MethodName} {ws ws' : List Cond} {rm : Room} {av : List Value} {v : Option Value} {u : uS} {maxL : Nat} {ret : Option FieldType} (hy : plainName y.cls = true) (hw : ws = Cond.code y cc maxL ret :: ws') (hav : (lg_sl av).length ≤ maxL)
    (body : ∀ (p : Program) (e : Env) (s : State) (m : MethodId) (below : List Frame) (meth : Method) (c : Code), p.tables.exec = Jvm.exec → c.code = cc → meth.sig.returnType = ret → c.maxLocals = maxL → meth.locks = false → (∀ w ∈ ws, w.before av.toArray s = true) → s.vm.findClass y.cls = some m.cls → va_K G.1 vwCl (gTy G) s → kN G s → ∀ A : Nat → Prop, kZ A s s.heap → (∀ q, s.heap.size ≤ q → A q) → ∀ (H : Heap) (locs : List Loc), kS G ks S Z A s.heap H locs → ∀ ls : Array Slot, lv_has ls maxL (lv_args 0 av) →
      W p l e rm s m av.toArray below meth c H locs 0 0 (MQ below (kQ G ks Z A v u) av.toArray s 0 0 A) (F0 m 0 ls [])) : kMet l y ws rm G ks Z S av v u := by
  intro sz
  refine Met.ofW (cc := cc) (maxL := maxL) (ret := ret) hy hw ?_
  intro p e s m args below meth c s₁ B hml hv
  obtain ⟨rfl, hsz, hP, hK, hD0, hN, hZ⟩ := hv
  have hts := atoms_spec (ws := ws) B.pre
  have hown : s.vm.findClass y.cls = some m.cls := findClass_of_methodNamed B.named
  subst hsz
  have hl := lv_entry av (n := maxL) hav
  rw [lg_entry_eq]
  exact body p e s m below meth c B.exec B.bytes B.returns hml B.notSynchronized hts hown hK hN (kA G ks Z s.heap.size) hZ (fun q h => Or.inr (Or.inr h)) s.heap [] ⟨hP, kA_D hD0, va_S.rf⟩ _ hl
theorem k_q {v : Option Value} {u u' : uS} {v' : Option Value} (hK : va_K G.1 vwCl (gTy G) s) (hw : kS G ks u' Z A s.heap H locs) (hv : v = v') (hu : u = u') : ∀ t : State, t.heap = H → s.WarmedH t.vm → kQ G ks Z A v u args s (.returned v') t := by
  intro t ht hW
  subst hv hu
  exact ⟨⟨rfl, by rw [ht]; exact hw.1, va_K.moved hW.alike hK, hw.2.1⟩, hw.2.2.F ht⟩
theorem k_iret {v : Option Value} {u u' : uS} {r : Int32} (hx : p.tables.exec = Jvm.exec) (hb : c.code = cc) (hr : meth.sig.returnType = some .int) (hlocks : meth.locks = false) (hK : va_K G.1 vwCl (gTy G) s) (hw : kS G ks u' Z A s.heap H locs) (hv : v = some (.int r)) (hu : u = u') (hdg : decode cc pc = .ok (.ireturn, 1)) : W p l e R s m args below meth c H locs cells slots (MQ below (kQ G ks Z A v u) args s cells slots A) (F0 m pc ls [.int r]) :=
  W.iret hx hb hr (k_q hK hw hv hu) hw.2.2.2.2 hdg hlocks
theorem k_zret {v : Option Value} {u u' : uS} {r : Bool} (hx : p.tables.exec = Jvm.exec) (hb : c.code = cc) (hr : meth.sig.returnType = some .boolean) (hlocks : meth.locks = false) (hK : va_K G.1 vwCl (gTy G) s) (hw : kS G ks u' Z A s.heap H locs) (hv : v = some (.int (bI r))) (hu : u = u') (hdg : decode cc pc = .ok (.ireturn, 1)) : W p l e R s m args below meth c H locs cells slots (MQ below (kQ G ks Z A v u) args s cells slots A) (F0 m pc ls [.int (bI r)]) :=
  W.zret hx hb hr (bI_nar r) (k_q hK hw hv hu) hw.2.2.2.2 hdg hlocks
theorem k_lret {v : Option Value} {u u' : uS} {r : Int64} (hx : p.tables.exec = Jvm.exec) (hb : c.code = cc) (hr : meth.sig.returnType = some .long) (hlocks : meth.locks = false) (hK : va_K G.1 vwCl (gTy G) s) (hw : kS G ks u' Z A s.heap H locs) (hv : v = some (.long r)) (hu : u = u') (hdg : decode cc pc = .ok (.lreturn, 1)) : W p l e R s m args below meth c H locs cells slots (MQ below (kQ G ks Z A v u) args s cells slots A) (F0 m pc ls [.long r]) :=
  W.lret hx hb hr (k_q hK hw hv hu) hw.2.2.2.2 hdg hlocks
theorem k_vret {v : Option Value} {u u' : uS} (hx : p.tables.exec = Jvm.exec) (hb : c.code = cc) (hr : meth.sig.returnType = none) (hlocks : meth.locks = false) (hK : va_K G.1 vwCl (gTy G) s) (hw : kS G ks u' Z A s.heap H locs) (hv : v = none) (hu : u = u') (hdg : decode cc pc = .ok (.return_, 1)) : W p l e R s m args below meth c H locs cells slots (MQ below (kQ G ks Z A v u) args s cells slots A) (F0 m pc ls []) :=
  W.vret hx hb hr (k_q hK hw hv hu) hw.2.2.2.2 hdg hlocks
theorem k_aret {v : Option Value} {u u' : uS} {r : Nat} {C : String} (hx : p.tables.exec = Jvm.exec) (hb : c.code = cc) (hr : meth.sig.returnType = some (.object C)) (hlocks : meth.locks = false) (hK : va_K G.1 vwCl (gTy G) s) (hw : kS G ks u' Z A s.heap H locs) (hv : v = some (.ref r)) (hu : u = u') (hdg : decode cc pc = .ok (.areturn, 1)) : W p l e R s m args below meth c H locs cells slots (MQ below (kQ G ks Z A v u) args s cells slots A) (F0 m pc ls [.ref r]) :=
  W.aret hx hb hr (Or.inl ⟨C, rfl⟩) (Or.inr ⟨r, rfl⟩) (k_q hK hw hv hu) hw.2.2.2.2 hdg hlocks
/-- a call: what comes behind it -/
theorem k_call {v : Option Value} {u : uS} {st0 : List Value} {a : Array Value} (hr : va_Run p l e R s m args below meth c H locs cells slots 0 0 (F0 m pc ls st0) rest (kQ G ks Z (kA G ks Z H.size) v u a) (kA G ks Z H.size)) (hw : kS G ks S Z A s.heap H locs) (hA : ∀ q, s.heap.size ≤ q → A q)
    (kk : ∀ (H1 : Heap) (locs1 : List Loc), kS G ks u Z A s.heap H1 locs1 → W p l e R s m args below meth c H1 locs1 cells slots Q (F0 m (pc + 3) ls (v.toList ++ rest))) : W p l e R s m args below meth c H locs cells slots Q (F0 m pc ls st0) := by
  have hin := kA_in hw hA
  intro T hT X
  obtain ⟨v', st₀, t, T', L, h0, X', hL, e1, e2, ⟨⟨hv, hP1, hK1, hD1⟩, hz, hk⟩, st⟩ := hr T hT X
  cases hv
  rw [h0] at hz hk
  have hS := hw.2.2
  obtain ⟨t2, a1, b1⟩ := kk T'.heap (locs ++ L) ⟨by rw [e1]; exact hP1, hD1.weaken (fun _ q _ h => hin q.1 h), Nat.le_trans hS.1 (by rw [e1]; exact hz), fun q h1 h2 => by rw [e1, hk q (Nat.lt_of_lt_of_le h1 hS.1) (fun z => h2 (hin q z))]; exact hS.2.1 q h1 h2, fun q hq => by
      rcases List.mem_append.mp hq with h | h
      · exact hS.2.2 q h
      · exact hin _ (hL q h)⟩ T' rfl X'
  exact ⟨t2, st t2 a1, b1⟩
theorem k_pre {av : List Value} (hK : va_K G.1 vwCl (gTy G) s) (hN : kN G s) (hZ : kZ A s s.heap) (hw : kS G ks S Z A s.heap H locs) (hA : ∀ q, s.heap.size ≤ q → A q) : ∀ U : State, U.heap = H → s.WarmedH U.vm → kPc G ks S Z H.size av av.toArray U := by
  intro U hU hW
  refine ⟨rfl, by rw [hU], by rw [hU]; exact hw.1, va_K.moved hW.alike hK, hw.2.1.weaken (fun _ _ _ _ => trivial), hN.warm hW, ?_⟩
  rw [hU]
  exact ((hZ.kept (fun a h1 h2 => hw.2.2.2.1 a h1 h2)).narrow (kA_in hw hA)).moved hW.alike
theorem k_recv {k : kK} {ci : Nat} {fs : List Value} {q : vw_C} (hK : va_K G.1 vwCl (gTy G) s) (hw : kS G ks S Z A H0 H locs) (hk : k ∈ ks) (he : eU G S k = .inr (ci, fs)) (hc : vwCl[ci]? = some q) : ∃ cell : Cell, H[G.2.2 k]? = some cell ∧ cell.vm.isStatics = false ∧ s.vm.findClass q.1 = some cell.cls := by
  obtain ⟨i, hi⟩ := kw_at hk
  have h1 := kw_get (g := G.2.2) (e := eU G S) (Z := Z) hi
  rw [he] at h1
  exact va_recv hK hw.1 hc h1
section
variable {y : MethodName} {bytes : ByteArray} {maxL nL n : Nat} {ret : Option FieldType} {ws : List Cond} {rm : Room} {C : String} {As : List Value} {v : Option Value} {u : uS} {b : Nat}
theorem k_callV {st0 : List Value} (hF : CallFix p m c cc nL s args Ts own) (hM : kMet l y ws rm G ks Z S (.ref b :: As) v u) (cw : CallW R s args own C index y bytes maxL ret ws rm 0 0 n) (hrec : ∃ cell : Cell, H[b]? = some cell ∧ cell.vm.isStatics = false ∧ s.vm.findClass C = some cell.cls)
    (hK : va_K G.1 vwCl (gTy G) s) (hN : kN G s) (hZ : kZ A s s.heap) (hA : ∀ q, s.heap.size ≤ q → A q) (hw : kS G ks S Z A s.heap H locs) (hc0 : cells ≤ R.cells) (hs0 : slots ≤ R.slots) (hn : As.length = n) (hsize : ls.size = nL) (hst : st0 = As.reverse ++ .ref b :: rest) (hR : (rest.map fun v => v.category).sum ≤ 8) (hdg : decode cc pc = .ok (.invokevirtual index, 3))
    (kk : ∀ (H1 : Heap) (locs1 : List Loc), kS G ks u Z A s.heap H1 locs1 → W p l e R s m args below meth c H1 locs1 cells slots Q (F0 m (pc + 3) ls (v.toList ++ rest))) : W p l e R s m args below meth c H locs cells slots Q (F0 m pc ls st0) :=
  k_call (va_runV (As := As) (rest := rest) hF (hM H.size) cw ⟨kPc.blind, hrec, k_pre hK hN hZ hw hA⟩ rfl hn hsize hst (lv_room hR) hdg ⟨hc0, hs0⟩) hw hA kk
theorem k_callS {st0 : List Value} (hF : CallFix p m c cc nL s args Ts own) (hM : kMet l y ws rm G ks Z S As v u) (cw : CallB R s args own index y bytes maxL ret ws rm 0 0 n ∧ (Cond.static y).before args s = true)
    (hK : va_K G.1 vwCl (gTy G) s) (hN : kN G s) (hZ : kZ A s s.heap) (hA : ∀ q, s.heap.size ≤ q → A q) (hw : kS G ks S Z A s.heap H locs) (hc0 : cells ≤ R.cells) (hs0 : slots ≤ R.slots) (hn : As.length = n) (hsize : ls.size = nL) (hst : st0 = As.reverse ++ rest) (hR : (rest.map fun v => v.category).sum ≤ 8) (hdg : decode cc pc = .ok (.invokestatic index, 3))
    (kk : ∀ (H1 : Heap) (locs1 : List Loc), kS G ks u Z A s.heap H1 locs1 → W p l e R s m args below meth c H1 locs1 cells slots Q (F0 m (pc + 3) ls (v.toList ++ rest))) : W p l e R s m args below meth c H locs cells slots Q (F0 m pc ls st0) :=
  k_call (va_runS (As := As) (rest := rest) hF (hM H.size) cw ⟨kPc.blind, k_pre hK hN hZ hw hA⟩ rfl hn hsize hst (lv_room hR) hdg ⟨hc0, hs0⟩) hw hA kk
theorem k_callSN {host : String} {st0 : List Value} (hF : CallFix p m c cc nL s args Ts own) (hM : kMet l y ws rm G ks Z S As v u) (cw : va_CN R s args own index y host bytes maxL ret ws rm 0 0 n ∧ (Cond.static y).before args s = true ∧ True)
    (hK : va_K G.1 vwCl (gTy G) s) (hN : kN G s) (hZ : kZ A s s.heap) (hA : ∀ q, s.heap.size ≤ q → A q) (hw : kS G ks S Z A s.heap H locs) (hc0 : cells ≤ R.cells) (hs0 : slots ≤ R.slots) (hn : As.length = n) (hsize : ls.size = nL) (hst : st0 = As.reverse ++ rest) (hR : (rest.map fun v => v.category).sum ≤ 8) (hdg : decode cc pc = .ok (.invokestatic index, 3))
    (kk : ∀ (H1 : Heap) (locs1 : List Loc), kS G ks u Z A s.heap H1 locs1 → W p l e R s m args below meth c H1 locs1 cells slots Q (F0 m (pc + 3) ls (v.toList ++ rest))) : W p l e R s m args below meth c H locs cells slots Q (F0 m pc ls st0) :=
  k_call (va_runSN (As := As) (rest := rest) hF (hM H.size) cw ⟨kPc.blind, k_pre hK hN hZ hw hA⟩ rfl hn hsize hst (lv_room hR) hdg ⟨hc0, hs0⟩) hw hA kk
end
/-- the same value under another name -/
theorem k_topi {x z : Int32} (h : x = z) (kk : W p l e R s m args below meth c H locs cells slots Q (F0 m pc ls (.int z :: rest))) : W p l e R s m args below meth c H locs cells slots Q (F0 m pc ls (.int x :: rest)) := by rw [h]; exact kk
theorem k_topz {x z : Bool} (h : x = z) (kk : W p l e R s m args below meth c H locs cells slots Q (F0 m pc ls (.int (bI z) :: rest))) : W p l e R s m args below meth c H locs cells slots Q (F0 m pc ls (.int (bI x) :: rest)) := by rw [h]; exact kk
theorem k_topl {x z : Int64} (h : x = z) (kk : W p l e R s m args below meth c H locs cells slots Q (F0 m pc ls (.long z :: rest))) : W p l e R s m args below meth c H locs cells slots Q (F0 m pc ls (.long x :: rest)) := by rw [h]; exact kk
/-- branches on flags -/
theorem k_if_eq {b : Bool} {off : Int} {tgt : Nat} (hx : p.tables.exec = Jvm.exec) (hb : c.code = cc) (hdg : decode cc pc = .ok (.ifCond .eq off, 3)) (ht : (pc : Int) + off = (tgt : Int)) (kt : b = false → W p l e R s m args below meth c H locs cells slots Q (F0 m tgt ls rest)) (kf : ¬ b = false → W p l e R s m args below meth c H locs cells slots Q (F0 m (pc + 3) ls rest)) : W p l e R s m args below meth c H locs cells slots Q (F0 m pc ls (.int (bI b) :: rest)) :=
  lv_if_eq hx hb hdg ht (fun h => kt ((bI_0 b).mp h)) (fun h => kf (fun h2 => h ((bI_0 b).mpr h2)))
theorem k_if_ne {b : Bool} {off : Int} {tgt : Nat} (hx : p.tables.exec = Jvm.exec) (hb : c.code = cc) (hdg : decode cc pc = .ok (.ifCond .ne off, 3)) (ht : (pc : Int) + off = (tgt : Int)) (kt : ¬ b = false → W p l e R s m args below meth c H locs cells slots Q (F0 m tgt ls rest)) (kf : b = false → W p l e R s m args below meth c H locs cells slots Q (F0 m (pc + 3) ls rest)) : W p l e R s m args below meth c H locs cells slots Q (F0 m pc ls (.int (bI b) :: rest)) :=
  lv_if_ne hx hb hdg ht (fun h => kt (fun h2 => h ((bI_0 b).mpr h2))) (fun h => kf ((bI_0 b).mp h))
theorem k_icmp_eq {a b : Bool} {off : Int} {tgt : Nat} (hx : p.tables.exec = Jvm.exec) (hb : c.code = cc) (hdg : decode cc pc = .ok (.if_icmp .eq off, 3)) (ht : (pc : Int) + off = (tgt : Int)) (kt : a = b → W p l e R s m args below meth c H locs cells slots Q (F0 m tgt ls rest)) (kf : ¬ a = b → W p l e R s m args below meth c H locs cells slots Q (F0 m (pc + 3) ls rest)) : W p l e R s m args below meth c H locs cells slots Q (F0 m pc ls (.int (bI b) :: .int (bI a) :: rest)) :=
  lv_icmp_eq hx hb hdg ht (fun h => kt ((bI_eq a b).mp h)) (fun h => kf (fun h2 => h ((bI_eq a b).mpr h2)))
theorem k_icmp_ne {a b : Bool} {off : Int} {tgt : Nat} (hx : p.tables.exec = Jvm.exec) (hb : c.code = cc) (hdg : decode cc pc = .ok (.if_icmp .ne off, 3)) (ht : (pc : Int) + off = (tgt : Int)) (kt : ¬ a = b → W p l e R s m args below meth c H locs cells slots Q (F0 m tgt ls rest)) (kf : a = b → W p l e R s m args below meth c H locs cells slots Q (F0 m (pc + 3) ls rest)) : W p l e R s m args below meth c H locs cells slots Q (F0 m pc ls (.int (bI b) :: .int (bI a) :: rest)) :=
  lv_icmp_ne hx hb hdg ht (fun h => kt (fun h2 => h ((bI_eq a b).mpr h2))) (fun h => kf ((bI_eq a b).mp h))
/-- fields -/
theorem kr_get (hx : p.tables.exec = Jvm.exec) (hb : c.code = cc) {C : String} {T : u_T} {N ci : Nat} (hts : ∀ w ∈ Ts, w.before args s = true) (hin : ∀ w ∈ u_ws C T N, w ∈ Ts) (hown : s.vm.findClass own = some m.cls) (hK : va_K G.1 vwCl (gTy G) s) (hw : kS G ks S Z A H0 H locs) {k : kK} (hk : k ∈ ks) {fs : List Value} (he : eU G S k = .inr (ci, fs)) (hc : vwCl[ci]? = some (C, T, N)) (j : Nat) (hj : j < N)
    (hlink : (Cond.fieldLink own index (T j).1 (T j).2.1 (T j).2.2.1).before args s = true) {v : Value} (hv : fs[j]? = some v) (hdg : decode cc pc = .ok (.getfield index, 3)) (kk : W p l e R s m args below meth c H locs cells slots Q (F0 m (pc + 3) ls (v :: rest))) : W p l e R s m args below meth c H locs cells slots Q (F0 m pc ls (.ref (G.2.2 k) :: rest)) := by
  obtain ⟨i, hi⟩ := kw_at hk
  have h1 := kw_get (g := G.2.2) (e := eU G S) (Z := Z) hi
  rw [he] at h1
  exact va_get (D := G.1) hx hb hts hin hown hK hw.1 i h1 hc j hj hlink (fun _ h9 => h9) hv hdg kk
theorem kr_put (hx : p.tables.exec = Jvm.exec) (hb : c.code = cc) {C : String} {T : u_T} {N ci : Nat} (hts : ∀ w ∈ Ts, w.before args s = true) (hin : ∀ w ∈ u_ws C T N, w ∈ Ts) (ty0 : Nat → FieldType) (hty : ∀ k, k < N → parseFieldDescriptor (T k).2.2.1 = some (ty0 k)) (hnm : ∀ a, a < N → ∀ b, b < N → a ≠ b → (T a).2.1 ≠ (T b).2.1) (hown : s.vm.findClass own = some m.cls) (hK : va_K G.1 vwCl (gTy G) s) (hw : kS G ks S Z A H0 H locs) {k : kK} (hk : k ∈ ks) {fs : List Value} (he : eU G S k = .inr (ci, fs)) (hc : vwCl[ci]? = some (C, T, N)) (j : Nat) (hj : j < N)
    (hlink : (Cond.fieldLink own index (T j).1 (T j).2.1 (T j).2.2.1).before args s = true) (hfin : (T j).2.2.2 = false) {ty : FieldType} {v : Value} (hd : parseFieldDescriptor (T j).2.2.1 = some ty) (hn : narrow ty v = v) (hfit : fits ty v = true) (hl : j < fs.length) {S' : uS} (hS' : kw_up (eU G S) k (.inr (ci, fs.set j v)) = eU G S') (hdg : decode cc pc = .ok (.putfield index, 3))
    (kk : ∀ (H1 : Heap) (locs1 : List Loc), kS G ks S' Z A H0 H1 locs1 → W p l e R s m args below meth c H1 locs1 cells slots Q (F0 m (pc + 3) ls rest)) : W p l e R s m args below meth c H locs cells slots Q (F0 m pc ls (v :: .ref (G.2.2 k) :: rest)) := by
  obtain ⟨i, hi⟩ := kw_at hk
  have h1 := kw_get (g := G.2.2) (e := eU G S) (Z := Z) hi
  rw [he] at h1
  refine va_put (D := G.1) hx hb hts hin ty0 hty hnm hown hK hw.1 hw.2.1 hw.2.2 i h1 hc j hj hlink (fun _ h9 => h9) hfin hd hn hfit hl hdg (fun H1 locs1 hP hD hS => ?_)
  rw [kw_set hw.2.1 hi, hS'] at hP hD
  exact kk H1 locs1 ⟨hP, hD, hS⟩
theorem g_0_0 (hx : p.tables.exec = Jvm.exec) (hb : c.code = cc) (hts : ∀ w ∈ Ts, w.before args s = true) (hin : ∀ w ∈ wsX40, w ∈ Ts) (hown : s.vm.findClass own = some m.cls) (hK : va_K G.1 vwCl (gTy G) s) (hw : kS G ks S Z A H0 H locs) {b : Nat} (hk : (0, b) ∈ ks) (hlink : (Cond.fieldLink own index "BranchPredictor" "plainTable" "LBranchPredictor$CounterTable;").before args s = true) (hdg : decode cc pc = .ok (.getfield index, 3)) (kk : W p l e R s m args below meth c H locs cells slots Q (F0 m (pc + 3) ls (.ref (G.2.2 (1, 0)) :: rest))) : W p l e R s m args below meth c H locs cells slots Q (F0 m pc ls (.ref (G.2.2 (0, b)) :: rest)) :=
  kr_get (C := RX4) (T := TX4) (N := 16) (ci := 4) hx hb hts hin hown hK hw hk rfl rfl 0 (by decide) hlink rfl hdg kk
theorem g_0_1 (hx : p.tables.exec = Jvm.exec) (hb : c.code = cc) (hts : ∀ w ∈ Ts, w.before args s = true) (hin : ∀ w ∈ wsX40, w ∈ Ts) (hown : s.vm.findClass own = some m.cls) (hK : va_K G.1 vwCl (gTy G) s) (hw : kS G ks S Z A H0 H locs) {b : Nat} (hk : (0, b) ∈ ks) (hlink : (Cond.fieldLink own index "BranchPredictor" "globalTable" "LBranchPredictor$CounterTable;").before args s = true) (hdg : decode cc pc = .ok (.getfield index, 3)) (kk : W p l e R s m args below meth c H locs cells slots Q (F0 m (pc + 3) ls (.ref (G.2.2 (1, 1)) :: rest))) : W p l e R s m args below meth c H locs cells slots Q (F0 m pc ls (.ref (G.2.2 (0, b)) :: rest)) :=
  kr_get (C := RX4) (T := TX4) (N := 16) (ci := 4) hx hb hts hin hown hK hw hk rfl rfl 1 (by decide) hlink rfl hdg kk
theorem g_0_2 (hx : p.tables.exec = Jvm.exec) (hb : c.code = cc) (hts : ∀ w ∈ Ts, w.before args s = true) (hin : ∀ w ∈ wsX40, w ∈ Ts) (hown : s.vm.findClass own = some m.cls) (hK : va_K G.1 vwCl (gTy G) s) (hw : kS G ks S Z A H0 H locs) {b : Nat} (hk : (0, b) ∈ ks) (hlink : (Cond.fieldLink own index "BranchPredictor" "choiceTable" "LBranchPredictor$CounterTable;").before args s = true) (hdg : decode cc pc = .ok (.getfield index, 3)) (kk : W p l e R s m args below meth c H locs cells slots Q (F0 m (pc + 3) ls (.ref (G.2.2 (1, 2)) :: rest))) : W p l e R s m args below meth c H locs cells slots Q (F0 m pc ls (.ref (G.2.2 (0, b)) :: rest)) :=
  kr_get (C := RX4) (T := TX4) (N := 16) (ci := 4) hx hb hts hin hown hK hw hk rfl rfl 2 (by decide) hlink rfl hdg kk
theorem g_0_3 (hx : p.tables.exec = Jvm.exec) (hb : c.code = cc) (hts : ∀ w ∈ Ts, w.before args s = true) (hin : ∀ w ∈ wsX40, w ∈ Ts) (hown : s.vm.findClass own = some m.cls) (hK : va_K G.1 vwCl (gTy G) s) (hw : kS G ks S Z A H0 H locs) {b : Nat} (hk : (0, b) ∈ ks) (hlink : (Cond.fieldLink own index "BranchPredictor" "plainAudit" "LBranchPredictor$Audit;").before args s = true) (hdg : decode cc pc = .ok (.getfield index, 3)) (kk : W p l e R s m args below meth c H locs cells slots Q (F0 m (pc + 3) ls (.ref (G.2.2 (3, 0)) :: rest))) : W p l e R s m args below meth c H locs cells slots Q (F0 m pc ls (.ref (G.2.2 (0, b)) :: rest)) :=
  kr_get (C := RX4) (T := TX4) (N := 16) (ci := 4) hx hb hts hin hown hK hw hk rfl rfl 3 (by decide) hlink rfl hdg kk
theorem g_0_4 (hx : p.tables.exec = Jvm.exec) (hb : c.code = cc) (hts : ∀ w ∈ Ts, w.before args s = true) (hin : ∀ w ∈ wsX40, w ∈ Ts) (hown : s.vm.findClass own = some m.cls) (hK : va_K G.1 vwCl (gTy G) s) (hw : kS G ks S Z A H0 H locs) {b : Nat} (hk : (0, b) ∈ ks) (hlink : (Cond.fieldLink own index "BranchPredictor" "globalAudit" "LBranchPredictor$Audit;").before args s = true) (hdg : decode cc pc = .ok (.getfield index, 3)) (kk : W p l e R s m args below meth c H locs cells slots Q (F0 m (pc + 3) ls (.ref (G.2.2 (3, 1)) :: rest))) : W p l e R s m args below meth c H locs cells slots Q (F0 m pc ls (.ref (G.2.2 (0, b)) :: rest)) :=
  kr_get (C := RX4) (T := TX4) (N := 16) (ci := 4) hx hb hts hin hown hK hw hk rfl rfl 4 (by decide) hlink rfl hdg kk
theorem g_0_5 (hx : p.tables.exec = Jvm.exec) (hb : c.code = cc) (hts : ∀ w ∈ Ts, w.before args s = true) (hin : ∀ w ∈ wsX40, w ∈ Ts) (hown : s.vm.findClass own = some m.cls) (hK : va_K G.1 vwCl (gTy G) s) (hw : kS G ks S Z A H0 H locs) {b : Nat} (hk : (0, b) ∈ ks) (hlink : (Cond.fieldLink own index "BranchPredictor" "ring" "[LBranchPredictor$Branch;").before args s = true) (hdg : decode cc pc = .ok (.getfield index, 3)) (kk : W p l e R s m args below meth c H locs cells slots Q (F0 m (pc + 3) ls (.ref (G.2.2 (5, 0)) :: rest))) : W p l e R s m args below meth c H locs cells slots Q (F0 m pc ls (.ref (G.2.2 (0, b)) :: rest)) :=
  kr_get (C := RX4) (T := TX4) (N := 16) (ci := 4) hx hb hts hin hown hK hw hk rfl rfl 5 (by decide) hlink rfl hdg kk
theorem g_0_6 (hx : p.tables.exec = Jvm.exec) (hb : c.code = cc) (hts : ∀ w ∈ Ts, w.before args s = true) (hin : ∀ w ∈ wsX40, w ∈ Ts) (hown : s.vm.findClass own = some m.cls) (hK : va_K G.1 vwCl (gTy G) s) (hw : kS G ks S Z A H0 H locs) {b : Nat} (hk : (0, b) ∈ ks) (hlink : (Cond.fieldLink own index "BranchPredictor" "loops" "[LBranchPredictor$Loop;").before args s = true) (hdg : decode cc pc = .ok (.getfield index, 3)) (kk : W p l e R s m args below meth c H locs cells slots Q (F0 m (pc + 3) ls (.ref (G.2.2 (6, 0)) :: rest))) : W p l e R s m args below meth c H locs cells slots Q (F0 m pc ls (.ref (G.2.2 (0, b)) :: rest)) :=
  kr_get (C := RX4) (T := TX4) (N := 16) (ci := 4) hx hb hts hin hown hK hw hk rfl rfl 6 (by decide) hlink rfl hdg kk
theorem g_0_7 (hx : p.tables.exec = Jvm.exec) (hb : c.code = cc) (hts : ∀ w ∈ Ts, w.before args s = true) (hin : ∀ w ∈ wsX40, w ∈ Ts) (hown : s.vm.findClass own = some m.cls) (hK : va_K G.1 vwCl (gTy G) s) (hw : kS G ks S Z A H0 H locs) {b : Nat} (hk : (0, b) ∈ ks) (hlink : (Cond.fieldLink own index "BranchPredictor" "missed" "[J").before args s = true) (hdg : decode cc pc = .ok (.getfield index, 3)) (kk : W p l e R s m args below meth c H locs cells slots Q (F0 m (pc + 3) ls (.ref (G.2.2 (7, 0)) :: rest))) : W p l e R s m args below meth c H locs cells slots Q (F0 m pc ls (.ref (G.2.2 (0, b)) :: rest)) :=
  kr_get (C := RX4) (T := TX4) (N := 16) (ci := 4) hx hb hts hin hown hK hw hk rfl rfl 7 (by decide) hlink rfl hdg kk
theorem g_0_8 (hx : p.tables.exec = Jvm.exec) (hb : c.code = cc) (hts : ∀ w ∈ Ts, w.before args s = true) (hin : ∀ w ∈ wsX40, w ∈ Ts) (hown : s.vm.findClass own = some m.cls) (hK : va_K G.1 vwCl (gTy G) s) (hw : kS G ks S Z A H0 H locs) {b : Nat} (hk : (0, b) ∈ ks) (hlink : (Cond.fieldLink own index "BranchPredictor" "plainBits" "I").before args s = true) (hdg : decode cc pc = .ok (.getfield index, 3)) (kk : W p l e R s m args below meth c H locs cells slots Q (F0 m (pc + 3) ls (.int (S.1 0 b 8) :: rest))) : W p l e R s m args below meth c H locs cells slots Q (F0 m pc ls (.ref (G.2.2 (0, b)) :: rest)) :=
  kr_get (C := RX4) (T := TX4) (N := 16) (ci := 4) hx hb hts hin hown hK hw hk rfl rfl 8 (by decide) hlink rfl hdg kk
theorem p_0_8 (hx : p.tables.exec = Jvm.exec) (hb : c.code = cc) (hts : ∀ w ∈ Ts, w.before args s = true) (hin : ∀ w ∈ wsX40, w ∈ Ts) (hown : s.vm.findClass own = some m.cls) (hK : va_K G.1 vwCl (gTy G) s) (hw : kS G ks S Z A H0 H locs) {b : Nat} (hk : (0, b) ∈ ks) (hlink : (Cond.fieldLink own index "BranchPredictor" "plainBits" "I").before args s = true) {v : Int32} (hdg : decode cc pc = .ok (.putfield index, 3)) (kk : ∀ (H1 : Heap) (locs1 : List Loc), kS G ks (uI S 0 b 8 v) Z A H0 H1 locs1 → W p l e R s m args below meth c H1 locs1 cells slots Q (F0 m (pc + 3) ls rest)) : W p l e R s m args below meth c H locs cells slots Q (F0 m pc ls (.int v :: .ref (G.2.2 (0, b)) :: rest)) :=
  kr_put (C := RX4) (T := TX4) (N := 16) (ci := 4) (ty := .int) hx hb hts hin tyX4 tyX4_ok nmX4 hown hK hw hk rfl rfl 8 (by decide) hlink rfl (by decide +kernel) rfl rfl (Nat.le_of_ble_eq_true rfl) (eU_uI G S 0 b 8 v) hdg kk
theorem g_0_9 (hx : p.tables.exec = Jvm.exec) (hb : c.code = cc) (hts : ∀ w ∈ Ts, w.before args s = true) (hin : ∀ w ∈ wsX40, w ∈ Ts) (hown : s.vm.findClass own = some m.cls) (hK : va_K G.1 vwCl (gTy G) s) (hw : kS G ks S Z A H0 H locs) {b : Nat} (hk : (0, b) ∈ ks) (hlink : (Cond.fieldLink own index "BranchPredictor" "globalBits" "I").before args s = true) (hdg : decode cc pc = .ok (.getfield index, 3)) (kk : W p l e R s m args below meth c H locs cells slots Q (F0 m (pc + 3) ls (.int (S.1 0 b 9) :: rest))) : W p l e R s m args below meth c H locs cells slots Q (F0 m pc ls (.ref (G.2.2 (0, b)) :: rest)) :=
  kr_get (C := RX4) (T := TX4) (N := 16) (ci := 4) hx hb hts hin hown hK hw hk rfl rfl 9 (by decide) hlink rfl hdg kk
theorem p_0_9 (hx : p.tables.exec = Jvm.exec) (hb : c.code = cc) (hts : ∀ w ∈ Ts, w.before args s = true) (hin : ∀ w ∈ wsX40, w ∈ Ts) (hown : s.vm.findClass own = some m.cls) (hK : va_K G.1 vwCl (gTy G) s) (hw : kS G ks S Z A H0 H locs) {b : Nat} (hk : (0, b) ∈ ks) (hlink : (Cond.fieldLink own index "BranchPredictor" "globalBits" "I").before args s = true) {v : Int32} (hdg : decode cc pc = .ok (.putfield index, 3)) (kk : ∀ (H1 : Heap) (locs1 : List Loc), kS G ks (uI S 0 b 9 v) Z A H0 H1 locs1 → W p l e R s m args below meth c H1 locs1 cells slots Q (F0 m (pc + 3) ls rest)) : W p l e R s m args below meth c H locs cells slots Q (F0 m pc ls (.int v :: .ref (G.2.2 (0, b)) :: rest)) :=
  kr_put (C := RX4) (T := TX4) (N := 16) (ci := 4) (ty := .int) hx hb hts hin tyX4 tyX4_ok nmX4 hown hK hw hk rfl rfl 9 (by decide) hlink rfl (by decide +kernel) rfl rfl (Nat.le_of_ble_eq_true rfl) (eU_uI G S 0 b 9 v) hdg kk
theorem g_0_10 (hx : p.tables.exec = Jvm.exec) (hb : c.code = cc) (hts : ∀ w ∈ Ts, w.before args s = true) (hin : ∀ w ∈ wsX40, w ∈ Ts) (hown : s.vm.findClass own = some m.cls) (hK : va_K G.1 vwCl (gTy G) s) (hw : kS G ks S Z A H0 H locs) {b : Nat} (hk : (0, b) ∈ ks) (hlink : (Cond.fieldLink own index "BranchPredictor" "historyBits" "I").before args s = true) (hdg : decode cc pc = .ok (.getfield index, 3)) (kk : W p l e R s m args below meth c H locs cells slots Q (F0 m (pc + 3) ls (.int (S.1 0 b 10) :: rest))) : W p l e R s m args below meth c H locs cells slots Q (F0 m pc ls (.ref (G.2.2 (0, b)) :: rest)) :=
  kr_get (C := RX4) (T := TX4) (N := 16) (ci := 4) hx hb hts hin hown hK hw hk rfl rfl 10 (by decide) hlink rfl hdg kk
theorem p_0_10 (hx : p.tables.exec = Jvm.exec) (hb : c.code = cc) (hts : ∀ w ∈ Ts, w.before args s = true) (hin : ∀ w ∈ wsX40, w ∈ Ts) (hown : s.vm.findClass own = some m.cls) (hK : va_K G.1 vwCl (gTy G) s) (hw : kS G ks S Z A H0 H locs) {b : Nat} (hk : (0, b) ∈ ks) (hlink : (Cond.fieldLink own index "BranchPredictor" "historyBits" "I").before args s = true) {v : Int32} (hdg : decode cc pc = .ok (.putfield index, 3)) (kk : ∀ (H1 : Heap) (locs1 : List Loc), kS G ks (uI S 0 b 10 v) Z A H0 H1 locs1 → W p l e R s m args below meth c H1 locs1 cells slots Q (F0 m (pc + 3) ls rest)) : W p l e R s m args below meth c H locs cells slots Q (F0 m pc ls (.int v :: .ref (G.2.2 (0, b)) :: rest)) :=
  kr_put (C := RX4) (T := TX4) (N := 16) (ci := 4) (ty := .int) hx hb hts hin tyX4 tyX4_ok nmX4 hown hK hw hk rfl rfl 10 (by decide) hlink rfl (by decide +kernel) rfl rfl (Nat.le_of_ble_eq_true rfl) (eU_uI G S 0 b 10 v) hdg kk
theorem g_0_11 (hx : p.tables.exec = Jvm.exec) (hb : c.code = cc) (hts : ∀ w ∈ Ts, w.before args s = true) (hin : ∀ w ∈ wsX40, w ∈ Ts) (hown : s.vm.findClass own = some m.cls) (hK : va_K G.1 vwCl (gTy G) s) (hw : kS G ks S Z A H0 H locs) {b : Nat} (hk : (0, b) ∈ ks) (hlink : (Cond.fieldLink own index "BranchPredictor" "outcomes" "I").before args s = true) (hdg : decode cc pc = .ok (.getfield index, 3)) (kk : W p l e R s m args below meth c H locs cells slots Q (F0 m (pc + 3) ls (.int (S.1 0 b 11) :: rest))) : W p l e R s m args below meth c H locs cells slots Q (F0 m pc ls (.ref (G.2.2 (0, b)) :: rest)) :=
  kr_get (C := RX4) (T := TX4) (N := 16) (ci := 4) hx hb hts hin hown hK hw hk rfl rfl 11 (by decide) hlink rfl hdg kk
theorem p_0_11 (hx : p.tables.exec = Jvm.exec) (hb : c.code = cc) (hts : ∀ w ∈ Ts, w.before args s = true) (hin : ∀ w ∈ wsX40, w ∈ Ts) (hown : s.vm.findClass own = some m.cls) (hK : va_K G.1 vwCl (gTy G) s) (hw : kS G ks S Z A H0 H locs) {b : Nat} (hk : (0, b) ∈ ks) (hlink : (Cond.fieldLink own index "BranchPredictor" "outcomes" "I").before args s = true) {v : Int32} (hdg : decode cc pc = .ok (.putfield index, 3)) (kk : ∀ (H1 : Heap) (locs1 : List Loc), kS G ks (uI S 0 b 11 v) Z A H0 H1 locs1 → W p l e R s m args below meth c H1 locs1 cells slots Q (F0 m (pc + 3) ls rest)) : W p l e R s m args below meth c H locs cells slots Q (F0 m pc ls (.int v :: .ref (G.2.2 (0, b)) :: rest)) :=
  kr_put (C := RX4) (T := TX4) (N := 16) (ci := 4) (ty := .int) hx hb hts hin tyX4 tyX4_ok nmX4 hown hK hw hk rfl rfl 11 (by decide) hlink rfl (by decide +kernel) rfl rfl (Nat.le_of_ble_eq_true rfl) (eU_uI G S 0 b 11 v) hdg kk
theorem g_0_12 (hx : p.tables.exec = Jvm.exec) (hb : c.code = cc) (hts : ∀ w ∈ Ts, w.before args s = true) (hin : ∀ w ∈ wsX40, w ∈ Ts) (hown : s.vm.findClass own = some m.cls) (hK : va_K G.1 vwCl (gTy G) s) (hw : kS G ks S Z A H0 H locs) {b : Nat} (hk : (0, b) ∈ ks) (hlink : (Cond.fieldLink own index "BranchPredictor" "oldest" "I").before args s = true) (hdg : decode cc pc = .ok (.getfield index, 3)) (kk : W p l e R s m args below meth c H locs cells slots Q (F0 m (pc + 3) ls (.int (S.1 0 b 12) :: rest))) : W p l e R s m args below meth c H locs cells slots Q (F0 m pc ls (.ref (G.2.2 (0, b)) :: rest)) :=
  kr_get (C := RX4) (T := TX4) (N := 16) (ci := 4) hx hb hts hin hown hK hw hk rfl rfl 12 (by decide) hlink rfl hdg kk
theorem p_0_12 (hx : p.tables.exec = Jvm.exec) (hb : c.code = cc) (hts : ∀ w ∈ Ts, w.before args s = true) (hin : ∀ w ∈ wsX40, w ∈ Ts) (hown : s.vm.findClass own = some m.cls) (hK : va_K G.1 vwCl (gTy G) s) (hw : kS G ks S Z A H0 H locs) {b : Nat} (hk : (0, b) ∈ ks) (hlink : (Cond.fieldLink own index "BranchPredictor" "oldest" "I").before args s = true) {v : Int32} (hdg : decode cc pc = .ok (.putfield index, 3)) (kk : ∀ (H1 : Heap) (locs1 : List Loc), kS G ks (uI S 0 b 12 v) Z A H0 H1 locs1 → W p l e R s m args below meth c H1 locs1 cells slots Q (F0 m (pc + 3) ls rest)) : W p l e R s m args below meth c H locs cells slots Q (F0 m pc ls (.int v :: .ref (G.2.2 (0, b)) :: rest)) :=
  kr_put (C := RX4) (T := TX4) (N := 16) (ci := 4) (ty := .int) hx hb hts hin tyX4 tyX4_ok nmX4 hown hK hw hk rfl rfl 12 (by decide) hlink rfl (by decide +kernel) rfl rfl (Nat.le_of_ble_eq_true rfl) (eU_uI G S 0 b 12 v) hdg kk
theorem g_0_13 (hx : p.tables.exec = Jvm.exec) (hb : c.code = cc) (hts : ∀ w ∈ Ts, w.before args s = true) (hin : ∀ w ∈ wsX40, w ∈ Ts) (hown : s.vm.findClass own = some m.cls) (hK : va_K G.1 vwCl (gTy G) s) (hw : kS G ks S Z A H0 H locs) {b : Nat} (hk : (0, b) ∈ ks) (hlink : (Cond.fieldLink own index "BranchPredictor" "flying" "I").before args s = true) (hdg : decode cc pc = .ok (.getfield index, 3)) (kk : W p l e R s m args below meth c H locs cells slots Q (F0 m (pc + 3) ls (.int (S.1 0 b 13) :: rest))) : W p l e R s m args below meth c H locs cells slots Q (F0 m pc ls (.ref (G.2.2 (0, b)) :: rest)) :=
  kr_get (C := RX4) (T := TX4) (N := 16) (ci := 4) hx hb hts hin hown hK hw hk rfl rfl 13 (by decide) hlink rfl hdg kk
theorem p_0_13 (hx : p.tables.exec = Jvm.exec) (hb : c.code = cc) (hts : ∀ w ∈ Ts, w.before args s = true) (hin : ∀ w ∈ wsX40, w ∈ Ts) (hown : s.vm.findClass own = some m.cls) (hK : va_K G.1 vwCl (gTy G) s) (hw : kS G ks S Z A H0 H locs) {b : Nat} (hk : (0, b) ∈ ks) (hlink : (Cond.fieldLink own index "BranchPredictor" "flying" "I").before args s = true) {v : Int32} (hdg : decode cc pc = .ok (.putfield index, 3)) (kk : ∀ (H1 : Heap) (locs1 : List Loc), kS G ks (uI S 0 b 13 v) Z A H0 H1 locs1 → W p l e R s m args below meth c H1 locs1 cells slots Q (F0 m (pc + 3) ls rest)) : W p l e R s m args below meth c H locs cells slots Q (F0 m pc ls (.int v :: .ref (G.2.2 (0, b)) :: rest)) :=
  kr_put (C := RX4) (T := TX4) (N := 16) (ci := 4) (ty := .int) hx hb hts hin tyX4 tyX4_ok nmX4 hown hK hw hk rfl rfl 13 (by decide) hlink rfl (by decide +kernel) rfl rfl (Nat.le_of_ble_eq_true rfl) (eU_uI G S 0 b 13 v) hdg kk
theorem g_0_14 (hx : p.tables.exec = Jvm.exec) (hb : c.code = cc) (hts : ∀ w ∈ Ts, w.before args s = true) (hin : ∀ w ∈ wsX40, w ∈ Ts) (hown : s.vm.findClass own = some m.cls) (hK : va_K G.1 vwCl (gTy G) s) (hw : kS G ks S Z A H0 H locs) {b : Nat} (hk : (0, b) ∈ ks) (hlink : (Cond.fieldLink own index "BranchPredictor" "committed" "J").before args s = true) (hdg : decode cc pc = .ok (.getfield index, 3)) (kk : W p l e R s m args below meth c H locs cells slots Q (F0 m (pc + 3) ls (.long (S.2.1 0 b 14) :: rest))) : W p l e R s m args below meth c H locs cells slots Q (F0 m pc ls (.ref (G.2.2 (0, b)) :: rest)) :=
  kr_get (C := RX4) (T := TX4) (N := 16) (ci := 4) hx hb hts hin hown hK hw hk rfl rfl 14 (by decide) hlink rfl hdg kk
theorem p_0_14 (hx : p.tables.exec = Jvm.exec) (hb : c.code = cc) (hts : ∀ w ∈ Ts, w.before args s = true) (hin : ∀ w ∈ wsX40, w ∈ Ts) (hown : s.vm.findClass own = some m.cls) (hK : va_K G.1 vwCl (gTy G) s) (hw : kS G ks S Z A H0 H locs) {b : Nat} (hk : (0, b) ∈ ks) (hlink : (Cond.fieldLink own index "BranchPredictor" "committed" "J").before args s = true) {v : Int64} (hdg : decode cc pc = .ok (.putfield index, 3)) (kk : ∀ (H1 : Heap) (locs1 : List Loc), kS G ks (uL S 0 b 14 v) Z A H0 H1 locs1 → W p l e R s m args below meth c H1 locs1 cells slots Q (F0 m (pc + 3) ls rest)) : W p l e R s m args below meth c H locs cells slots Q (F0 m pc ls (.long v :: .ref (G.2.2 (0, b)) :: rest)) :=
  kr_put (C := RX4) (T := TX4) (N := 16) (ci := 4) (ty := .long) hx hb hts hin tyX4 tyX4_ok nmX4 hown hK hw hk rfl rfl 14 (by decide) hlink rfl (by decide +kernel) rfl rfl (Nat.le_of_ble_eq_true rfl) (eU_uL G S 0 b 14 v) hdg kk
theorem g_0_15 (hx : p.tables.exec = Jvm.exec) (hb : c.code = cc) (hts : ∀ w ∈ Ts, w.before args s = true) (hin : ∀ w ∈ wsX40, w ∈ Ts) (hown : s.vm.findClass own = some m.cls) (hK : va_K G.1 vwCl (gTy G) s) (hw : kS G ks S Z A H0 H locs) {b : Nat} (hk : (0, b) ∈ ks) (hlink : (Cond.fieldLink own index "BranchPredictor" "dropped" "J").before args s = true) (hdg : decode cc pc = .ok (.getfield index, 3)) (kk : W p l e R s m args below meth c H locs cells slots Q (F0 m (pc + 3) ls (.long (S.2.1 0 b 15) :: rest))) : W p l e R s m args below meth c H locs cells slots Q (F0 m pc ls (.ref (G.2.2 (0, b)) :: rest)) :=
  kr_get (C := RX4) (T := TX4) (N := 16) (ci := 4) hx hb hts hin hown hK hw hk rfl rfl 15 (by decide) hlink rfl hdg kk
theorem p_0_15 (hx : p.tables.exec = Jvm.exec) (hb : c.code = cc) (hts : ∀ w ∈ Ts, w.before args s = true) (hin : ∀ w ∈ wsX40, w ∈ Ts) (hown : s.vm.findClass own = some m.cls) (hK : va_K G.1 vwCl (gTy G) s) (hw : kS G ks S Z A H0 H locs) {b : Nat} (hk : (0, b) ∈ ks) (hlink : (Cond.fieldLink own index "BranchPredictor" "dropped" "J").before args s = true) {v : Int64} (hdg : decode cc pc = .ok (.putfield index, 3)) (kk : ∀ (H1 : Heap) (locs1 : List Loc), kS G ks (uL S 0 b 15 v) Z A H0 H1 locs1 → W p l e R s m args below meth c H1 locs1 cells slots Q (F0 m (pc + 3) ls rest)) : W p l e R s m args below meth c H locs cells slots Q (F0 m pc ls (.long v :: .ref (G.2.2 (0, b)) :: rest)) :=
  kr_put (C := RX4) (T := TX4) (N := 16) (ci := 4) (ty := .long) hx hb hts hin tyX4 tyX4_ok nmX4 hown hK hw hk rfl rfl 15 (by decide) hlink rfl (by decide +kernel) rfl rfl (Nat.le_of_ble_eq_true rfl) (eU_uL G S 0 b 15 v) hdg kk
theorem g_1_0 (hx : p.tables.exec = Jvm.exec) (hb : c.code = cc) (hts : ∀ w ∈ Ts, w.before args s = true) (hin : ∀ w ∈ wsX20, w ∈ Ts) (hown : s.vm.findClass own = some m.cls) (hK : va_K G.1 vwCl (gTy G) s) (hw : kS G ks S Z A H0 H locs) {b : Nat} (hk : (1, b) ∈ ks) (hlink : (Cond.fieldLink own index "BranchPredictor$CounterTable" "values" "[I").before args s = true) (hdg : decode cc pc = .ok (.getfield index, 3)) (kk : W p l e R s m args below meth c H locs cells slots Q (F0 m (pc + 3) ls (.ref (G.2.2 (2, b)) :: rest))) : W p l e R s m args below meth c H locs cells slots Q (F0 m pc ls (.ref (G.2.2 (1, b)) :: rest)) :=
  kr_get (C := RX2) (T := TX2) (N := 2) (ci := 2) hx hb hts hin hown hK hw hk rfl rfl 0 (by decide) hlink rfl hdg kk
theorem g_1_1 (hx : p.tables.exec = Jvm.exec) (hb : c.code = cc) (hts : ∀ w ∈ Ts, w.before args s = true) (hin : ∀ w ∈ wsX20, w ∈ Ts) (hown : s.vm.findClass own = some m.cls) (hK : va_K G.1 vwCl (gTy G) s) (hw : kS G ks S Z A H0 H locs) {b : Nat} (hk : (1, b) ∈ ks) (hlink : (Cond.fieldLink own index "BranchPredictor$CounterTable" "size" "I").before args s = true) (hdg : decode cc pc = .ok (.getfield index, 3)) (kk : W p l e R s m args below meth c H locs cells slots Q (F0 m (pc + 3) ls (.int (S.1 1 b 1) :: rest))) : W p l e R s m args below meth c H locs cells slots Q (F0 m pc ls (.ref (G.2.2 (1, b)) :: rest)) :=
  kr_get (C := RX2) (T := TX2) (N := 2) (ci := 2) hx hb hts hin hown hK hw hk rfl rfl 1 (by decide) hlink rfl hdg kk
theorem p_1_1 (hx : p.tables.exec = Jvm.exec) (hb : c.code = cc) (hts : ∀ w ∈ Ts, w.before args s = true) (hin : ∀ w ∈ wsX20, w ∈ Ts) (hown : s.vm.findClass own = some m.cls) (hK : va_K G.1 vwCl (gTy G) s) (hw : kS G ks S Z A H0 H locs) {b : Nat} (hk : (1, b) ∈ ks) (hlink : (Cond.fieldLink own index "BranchPredictor$CounterTable" "size" "I").before args s = true) {v : Int32} (hdg : decode cc pc = .ok (.putfield index, 3)) (kk : ∀ (H1 : Heap) (locs1 : List Loc), kS G ks (uI S 1 b 1 v) Z A H0 H1 locs1 → W p l e R s m args below meth c H1 locs1 cells slots Q (F0 m (pc + 3) ls rest)) : W p l e R s m args below meth c H locs cells slots Q (F0 m pc ls (.int v :: .ref (G.2.2 (1, b)) :: rest)) :=
  kr_put (C := RX2) (T := TX2) (N := 2) (ci := 2) (ty := .int) hx hb hts hin tyX2 tyX2_ok nmX2 hown hK hw hk rfl rfl 1 (by decide) hlink rfl (by decide +kernel) rfl rfl (Nat.le_of_ble_eq_true rfl) (eU_uI G S 1 b 1 v) hdg kk
theorem g_3_0 (hx : p.tables.exec = Jvm.exec) (hb : c.code = cc) (hts : ∀ w ∈ Ts, w.before args s = true) (hin : ∀ w ∈ wsX00, w ∈ Ts) (hown : s.vm.findClass own = some m.cls) (hK : va_K G.1 vwCl (gTy G) s) (hw : kS G ks S Z A H0 H locs) {b : Nat} (hk : (3, b) ∈ ks) (hlink : (Cond.fieldLink own index "BranchPredictor$Audit" "latestPlaces" "[I").before args s = true) (hdg : decode cc pc = .ok (.getfield index, 3)) (kk : W p l e R s m args below meth c H locs cells slots Q (F0 m (pc + 3) ls (.ref (G.2.2 (4, b)) :: rest))) : W p l e R s m args below meth c H locs cells slots Q (F0 m pc ls (.ref (G.2.2 (3, b)) :: rest)) :=
  kr_get (C := RX0) (T := TX0) (N := 3) (ci := 0) hx hb hts hin hown hK hw hk rfl rfl 0 (by decide) hlink rfl hdg kk
theorem g_3_1 (hx : p.tables.exec = Jvm.exec) (hb : c.code = cc) (hts : ∀ w ∈ Ts, w.before args s = true) (hin : ∀ w ∈ wsX00, w ∈ Ts) (hown : s.vm.findClass own = some m.cls) (hK : va_K G.1 vwCl (gTy G) s) (hw : kS G ks S Z A H0 H locs) {b : Nat} (hk : (3, b) ∈ ks) (hlink : (Cond.fieldLink own index "BranchPredictor$Audit" "allMeetings" "J").before args s = true) (hdg : decode cc pc = .ok (.getfield index, 3)) (kk : W p l e R s m args below meth c H locs cells slots Q (F0 m (pc + 3) ls (.long (S.2.1 3 b 1) :: rest))) : W p l e R s m args below meth c H locs cells slots Q (F0 m pc ls (.ref (G.2.2 (3, b)) :: rest)) :=
  kr_get (C := RX0) (T := TX0) (N := 3) (ci := 0) hx hb hts hin hown hK hw hk rfl rfl 1 (by decide) hlink rfl hdg kk
theorem p_3_1 (hx : p.tables.exec = Jvm.exec) (hb : c.code = cc) (hts : ∀ w ∈ Ts, w.before args s = true) (hin : ∀ w ∈ wsX00, w ∈ Ts) (hown : s.vm.findClass own = some m.cls) (hK : va_K G.1 vwCl (gTy G) s) (hw : kS G ks S Z A H0 H locs) {b : Nat} (hk : (3, b) ∈ ks) (hlink : (Cond.fieldLink own index "BranchPredictor$Audit" "allMeetings" "J").before args s = true) {v : Int64} (hdg : decode cc pc = .ok (.putfield index, 3)) (kk : ∀ (H1 : Heap) (locs1 : List Loc), kS G ks (uL S 3 b 1 v) Z A H0 H1 locs1 → W p l e R s m args below meth c H1 locs1 cells slots Q (F0 m (pc + 3) ls rest)) : W p l e R s m args below meth c H locs cells slots Q (F0 m pc ls (.long v :: .ref (G.2.2 (3, b)) :: rest)) :=
  kr_put (C := RX0) (T := TX0) (N := 3) (ci := 0) (ty := .long) hx hb hts hin tyX0 tyX0_ok nmX0 hown hK hw hk rfl rfl 1 (by decide) hlink rfl (by decide +kernel) rfl rfl (Nat.le_of_ble_eq_true rfl) (eU_uL G S 3 b 1 v) hdg kk
theorem g_3_2 (hx : p.tables.exec = Jvm.exec) (hb : c.code = cc) (hts : ∀ w ∈ Ts, w.before args s = true) (hin : ∀ w ∈ wsX00, w ∈ Ts) (hown : s.vm.findClass own = some m.cls) (hK : va_K G.1 vwCl (gTy G) s) (hw : kS G ks S Z A H0 H locs) {b : Nat} (hk : (3, b) ∈ ks) (hlink : (Cond.fieldLink own index "BranchPredictor$Audit" "harmfulMeetings" "J").before args s = true) (hdg : decode cc pc = .ok (.getfield index, 3)) (kk : W p l e R s m args below meth c H locs cells slots Q (F0 m (pc + 3) ls (.long (S.2.1 3 b 2) :: rest))) : W p l e R s m args below meth c H locs cells slots Q (F0 m pc ls (.ref (G.2.2 (3, b)) :: rest)) :=
  kr_get (C := RX0) (T := TX0) (N := 3) (ci := 0) hx hb hts hin hown hK hw hk rfl rfl 2 (by decide) hlink rfl hdg kk
theorem p_3_2 (hx : p.tables.exec = Jvm.exec) (hb : c.code = cc) (hts : ∀ w ∈ Ts, w.before args s = true) (hin : ∀ w ∈ wsX00, w ∈ Ts) (hown : s.vm.findClass own = some m.cls) (hK : va_K G.1 vwCl (gTy G) s) (hw : kS G ks S Z A H0 H locs) {b : Nat} (hk : (3, b) ∈ ks) (hlink : (Cond.fieldLink own index "BranchPredictor$Audit" "harmfulMeetings" "J").before args s = true) {v : Int64} (hdg : decode cc pc = .ok (.putfield index, 3)) (kk : ∀ (H1 : Heap) (locs1 : List Loc), kS G ks (uL S 3 b 2 v) Z A H0 H1 locs1 → W p l e R s m args below meth c H1 locs1 cells slots Q (F0 m (pc + 3) ls rest)) : W p l e R s m args below meth c H locs cells slots Q (F0 m pc ls (.long v :: .ref (G.2.2 (3, b)) :: rest)) :=
  kr_put (C := RX0) (T := TX0) (N := 3) (ci := 0) (ty := .long) hx hb hts hin tyX0 tyX0_ok nmX0 hown hK hw hk rfl rfl 2 (by decide) hlink rfl (by decide +kernel) rfl rfl (Nat.le_of_ble_eq_true rfl) (eU_uL G S 3 b 2 v) hdg kk
theorem g_8_0 (hx : p.tables.exec = Jvm.exec) (hb : c.code = cc) (hts : ∀ w ∈ Ts, w.before args s = true) (hin : ∀ w ∈ wsX10, w ∈ Ts) (hown : s.vm.findClass own = some m.cls) (hK : va_K G.1 vwCl (gTy G) s) (hw : kS G ks S Z A H0 H locs) {b : Nat} (hk : (8, b) ∈ ks) (hlink : (Cond.fieldLink own index "BranchPredictor$Branch" "place" "I").before args s = true) (hdg : decode cc pc = .ok (.getfield index, 3)) (kk : W p l e R s m args below meth c H locs cells slots Q (F0 m (pc + 3) ls (.int (S.1 8 b 0) :: rest))) : W p l e R s m args below meth c H locs cells slots Q (F0 m pc ls (.ref (G.2.2 (8, b)) :: rest)) :=
  kr_get (C := RX1) (T := TX1) (N := 9) (ci := 1) hx hb hts hin hown hK hw hk rfl rfl 0 (by decide) hlink rfl hdg kk
theorem p_8_0 (hx : p.tables.exec = Jvm.exec) (hb : c.code = cc) (hts : ∀ w ∈ Ts, w.before args s = true) (hin : ∀ w ∈ wsX10, w ∈ Ts) (hown : s.vm.findClass own = some m.cls) (hK : va_K G.1 vwCl (gTy G) s) (hw : kS G ks S Z A H0 H locs) {b : Nat} (hk : (8, b) ∈ ks) (hlink : (Cond.fieldLink own index "BranchPredictor$Branch" "place" "I").before args s = true) {v : Int32} (hdg : decode cc pc = .ok (.putfield index, 3)) (kk : ∀ (H1 : Heap) (locs1 : List Loc), kS G ks (uI S 8 b 0 v) Z A H0 H1 locs1 → W p l e R s m args below meth c H1 locs1 cells slots Q (F0 m (pc + 3) ls rest)) : W p l e R s m args below meth c H locs cells slots Q (F0 m pc ls (.int v :: .ref (G.2.2 (8, b)) :: rest)) :=
  kr_put (C := RX1) (T := TX1) (N := 9) (ci := 1) (ty := .int) hx hb hts hin tyX1 tyX1_ok nmX1 hown hK hw hk rfl rfl 0 (by decide) hlink rfl (by decide +kernel) rfl rfl (Nat.le_of_ble_eq_true rfl) (eU_uI G S 8 b 0 v) hdg kk
theorem g_8_1 (hx : p.tables.exec = Jvm.exec) (hb : c.code = cc) (hts : ∀ w ∈ Ts, w.before args s = true) (hin : ∀ w ∈ wsX10, w ∈ Ts) (hown : s.vm.findClass own = some m.cls) (hK : va_K G.1 vwCl (gTy G) s) (hw : kS G ks S Z A H0 H locs) {b : Nat} (hk : (8, b) ∈ ks) (hlink : (Cond.fieldLink own index "BranchPredictor$Branch" "state" "I").before args s = true) (hdg : decode cc pc = .ok (.getfield index, 3)) (kk : W p l e R s m args below meth c H locs cells slots Q (F0 m (pc + 3) ls (.int (S.1 8 b 1) :: rest))) : W p l e R s m args below meth c H locs cells slots Q (F0 m pc ls (.ref (G.2.2 (8, b)) :: rest)) :=
  kr_get (C := RX1) (T := TX1) (N := 9) (ci := 1) hx hb hts hin hown hK hw hk rfl rfl 1 (by decide) hlink rfl hdg kk
theorem p_8_1 (hx : p.tables.exec = Jvm.exec) (hb : c.code = cc) (hts : ∀ w ∈ Ts, w.before args s = true) (hin : ∀ w ∈ wsX10, w ∈ Ts) (hown : s.vm.findClass own = some m.cls) (hK : va_K G.1 vwCl (gTy G) s) (hw : kS G ks S Z A H0 H locs) {b : Nat} (hk : (8, b) ∈ ks) (hlink : (Cond.fieldLink own index "BranchPredictor$Branch" "state" "I").before args s = true) {v : Int32} (hdg : decode cc pc = .ok (.putfield index, 3)) (kk : ∀ (H1 : Heap) (locs1 : List Loc), kS G ks (uI S 8 b 1 v) Z A H0 H1 locs1 → W p l e R s m args below meth c H1 locs1 cells slots Q (F0 m (pc + 3) ls rest)) : W p l e R s m args below meth c H locs cells slots Q (F0 m pc ls (.int v :: .ref (G.2.2 (8, b)) :: rest)) :=
  kr_put (C := RX1) (T := TX1) (N := 9) (ci := 1) (ty := .int) hx hb hts hin tyX1 tyX1_ok nmX1 hown hK hw hk rfl rfl 1 (by decide) hlink rfl (by decide +kernel) rfl rfl (Nat.le_of_ble_eq_true rfl) (eU_uI G S 8 b 1 v) hdg kk
theorem g_8_2 (hx : p.tables.exec = Jvm.exec) (hb : c.code = cc) (hts : ∀ w ∈ Ts, w.before args s = true) (hin : ∀ w ∈ wsX10, w ∈ Ts) (hown : s.vm.findClass own = some m.cls) (hK : va_K G.1 vwCl (gTy G) s) (hw : kS G ks S Z A H0 H locs) {b : Nat} (hk : (8, b) ∈ ks) (hlink : (Cond.fieldLink own index "BranchPredictor$Branch" "historyAhead" "I").before args s = true) (hdg : decode cc pc = .ok (.getfield index, 3)) (kk : W p l e R s m args below meth c H locs cells slots Q (F0 m (pc + 3) ls (.int (S.1 8 b 2) :: rest))) : W p l e R s m args below meth c H locs cells slots Q (F0 m pc ls (.ref (G.2.2 (8, b)) :: rest)) :=
  kr_get (C := RX1) (T := TX1) (N := 9) (ci := 1) hx hb hts hin hown hK hw hk rfl rfl 2 (by decide) hlink rfl hdg kk
theorem p_8_2 (hx : p.tables.exec = Jvm.exec) (hb : c.code = cc) (hts : ∀ w ∈ Ts, w.before args s = true) (hin : ∀ w ∈ wsX10, w ∈ Ts) (hown : s.vm.findClass own = some m.cls) (hK : va_K G.1 vwCl (gTy G) s) (hw : kS G ks S Z A H0 H locs) {b : Nat} (hk : (8, b) ∈ ks) (hlink : (Cond.fieldLink own index "BranchPredictor$Branch" "historyAhead" "I").before args s = true) {v : Int32} (hdg : decode cc pc = .ok (.putfield index, 3)) (kk : ∀ (H1 : Heap) (locs1 : List Loc), kS G ks (uI S 8 b 2 v) Z A H0 H1 locs1 → W p l e R s m args below meth c H1 locs1 cells slots Q (F0 m (pc + 3) ls rest)) : W p l e R s m args below meth c H locs cells slots Q (F0 m pc ls (.int v :: .ref (G.2.2 (8, b)) :: rest)) :=
  kr_put (C := RX1) (T := TX1) (N := 9) (ci := 1) (ty := .int) hx hb hts hin tyX1 tyX1_ok nmX1 hown hK hw hk rfl rfl 2 (by decide) hlink rfl (by decide +kernel) rfl rfl (Nat.le_of_ble_eq_true rfl) (eU_uI G S 8 b 2 v) hdg kk
theorem g_8_3 (hx : p.tables.exec = Jvm.exec) (hb : c.code = cc) (hts : ∀ w ∈ Ts, w.before args s = true) (hin : ∀ w ∈ wsX10, w ∈ Ts) (hown : s.vm.findClass own = some m.cls) (hK : va_K G.1 vwCl (gTy G) s) (hw : kS G ks S Z A H0 H locs) {b : Nat} (hk : (8, b) ∈ ks) (hlink : (Cond.fieldLink own index "BranchPredictor$Branch" "plainIndex" "I").before args s = true) (hdg : decode cc pc = .ok (.getfield index, 3)) (kk : W p l e R s m args below meth c H locs cells slots Q (F0 m (pc + 3) ls (.int (S.1 8 b 3) :: rest))) : W p l e R s m args below meth c H locs cells slots Q (F0 m pc ls (.ref (G.2.2 (8, b)) :: rest)) :=
  kr_get (C := RX1) (T := TX1) (N := 9) (ci := 1) hx hb hts hin hown hK hw hk rfl rfl 3 (by decide) hlink rfl hdg kk
theorem p_8_3 (hx : p.tables.exec = Jvm.exec) (hb : c.code = cc) (hts : ∀ w ∈ Ts, w.before args s = true) (hin : ∀ w ∈ wsX10, w ∈ Ts) (hown : s.vm.findClass own = some m.cls) (hK : va_K G.1 vwCl (gTy G) s) (hw : kS G ks S Z A H0 H locs) {b : Nat} (hk : (8, b) ∈ ks) (hlink : (Cond.fieldLink own index "BranchPredictor$Branch" "plainIndex" "I").before args s = true) {v : Int32} (hdg : decode cc pc = .ok (.putfield index, 3)) (kk : ∀ (H1 : Heap) (locs1 : List Loc), kS G ks (uI S 8 b 3 v) Z A H0 H1 locs1 → W p l e R s m args below meth c H1 locs1 cells slots Q (F0 m (pc + 3) ls rest)) : W p l e R s m args below meth c H locs cells slots Q (F0 m pc ls (.int v :: .ref (G.2.2 (8, b)) :: rest)) :=
  kr_put (C := RX1) (T := TX1) (N := 9) (ci := 1) (ty := .int) hx hb hts hin tyX1 tyX1_ok nmX1 hown hK hw hk rfl rfl 3 (by decide) hlink rfl (by decide +kernel) rfl rfl (Nat.le_of_ble_eq_true rfl) (eU_uI G S 8 b 3 v) hdg kk
theorem g_8_4 (hx : p.tables.exec = Jvm.exec) (hb : c.code = cc) (hts : ∀ w ∈ Ts, w.before args s = true) (hin : ∀ w ∈ wsX10, w ∈ Ts) (hown : s.vm.findClass own = some m.cls) (hK : va_K G.1 vwCl (gTy G) s) (hw : kS G ks S Z A H0 H locs) {b : Nat} (hk : (8, b) ∈ ks) (hlink : (Cond.fieldLink own index "BranchPredictor$Branch" "globalIndex" "I").before args s = true) (hdg : decode cc pc = .ok (.getfield index, 3)) (kk : W p l e R s m args below meth c H locs cells slots Q (F0 m (pc + 3) ls (.int (S.1 8 b 4) :: rest))) : W p l e R s m args below meth c H locs cells slots Q (F0 m pc ls (.ref (G.2.2 (8, b)) :: rest)) :=
  kr_get (C := RX1) (T := TX1) (N := 9) (ci := 1) hx hb hts hin hown hK hw hk rfl rfl 4 (by decide) hlink rfl hdg kk
theorem p_8_4 (hx : p.tables.exec = Jvm.exec) (hb : c.code = cc) (hts : ∀ w ∈ Ts, w.before args s = true) (hin : ∀ w ∈ wsX10, w ∈ Ts) (hown : s.vm.findClass own = some m.cls) (hK : va_K G.1 vwCl (gTy G) s) (hw : kS G ks S Z A H0 H locs) {b : Nat} (hk : (8, b) ∈ ks) (hlink : (Cond.fieldLink own index "BranchPredictor$Branch" "globalIndex" "I").before args s = true) {v : Int32} (hdg : decode cc pc = .ok (.putfield index, 3)) (kk : ∀ (H1 : Heap) (locs1 : List Loc), kS G ks (uI S 8 b 4 v) Z A H0 H1 locs1 → W p l e R s m args below meth c H1 locs1 cells slots Q (F0 m (pc + 3) ls rest)) : W p l e R s m args below meth c H locs cells slots Q (F0 m pc ls (.int v :: .ref (G.2.2 (8, b)) :: rest)) :=
  kr_put (C := RX1) (T := TX1) (N := 9) (ci := 1) (ty := .int) hx hb hts hin tyX1 tyX1_ok nmX1 hown hK hw hk rfl rfl 4 (by decide) hlink rfl (by decide +kernel) rfl rfl (Nat.le_of_ble_eq_true rfl) (eU_uI G S 8 b 4 v) hdg kk
theorem g_8_5 (hx : p.tables.exec = Jvm.exec) (hb : c.code = cc) (hts : ∀ w ∈ Ts, w.before args s = true) (hin : ∀ w ∈ wsX10, w ∈ Ts) (hown : s.vm.findClass own = some m.cls) (hK : va_K G.1 vwCl (gTy G) s) (hw : kS G ks S Z A H0 H locs) {b : Nat} (hk : (8, b) ∈ ks) (hlink : (Cond.fieldLink own index "BranchPredictor$Branch" "isPlainTaken" "Z").before args s = true) (hdg : decode cc pc = .ok (.getfield index, 3)) (kk : W p l e R s m args below meth c H locs cells slots Q (F0 m (pc + 3) ls (.int (bI (S.2.2 8 b 5)) :: rest))) : W p l e R s m args below meth c H locs cells slots Q (F0 m pc ls (.ref (G.2.2 (8, b)) :: rest)) :=
  kr_get (C := RX1) (T := TX1) (N := 9) (ci := 1) hx hb hts hin hown hK hw hk rfl rfl 5 (by decide) hlink rfl hdg kk
theorem p_8_5 (hx : p.tables.exec = Jvm.exec) (hb : c.code = cc) (hts : ∀ w ∈ Ts, w.before args s = true) (hin : ∀ w ∈ wsX10, w ∈ Ts) (hown : s.vm.findClass own = some m.cls) (hK : va_K G.1 vwCl (gTy G) s) (hw : kS G ks S Z A H0 H locs) {b : Nat} (hk : (8, b) ∈ ks) (hlink : (Cond.fieldLink own index "BranchPredictor$Branch" "isPlainTaken" "Z").before args s = true) {v : Bool} (hdg : decode cc pc = .ok (.putfield index, 3)) (kk : ∀ (H1 : Heap) (locs1 : List Loc), kS G ks (uF S 8 b 5 v) Z A H0 H1 locs1 → W p l e R s m args below meth c H1 locs1 cells slots Q (F0 m (pc + 3) ls rest)) : W p l e R s m args below meth c H locs cells slots Q (F0 m pc ls (.int (bI v) :: .ref (G.2.2 (8, b)) :: rest)) :=
  kr_put (C := RX1) (T := TX1) (N := 9) (ci := 1) (ty := .boolean) hx hb hts hin tyX1 tyX1_ok nmX1 hown hK hw hk rfl rfl 5 (by decide) hlink rfl (by decide +kernel) (bI_nar v) (bI_fit v) (Nat.le_of_ble_eq_true rfl) (eU_uF G S 8 b 5 v) hdg kk
theorem g_8_6 (hx : p.tables.exec = Jvm.exec) (hb : c.code = cc) (hts : ∀ w ∈ Ts, w.before args s = true) (hin : ∀ w ∈ wsX10, w ∈ Ts) (hown : s.vm.findClass own = some m.cls) (hK : va_K G.1 vwCl (gTy G) s) (hw : kS G ks S Z A H0 H locs) {b : Nat} (hk : (8, b) ∈ ks) (hlink : (Cond.fieldLink own index "BranchPredictor$Branch" "isGlobalTaken" "Z").before args s = true) (hdg : decode cc pc = .ok (.getfield index, 3)) (kk : W p l e R s m args below meth c H locs cells slots Q (F0 m (pc + 3) ls (.int (bI (S.2.2 8 b 6)) :: rest))) : W p l e R s m args below meth c H locs cells slots Q (F0 m pc ls (.ref (G.2.2 (8, b)) :: rest)) :=
  kr_get (C := RX1) (T := TX1) (N := 9) (ci := 1) hx hb hts hin hown hK hw hk rfl rfl 6 (by decide) hlink rfl hdg kk
theorem p_8_6 (hx : p.tables.exec = Jvm.exec) (hb : c.code = cc) (hts : ∀ w ∈ Ts, w.before args s = true) (hin : ∀ w ∈ wsX10, w ∈ Ts) (hown : s.vm.findClass own = some m.cls) (hK : va_K G.1 vwCl (gTy G) s) (hw : kS G ks S Z A H0 H locs) {b : Nat} (hk : (8, b) ∈ ks) (hlink : (Cond.fieldLink own index "BranchPredictor$Branch" "isGlobalTaken" "Z").before args s = true) {v : Bool} (hdg : decode cc pc = .ok (.putfield index, 3)) (kk : ∀ (H1 : Heap) (locs1 : List Loc), kS G ks (uF S 8 b 6 v) Z A H0 H1 locs1 → W p l e R s m args below meth c H1 locs1 cells slots Q (F0 m (pc + 3) ls rest)) : W p l e R s m args below meth c H locs cells slots Q (F0 m pc ls (.int (bI v) :: .ref (G.2.2 (8, b)) :: rest)) :=
  kr_put (C := RX1) (T := TX1) (N := 9) (ci := 1) (ty := .boolean) hx hb hts hin tyX1 tyX1_ok nmX1 hown hK hw hk rfl rfl 6 (by decide) hlink rfl (by decide +kernel) (bI_nar v) (bI_fit v) (Nat.le_of_ble_eq_true rfl) (eU_uF G S 8 b 6 v) hdg kk
theorem g_8_7 (hx : p.tables.exec = Jvm.exec) (hb : c.code = cc) (hts : ∀ w ∈ Ts, w.before args s = true) (hin : ∀ w ∈ wsX10, w ∈ Ts) (hown : s.vm.findClass own = some m.cls) (hK : va_K G.1 vwCl (gTy G) s) (hw : kS G ks S Z A H0 H locs) {b : Nat} (hk : (8, b) ∈ ks) (hlink : (Cond.fieldLink own index "BranchPredictor$Branch" "isChoiceTaken" "Z").before args s = true) (hdg : decode cc pc = .ok (.getfield index, 3)) (kk : W p l e R s m args below meth c H locs cells slots Q (F0 m (pc + 3) ls (.int (bI (S.2.2 8 b 7)) :: rest))) : W p l e R s m args below meth c H locs cells slots Q (F0 m pc ls (.ref (G.2.2 (8, b)) :: rest)) :=
  kr_get (C := RX1) (T := TX1) (N := 9) (ci := 1) hx hb hts hin hown hK hw hk rfl rfl 7 (by decide) hlink rfl hdg kk
theorem p_8_7 (hx : p.tables.exec = Jvm.exec) (hb : c.code = cc) (hts : ∀ w ∈ Ts, w.before args s = true) (hin : ∀ w ∈ wsX10, w ∈ Ts) (hown : s.vm.findClass own = some m.cls) (hK : va_K G.1 vwCl (gTy G) s) (hw : kS G ks S Z A H0 H locs) {b : Nat} (hk : (8, b) ∈ ks) (hlink : (Cond.fieldLink own index "BranchPredictor$Branch" "isChoiceTaken" "Z").before args s = true) {v : Bool} (hdg : decode cc pc = .ok (.putfield index, 3)) (kk : ∀ (H1 : Heap) (locs1 : List Loc), kS G ks (uF S 8 b 7 v) Z A H0 H1 locs1 → W p l e R s m args below meth c H1 locs1 cells slots Q (F0 m (pc + 3) ls rest)) : W p l e R s m args below meth c H locs cells slots Q (F0 m pc ls (.int (bI v) :: .ref (G.2.2 (8, b)) :: rest)) :=
  kr_put (C := RX1) (T := TX1) (N := 9) (ci := 1) (ty := .boolean) hx hb hts hin tyX1 tyX1_ok nmX1 hown hK hw hk rfl rfl 7 (by decide) hlink rfl (by decide +kernel) (bI_nar v) (bI_fit v) (Nat.le_of_ble_eq_true rfl) (eU_uF G S 8 b 7 v) hdg kk
theorem g_8_8 (hx : p.tables.exec = Jvm.exec) (hb : c.code = cc) (hts : ∀ w ∈ Ts, w.before args s = true) (hin : ∀ w ∈ wsX10, w ∈ Ts) (hown : s.vm.findClass own = some m.cls) (hK : va_K G.1 vwCl (gTy G) s) (hw : kS G ks S Z A H0 H locs) {b : Nat} (hk : (8, b) ∈ ks) (hlink : (Cond.fieldLink own index "BranchPredictor$Branch" "isPredictedTaken" "Z").before args s = true) (hdg : decode cc pc = .ok (.getfield index, 3)) (kk : W p l e R s m args below meth c H locs cells slots Q (F0 m (pc + 3) ls (.int (bI (S.2.2 8 b 8)) :: rest))) : W p l e R s m args below meth c H locs cells slots Q (F0 m pc ls (.ref (G.2.2 (8, b)) :: rest)) :=
  kr_get (C := RX1) (T := TX1) (N := 9) (ci := 1) hx hb hts hin hown hK hw hk rfl rfl 8 (by decide) hlink rfl hdg kk
theorem p_8_8 (hx : p.tables.exec = Jvm.exec) (hb : c.code = cc) (hts : ∀ w ∈ Ts, w.before args s = true) (hin : ∀ w ∈ wsX10, w ∈ Ts) (hown : s.vm.findClass own = some m.cls) (hK : va_K G.1 vwCl (gTy G) s) (hw : kS G ks S Z A H0 H locs) {b : Nat} (hk : (8, b) ∈ ks) (hlink : (Cond.fieldLink own index "BranchPredictor$Branch" "isPredictedTaken" "Z").before args s = true) {v : Bool} (hdg : decode cc pc = .ok (.putfield index, 3)) (kk : ∀ (H1 : Heap) (locs1 : List Loc), kS G ks (uF S 8 b 8 v) Z A H0 H1 locs1 → W p l e R s m args below meth c H1 locs1 cells slots Q (F0 m (pc + 3) ls rest)) : W p l e R s m args below meth c H locs cells slots Q (F0 m pc ls (.int (bI v) :: .ref (G.2.2 (8, b)) :: rest)) :=
  kr_put (C := RX1) (T := TX1) (N := 9) (ci := 1) (ty := .boolean) hx hb hts hin tyX1 tyX1_ok nmX1 hown hK hw hk rfl rfl 8 (by decide) hlink rfl (by decide +kernel) (bI_nar v) (bI_fit v) (Nat.le_of_ble_eq_true rfl) (eU_uF G S 8 b 8 v) hdg kk
theorem g_9_0 (hx : p.tables.exec = Jvm.exec) (hb : c.code = cc) (hts : ∀ w ∈ Ts, w.before args s = true) (hin : ∀ w ∈ wsX30, w ∈ Ts) (hown : s.vm.findClass own = some m.cls) (hK : va_K G.1 vwCl (gTy G) s) (hw : kS G ks S Z A H0 H locs) {b : Nat} (hk : (9, b) ∈ ks) (hlink : (Cond.fieldLink own index "BranchPredictor$Loop" "place" "I").before args s = true) (hdg : decode cc pc = .ok (.getfield index, 3)) (kk : W p l e R s m args below meth c H locs cells slots Q (F0 m (pc + 3) ls (.int (S.1 9 b 0) :: rest))) : W p l e R s m args below meth c H locs cells slots Q (F0 m pc ls (.ref (G.2.2 (9, b)) :: rest)) :=
  kr_get (C := RX3) (T := TX3) (N := 4) (ci := 3) hx hb hts hin hown hK hw hk rfl rfl 0 (by decide) hlink rfl hdg kk
theorem p_9_0 (hx : p.tables.exec = Jvm.exec) (hb : c.code = cc) (hts : ∀ w ∈ Ts, w.before args s = true) (hin : ∀ w ∈ wsX30, w ∈ Ts) (hown : s.vm.findClass own = some m.cls) (hK : va_K G.1 vwCl (gTy G) s) (hw : kS G ks S Z A H0 H locs) {b : Nat} (hk : (9, b) ∈ ks) (hlink : (Cond.fieldLink own index "BranchPredictor$Loop" "place" "I").before args s = true) {v : Int32} (hdg : decode cc pc = .ok (.putfield index, 3)) (kk : ∀ (H1 : Heap) (locs1 : List Loc), kS G ks (uI S 9 b 0 v) Z A H0 H1 locs1 → W p l e R s m args below meth c H1 locs1 cells slots Q (F0 m (pc + 3) ls rest)) : W p l e R s m args below meth c H locs cells slots Q (F0 m pc ls (.int v :: .ref (G.2.2 (9, b)) :: rest)) :=
  kr_put (C := RX3) (T := TX3) (N := 4) (ci := 3) (ty := .int) hx hb hts hin tyX3 tyX3_ok nmX3 hown hK hw hk rfl rfl 0 (by decide) hlink rfl (by decide +kernel) rfl rfl (Nat.le_of_ble_eq_true rfl) (eU_uI G S 9 b 0 v) hdg kk
theorem g_9_1 (hx : p.tables.exec = Jvm.exec) (hb : c.code = cc) (hts : ∀ w ∈ Ts, w.before args s = true) (hin : ∀ w ∈ wsX30, w ∈ Ts) (hown : s.vm.findClass own = some m.cls) (hK : va_K G.1 vwCl (gTy G) s) (hw : kS G ks S Z A H0 H locs) {b : Nat} (hk : (9, b) ∈ ks) (hlink : (Cond.fieldLink own index "BranchPredictor$Loop" "count" "I").before args s = true) (hdg : decode cc pc = .ok (.getfield index, 3)) (kk : W p l e R s m args below meth c H locs cells slots Q (F0 m (pc + 3) ls (.int (S.1 9 b 1) :: rest))) : W p l e R s m args below meth c H locs cells slots Q (F0 m pc ls (.ref (G.2.2 (9, b)) :: rest)) :=
  kr_get (C := RX3) (T := TX3) (N := 4) (ci := 3) hx hb hts hin hown hK hw hk rfl rfl 1 (by decide) hlink rfl hdg kk
theorem p_9_1 (hx : p.tables.exec = Jvm.exec) (hb : c.code = cc) (hts : ∀ w ∈ Ts, w.before args s = true) (hin : ∀ w ∈ wsX30, w ∈ Ts) (hown : s.vm.findClass own = some m.cls) (hK : va_K G.1 vwCl (gTy G) s) (hw : kS G ks S Z A H0 H locs) {b : Nat} (hk : (9, b) ∈ ks) (hlink : (Cond.fieldLink own index "BranchPredictor$Loop" "count" "I").before args s = true) {v : Int32} (hdg : decode cc pc = .ok (.putfield index, 3)) (kk : ∀ (H1 : Heap) (locs1 : List Loc), kS G ks (uI S 9 b 1 v) Z A H0 H1 locs1 → W p l e R s m args below meth c H1 locs1 cells slots Q (F0 m (pc + 3) ls rest)) : W p l e R s m args below meth c H locs cells slots Q (F0 m pc ls (.int v :: .ref (G.2.2 (9, b)) :: rest)) :=
  kr_put (C := RX3) (T := TX3) (N := 4) (ci := 3) (ty := .int) hx hb hts hin tyX3 tyX3_ok nmX3 hown hK hw hk rfl rfl 1 (by decide) hlink rfl (by decide +kernel) rfl rfl (Nat.le_of_ble_eq_true rfl) (eU_uI G S 9 b 1 v) hdg kk
theorem g_9_2 (hx : p.tables.exec = Jvm.exec) (hb : c.code = cc) (hts : ∀ w ∈ Ts, w.before args s = true) (hin : ∀ w ∈ wsX30, w ∈ Ts) (hown : s.vm.findClass own = some m.cls) (hK : va_K G.1 vwCl (gTy G) s) (hw : kS G ks S Z A H0 H locs) {b : Nat} (hk : (9, b) ∈ ks) (hlink : (Cond.fieldLink own index "BranchPredictor$Loop" "trip" "I").before args s = true) (hdg : decode cc pc = .ok (.getfield index, 3)) (kk : W p l e R s m args below meth c H locs cells slots Q (F0 m (pc + 3) ls (.int (S.1 9 b 2) :: rest))) : W p l e R s m args below meth c H locs cells slots Q (F0 m pc ls (.ref (G.2.2 (9, b)) :: rest)) :=
  kr_get (C := RX3) (T := TX3) (N := 4) (ci := 3) hx hb hts hin hown hK hw hk rfl rfl 2 (by decide) hlink rfl hdg kk
theorem p_9_2 (hx : p.tables.exec = Jvm.exec) (hb : c.code = cc) (hts : ∀ w ∈ Ts, w.before args s = true) (hin : ∀ w ∈ wsX30, w ∈ Ts) (hown : s.vm.findClass own = some m.cls) (hK : va_K G.1 vwCl (gTy G) s) (hw : kS G ks S Z A H0 H locs) {b : Nat} (hk : (9, b) ∈ ks) (hlink : (Cond.fieldLink own index "BranchPredictor$Loop" "trip" "I").before args s = true) {v : Int32} (hdg : decode cc pc = .ok (.putfield index, 3)) (kk : ∀ (H1 : Heap) (locs1 : List Loc), kS G ks (uI S 9 b 2 v) Z A H0 H1 locs1 → W p l e R s m args below meth c H1 locs1 cells slots Q (F0 m (pc + 3) ls rest)) : W p l e R s m args below meth c H locs cells slots Q (F0 m pc ls (.int v :: .ref (G.2.2 (9, b)) :: rest)) :=
  kr_put (C := RX3) (T := TX3) (N := 4) (ci := 3) (ty := .int) hx hb hts hin tyX3 tyX3_ok nmX3 hown hK hw hk rfl rfl 2 (by decide) hlink rfl (by decide +kernel) rfl rfl (Nat.le_of_ble_eq_true rfl) (eU_uI G S 9 b 2 v) hdg kk
theorem g_9_3 (hx : p.tables.exec = Jvm.exec) (hb : c.code = cc) (hts : ∀ w ∈ Ts, w.before args s = true) (hin : ∀ w ∈ wsX30, w ∈ Ts) (hown : s.vm.findClass own = some m.cls) (hK : va_K G.1 vwCl (gTy G) s) (hw : kS G ks S Z A H0 H locs) {b : Nat} (hk : (9, b) ∈ ks) (hlink : (Cond.fieldLink own index "BranchPredictor$Loop" "trust" "I").before args s = true) (hdg : decode cc pc = .ok (.getfield index, 3)) (kk : W p l e R s m args below meth c H locs cells slots Q (F0 m (pc + 3) ls (.int (S.1 9 b 3) :: rest))) : W p l e R s m args below meth c H locs cells slots Q (F0 m pc ls (.ref (G.2.2 (9, b)) :: rest)) :=
  kr_get (C := RX3) (T := TX3) (N := 4) (ci := 3) hx hb hts hin hown hK hw hk rfl rfl 3 (by decide) hlink rfl hdg kk
theorem p_9_3 (hx : p.tables.exec = Jvm.exec) (hb : c.code = cc) (hts : ∀ w ∈ Ts, w.before args s = true) (hin : ∀ w ∈ wsX30, w ∈ Ts) (hown : s.vm.findClass own = some m.cls) (hK : va_K G.1 vwCl (gTy G) s) (hw : kS G ks S Z A H0 H locs) {b : Nat} (hk : (9, b) ∈ ks) (hlink : (Cond.fieldLink own index "BranchPredictor$Loop" "trust" "I").before args s = true) {v : Int32} (hdg : decode cc pc = .ok (.putfield index, 3)) (kk : ∀ (H1 : Heap) (locs1 : List Loc), kS G ks (uI S 9 b 3 v) Z A H0 H1 locs1 → W p l e R s m args below meth c H1 locs1 cells slots Q (F0 m (pc + 3) ls rest)) : W p l e R s m args below meth c H locs cells slots Q (F0 m pc ls (.int v :: .ref (G.2.2 (9, b)) :: rest)) :=
  kr_put (C := RX3) (T := TX3) (N := 4) (ci := 3) (ty := .int) hx hb hts hin tyX3 tyX3_ok nmX3 hown hK hw hk rfl rfl 3 (by decide) hlink rfl (by decide +kernel) rfl rfl (Nat.le_of_ble_eq_true rfl) (eU_uI G S 9 b 3 v) hdg kk
theorem g_10_0 (hx : p.tables.exec = Jvm.exec) (hb : c.code = cc) (hts : ∀ w ∈ Ts, w.before args s = true) (hin : ∀ w ∈ wsX50, w ∈ Ts) (hown : s.vm.findClass own = some m.cls) (hK : va_K G.1 vwCl (gTy G) s) (hw : kS G ks S Z A H0 H locs) {b : Nat} (hk : (10, b) ∈ ks) (hlink : (Cond.fieldLink own index "BranchPredictorModel" "thrown" "I").before args s = true) (hdg : decode cc pc = .ok (.getfield index, 3)) (kk : W p l e R s m args below meth c H locs cells slots Q (F0 m (pc + 3) ls (.int (S.1 10 b 0) :: rest))) : W p l e R s m args below meth c H locs cells slots Q (F0 m pc ls (.ref (G.2.2 (10, b)) :: rest)) :=
  kr_get (C := RX5) (T := TX5) (N := 22) (ci := 5) hx hb hts hin hown hK hw hk rfl rfl 0 (by decide) hlink rfl hdg kk
theorem p_10_0 (hx : p.tables.exec = Jvm.exec) (hb : c.code = cc) (hts : ∀ w ∈ Ts, w.before args s = true) (hin : ∀ w ∈ wsX50, w ∈ Ts) (hown : s.vm.findClass own = some m.cls) (hK : va_K G.1 vwCl (gTy G) s) (hw : kS G ks S Z A H0 H locs) {b : Nat} (hk : (10, b) ∈ ks) (hlink : (Cond.fieldLink own index "BranchPredictorModel" "thrown" "I").before args s = true) {v : Int32} (hdg : decode cc pc = .ok (.putfield index, 3)) (kk : ∀ (H1 : Heap) (locs1 : List Loc), kS G ks (uI S 10 b 0 v) Z A H0 H1 locs1 → W p l e R s m args below meth c H1 locs1 cells slots Q (F0 m (pc + 3) ls rest)) : W p l e R s m args below meth c H locs cells slots Q (F0 m pc ls (.int v :: .ref (G.2.2 (10, b)) :: rest)) :=
  kr_put (C := RX5) (T := TX5) (N := 22) (ci := 5) (ty := .int) hx hb hts hin tyX5 tyX5_ok nmX5 hown hK hw hk rfl rfl 0 (by decide) hlink rfl (by decide +kernel) rfl rfl (Nat.le_of_ble_eq_true rfl) (eU_uI G S 10 b 0 v) hdg kk
theorem g_10_1 (hx : p.tables.exec = Jvm.exec) (hb : c.code = cc) (hts : ∀ w ∈ Ts, w.before args s = true) (hin : ∀ w ∈ wsX50, w ∈ Ts) (hown : s.vm.findClass own = some m.cls) (hK : va_K G.1 vwCl (gTy G) s) (hw : kS G ks S Z A H0 H locs) {b : Nat} (hk : (10, b) ∈ ks) (hlink : (Cond.fieldLink own index "BranchPredictorModel" "p" "I").before args s = true) (hdg : decode cc pc = .ok (.getfield index, 3)) (kk : W p l e R s m args below meth c H locs cells slots Q (F0 m (pc + 3) ls (.int (S.1 10 b 1) :: rest))) : W p l e R s m args below meth c H locs cells slots Q (F0 m pc ls (.ref (G.2.2 (10, b)) :: rest)) :=
  kr_get (C := RX5) (T := TX5) (N := 22) (ci := 5) hx hb hts hin hown hK hw hk rfl rfl 1 (by decide) hlink rfl hdg kk
theorem p_10_1 (hx : p.tables.exec = Jvm.exec) (hb : c.code = cc) (hts : ∀ w ∈ Ts, w.before args s = true) (hin : ∀ w ∈ wsX50, w ∈ Ts) (hown : s.vm.findClass own = some m.cls) (hK : va_K G.1 vwCl (gTy G) s) (hw : kS G ks S Z A H0 H locs) {b : Nat} (hk : (10, b) ∈ ks) (hlink : (Cond.fieldLink own index "BranchPredictorModel" "p" "I").before args s = true) {v : Int32} (hdg : decode cc pc = .ok (.putfield index, 3)) (kk : ∀ (H1 : Heap) (locs1 : List Loc), kS G ks (uI S 10 b 1 v) Z A H0 H1 locs1 → W p l e R s m args below meth c H1 locs1 cells slots Q (F0 m (pc + 3) ls rest)) : W p l e R s m args below meth c H locs cells slots Q (F0 m pc ls (.int v :: .ref (G.2.2 (10, b)) :: rest)) :=
  kr_put (C := RX5) (T := TX5) (N := 22) (ci := 5) (ty := .int) hx hb hts hin tyX5 tyX5_ok nmX5 hown hK hw hk rfl rfl 1 (by decide) hlink rfl (by decide +kernel) rfl rfl (Nat.le_of_ble_eq_true rfl) (eU_uI G S 10 b 1 v) hdg kk
theorem g_10_2 (hx : p.tables.exec = Jvm.exec) (hb : c.code = cc) (hts : ∀ w ∈ Ts, w.before args s = true) (hin : ∀ w ∈ wsX50, w ∈ Ts) (hown : s.vm.findClass own = some m.cls) (hK : va_K G.1 vwCl (gTy G) s) (hw : kS G ks S Z A H0 H locs) {b : Nat} (hk : (10, b) ∈ ks) (hlink : (Cond.fieldLink own index "BranchPredictorModel" "g" "I").before args s = true) (hdg : decode cc pc = .ok (.getfield index, 3)) (kk : W p l e R s m args below meth c H locs cells slots Q (F0 m (pc + 3) ls (.int (S.1 10 b 2) :: rest))) : W p l e R s m args below meth c H locs cells slots Q (F0 m pc ls (.ref (G.2.2 (10, b)) :: rest)) :=
  kr_get (C := RX5) (T := TX5) (N := 22) (ci := 5) hx hb hts hin hown hK hw hk rfl rfl 2 (by decide) hlink rfl hdg kk
theorem p_10_2 (hx : p.tables.exec = Jvm.exec) (hb : c.code = cc) (hts : ∀ w ∈ Ts, w.before args s = true) (hin : ∀ w ∈ wsX50, w ∈ Ts) (hown : s.vm.findClass own = some m.cls) (hK : va_K G.1 vwCl (gTy G) s) (hw : kS G ks S Z A H0 H locs) {b : Nat} (hk : (10, b) ∈ ks) (hlink : (Cond.fieldLink own index "BranchPredictorModel" "g" "I").before args s = true) {v : Int32} (hdg : decode cc pc = .ok (.putfield index, 3)) (kk : ∀ (H1 : Heap) (locs1 : List Loc), kS G ks (uI S 10 b 2 v) Z A H0 H1 locs1 → W p l e R s m args below meth c H1 locs1 cells slots Q (F0 m (pc + 3) ls rest)) : W p l e R s m args below meth c H locs cells slots Q (F0 m pc ls (.int v :: .ref (G.2.2 (10, b)) :: rest)) :=
  kr_put (C := RX5) (T := TX5) (N := 22) (ci := 5) (ty := .int) hx hb hts hin tyX5 tyX5_ok nmX5 hown hK hw hk rfl rfl 2 (by decide) hlink rfl (by decide +kernel) rfl rfl (Nat.le_of_ble_eq_true rfl) (eU_uI G S 10 b 2 v) hdg kk
theorem g_10_3 (hx : p.tables.exec = Jvm.exec) (hb : c.code = cc) (hts : ∀ w ∈ Ts, w.before args s = true) (hin : ∀ w ∈ wsX50, w ∈ Ts) (hown : s.vm.findClass own = some m.cls) (hK : va_K G.1 vwCl (gTy G) s) (hw : kS G ks S Z A H0 H locs) {b : Nat} (hk : (10, b) ∈ ks) (hlink : (Cond.fieldLink own index "BranchPredictorModel" "h" "I").before args s = true) (hdg : decode cc pc = .ok (.getfield index, 3)) (kk : W p l e R s m args below meth c H locs cells slots Q (F0 m (pc + 3) ls (.int (S.1 10 b 3) :: rest))) : W p l e R s m args below meth c H locs cells slots Q (F0 m pc ls (.ref (G.2.2 (10, b)) :: rest)) :=
  kr_get (C := RX5) (T := TX5) (N := 22) (ci := 5) hx hb hts hin hown hK hw hk rfl rfl 3 (by decide) hlink rfl hdg kk
theorem p_10_3 (hx : p.tables.exec = Jvm.exec) (hb : c.code = cc) (hts : ∀ w ∈ Ts, w.before args s = true) (hin : ∀ w ∈ wsX50, w ∈ Ts) (hown : s.vm.findClass own = some m.cls) (hK : va_K G.1 vwCl (gTy G) s) (hw : kS G ks S Z A H0 H locs) {b : Nat} (hk : (10, b) ∈ ks) (hlink : (Cond.fieldLink own index "BranchPredictorModel" "h" "I").before args s = true) {v : Int32} (hdg : decode cc pc = .ok (.putfield index, 3)) (kk : ∀ (H1 : Heap) (locs1 : List Loc), kS G ks (uI S 10 b 3 v) Z A H0 H1 locs1 → W p l e R s m args below meth c H1 locs1 cells slots Q (F0 m (pc + 3) ls rest)) : W p l e R s m args below meth c H locs cells slots Q (F0 m pc ls (.int v :: .ref (G.2.2 (10, b)) :: rest)) :=
  kr_put (C := RX5) (T := TX5) (N := 22) (ci := 5) (ty := .int) hx hb hts hin tyX5 tyX5_ok nmX5 hown hK hw hk rfl rfl 3 (by decide) hlink rfl (by decide +kernel) rfl rfl (Nat.le_of_ble_eq_true rfl) (eU_uI G S 10 b 3 v) hdg kk
theorem g_10_4 (hx : p.tables.exec = Jvm.exec) (hb : c.code = cc) (hts : ∀ w ∈ Ts, w.before args s = true) (hin : ∀ w ∈ wsX50, w ∈ Ts) (hown : s.vm.findClass own = some m.cls) (hK : va_K G.1 vwCl (gTy G) s) (hw : kS G ks S Z A H0 H locs) {b : Nat} (hk : (10, b) ∈ ks) (hlink : (Cond.fieldLink own index "BranchPredictorModel" "history" "I").before args s = true) (hdg : decode cc pc = .ok (.getfield index, 3)) (kk : W p l e R s m args below meth c H locs cells slots Q (F0 m (pc + 3) ls (.int (S.1 10 b 4) :: rest))) : W p l e R s m args below meth c H locs cells slots Q (F0 m pc ls (.ref (G.2.2 (10, b)) :: rest)) :=
  kr_get (C := RX5) (T := TX5) (N := 22) (ci := 5) hx hb hts hin hown hK hw hk rfl rfl 4 (by decide) hlink rfl hdg kk
theorem p_10_4 (hx : p.tables.exec = Jvm.exec) (hb : c.code = cc) (hts : ∀ w ∈ Ts, w.before args s = true) (hin : ∀ w ∈ wsX50, w ∈ Ts) (hown : s.vm.findClass own = some m.cls) (hK : va_K G.1 vwCl (gTy G) s) (hw : kS G ks S Z A H0 H locs) {b : Nat} (hk : (10, b) ∈ ks) (hlink : (Cond.fieldLink own index "BranchPredictorModel" "history" "I").before args s = true) {v : Int32} (hdg : decode cc pc = .ok (.putfield index, 3)) (kk : ∀ (H1 : Heap) (locs1 : List Loc), kS G ks (uI S 10 b 4 v) Z A H0 H1 locs1 → W p l e R s m args below meth c H1 locs1 cells slots Q (F0 m (pc + 3) ls rest)) : W p l e R s m args below meth c H locs cells slots Q (F0 m pc ls (.int v :: .ref (G.2.2 (10, b)) :: rest)) :=
  kr_put (C := RX5) (T := TX5) (N := 22) (ci := 5) (ty := .int) hx hb hts hin tyX5 tyX5_ok nmX5 hown hK hw hk rfl rfl 4 (by decide) hlink rfl (by decide +kernel) rfl rfl (Nat.le_of_ble_eq_true rfl) (eU_uI G S 10 b 4 v) hdg kk
theorem g_10_5 (hx : p.tables.exec = Jvm.exec) (hb : c.code = cc) (hts : ∀ w ∈ Ts, w.before args s = true) (hin : ∀ w ∈ wsX50, w ∈ Ts) (hown : s.vm.findClass own = some m.cls) (hK : va_K G.1 vwCl (gTy G) s) (hw : kS G ks S Z A H0 H locs) {b : Nat} (hk : (10, b) ∈ ks) (hlink : (Cond.fieldLink own index "BranchPredictorModel" "counters" "[I").before args s = true) (hdg : decode cc pc = .ok (.getfield index, 3)) (kk : W p l e R s m args below meth c H locs cells slots Q (F0 m (pc + 3) ls (.ref (G.2.2 (11, 0)) :: rest))) : W p l e R s m args below meth c H locs cells slots Q (F0 m pc ls (.ref (G.2.2 (10, b)) :: rest)) :=
  kr_get (C := RX5) (T := TX5) (N := 22) (ci := 5) hx hb hts hin hown hK hw hk rfl rfl 5 (by decide) hlink rfl hdg kk
theorem g_10_6 (hx : p.tables.exec = Jvm.exec) (hb : c.code = cc) (hts : ∀ w ∈ Ts, w.before args s = true) (hin : ∀ w ∈ wsX50, w ∈ Ts) (hown : s.vm.findClass own = some m.cls) (hK : va_K G.1 vwCl (gTy G) s) (hw : kS G ks S Z A H0 H locs) {b : Nat} (hk : (10, b) ∈ ks) (hlink : (Cond.fieldLink own index "BranchPredictorModel" "latestPlaces" "[I").before args s = true) (hdg : decode cc pc = .ok (.getfield index, 3)) (kk : W p l e R s m args below meth c H locs cells slots Q (F0 m (pc + 3) ls (.ref (G.2.2 (11, 1)) :: rest))) : W p l e R s m args below meth c H locs cells slots Q (F0 m pc ls (.ref (G.2.2 (10, b)) :: rest)) :=
  kr_get (C := RX5) (T := TX5) (N := 22) (ci := 5) hx hb hts hin hown hK hw hk rfl rfl 6 (by decide) hlink rfl hdg kk
theorem g_10_7 (hx : p.tables.exec = Jvm.exec) (hb : c.code = cc) (hts : ∀ w ∈ Ts, w.before args s = true) (hin : ∀ w ∈ wsX50, w ∈ Ts) (hown : s.vm.findClass own = some m.cls) (hK : va_K G.1 vwCl (gTy G) s) (hw : kS G ks S Z A H0 H locs) {b : Nat} (hk : (10, b) ∈ ks) (hlink : (Cond.fieldLink own index "BranchPredictorModel" "flying" "I").before args s = true) (hdg : decode cc pc = .ok (.getfield index, 3)) (kk : W p l e R s m args below meth c H locs cells slots Q (F0 m (pc + 3) ls (.int (S.1 10 b 7) :: rest))) : W p l e R s m args below meth c H locs cells slots Q (F0 m pc ls (.ref (G.2.2 (10, b)) :: rest)) :=
  kr_get (C := RX5) (T := TX5) (N := 22) (ci := 5) hx hb hts hin hown hK hw hk rfl rfl 7 (by decide) hlink rfl hdg kk
theorem p_10_7 (hx : p.tables.exec = Jvm.exec) (hb : c.code = cc) (hts : ∀ w ∈ Ts, w.before args s = true) (hin : ∀ w ∈ wsX50, w ∈ Ts) (hown : s.vm.findClass own = some m.cls) (hK : va_K G.1 vwCl (gTy G) s) (hw : kS G ks S Z A H0 H locs) {b : Nat} (hk : (10, b) ∈ ks) (hlink : (Cond.fieldLink own index "BranchPredictorModel" "flying" "I").before args s = true) {v : Int32} (hdg : decode cc pc = .ok (.putfield index, 3)) (kk : ∀ (H1 : Heap) (locs1 : List Loc), kS G ks (uI S 10 b 7 v) Z A H0 H1 locs1 → W p l e R s m args below meth c H1 locs1 cells slots Q (F0 m (pc + 3) ls rest)) : W p l e R s m args below meth c H locs cells slots Q (F0 m pc ls (.int v :: .ref (G.2.2 (10, b)) :: rest)) :=
  kr_put (C := RX5) (T := TX5) (N := 22) (ci := 5) (ty := .int) hx hb hts hin tyX5 tyX5_ok nmX5 hown hK hw hk rfl rfl 7 (by decide) hlink rfl (by decide +kernel) rfl rfl (Nat.le_of_ble_eq_true rfl) (eU_uI G S 10 b 7 v) hdg kk
theorem g_10_8 (hx : p.tables.exec = Jvm.exec) (hb : c.code = cc) (hts : ∀ w ∈ Ts, w.before args s = true) (hin : ∀ w ∈ wsX50, w ∈ Ts) (hown : s.vm.findClass own = some m.cls) (hK : va_K G.1 vwCl (gTy G) s) (hw : kS G ks S Z A H0 H locs) {b : Nat} (hk : (10, b) ∈ ks) (hlink : (Cond.fieldLink own index "BranchPredictorModel" "places" "[I").before args s = true) (hdg : decode cc pc = .ok (.getfield index, 3)) (kk : W p l e R s m args below meth c H locs cells slots Q (F0 m (pc + 3) ls (.ref (G.2.2 (11, 2)) :: rest))) : W p l e R s m args below meth c H locs cells slots Q (F0 m pc ls (.ref (G.2.2 (10, b)) :: rest)) :=
  kr_get (C := RX5) (T := TX5) (N := 22) (ci := 5) hx hb hts hin hown hK hw hk rfl rfl 8 (by decide) hlink rfl hdg kk
theorem g_10_9 (hx : p.tables.exec = Jvm.exec) (hb : c.code = cc) (hts : ∀ w ∈ Ts, w.before args s = true) (hin : ∀ w ∈ wsX50, w ∈ Ts) (hown : s.vm.findClass own = some m.cls) (hK : va_K G.1 vwCl (gTy G) s) (hw : kS G ks S Z A H0 H locs) {b : Nat} (hk : (10, b) ∈ ks) (hlink : (Cond.fieldLink own index "BranchPredictorModel" "histories" "[I").before args s = true) (hdg : decode cc pc = .ok (.getfield index, 3)) (kk : W p l e R s m args below meth c H locs cells slots Q (F0 m (pc + 3) ls (.ref (G.2.2 (11, 3)) :: rest))) : W p l e R s m args below meth c H locs cells slots Q (F0 m pc ls (.ref (G.2.2 (10, b)) :: rest)) :=
  kr_get (C := RX5) (T := TX5) (N := 22) (ci := 5) hx hb hts hin hown hK hw hk rfl rfl 9 (by decide) hlink rfl hdg kk
theorem g_10_10 (hx : p.tables.exec = Jvm.exec) (hb : c.code = cc) (hts : ∀ w ∈ Ts, w.before args s = true) (hin : ∀ w ∈ wsX50, w ∈ Ts) (hown : s.vm.findClass own = some m.cls) (hK : va_K G.1 vwCl (gTy G) s) (hw : kS G ks S Z A H0 H locs) {b : Nat} (hk : (10, b) ∈ ks) (hlink : (Cond.fieldLink own index "BranchPredictorModel" "predictions" "[Z").before args s = true) (hdg : decode cc pc = .ok (.getfield index, 3)) (kk : W p l e R s m args below meth c H locs cells slots Q (F0 m (pc + 3) ls (.ref (G.2.2 (12, 0)) :: rest))) : W p l e R s m args below meth c H locs cells slots Q (F0 m pc ls (.ref (G.2.2 (10, b)) :: rest)) :=
  kr_get (C := RX5) (T := TX5) (N := 22) (ci := 5) hx hb hts hin hown hK hw hk rfl rfl 10 (by decide) hlink rfl hdg kk
theorem g_10_11 (hx : p.tables.exec = Jvm.exec) (hb : c.code = cc) (hts : ∀ w ∈ Ts, w.before args s = true) (hin : ∀ w ∈ wsX50, w ∈ Ts) (hown : s.vm.findClass own = some m.cls) (hK : va_K G.1 vwCl (gTy G) s) (hw : kS G ks S Z A H0 H locs) {b : Nat} (hk : (10, b) ∈ ks) (hlink : (Cond.fieldLink own index "BranchPredictorModel" "areResolved" "[Z").before args s = true) (hdg : decode cc pc = .ok (.getfield index, 3)) (kk : W p l e R s m args below meth c H locs cells slots Q (F0 m (pc + 3) ls (.ref (G.2.2 (12, 1)) :: rest))) : W p l e R s m args below meth c H locs cells slots Q (F0 m pc ls (.ref (G.2.2 (10, b)) :: rest)) :=
  kr_get (C := RX5) (T := TX5) (N := 22) (ci := 5) hx hb hts hin hown hK hw hk rfl rfl 11 (by decide) hlink rfl hdg kk
theorem g_10_12 (hx : p.tables.exec = Jvm.exec) (hb : c.code = cc) (hts : ∀ w ∈ Ts, w.before args s = true) (hin : ∀ w ∈ wsX50, w ∈ Ts) (hown : s.vm.findClass own = some m.cls) (hK : va_K G.1 vwCl (gTy G) s) (hw : kS G ks S Z A H0 H locs) {b : Nat} (hk : (10, b) ∈ ks) (hlink : (Cond.fieldLink own index "BranchPredictorModel" "outcomes" "[Z").before args s = true) (hdg : decode cc pc = .ok (.getfield index, 3)) (kk : W p l e R s m args below meth c H locs cells slots Q (F0 m (pc + 3) ls (.ref (G.2.2 (12, 2)) :: rest))) : W p l e R s m args below meth c H locs cells slots Q (F0 m pc ls (.ref (G.2.2 (10, b)) :: rest)) :=
  kr_get (C := RX5) (T := TX5) (N := 22) (ci := 5) hx hb hts hin hown hK hw hk rfl rfl 12 (by decide) hlink rfl hdg kk
theorem g_10_13 (hx : p.tables.exec = Jvm.exec) (hb : c.code = cc) (hts : ∀ w ∈ Ts, w.before args s = true) (hin : ∀ w ∈ wsX50, w ∈ Ts) (hown : s.vm.findClass own = some m.cls) (hK : va_K G.1 vwCl (gTy G) s) (hw : kS G ks S Z A H0 H locs) {b : Nat} (hk : (10, b) ∈ ks) (hlink : (Cond.fieldLink own index "BranchPredictorModel" "isLoop" "[Z").before args s = true) (hdg : decode cc pc = .ok (.getfield index, 3)) (kk : W p l e R s m args below meth c H locs cells slots Q (F0 m (pc + 3) ls (.ref (G.2.2 (12, 3)) :: rest))) : W p l e R s m args below meth c H locs cells slots Q (F0 m pc ls (.ref (G.2.2 (10, b)) :: rest)) :=
  kr_get (C := RX5) (T := TX5) (N := 22) (ci := 5) hx hb hts hin hown hK hw hk rfl rfl 13 (by decide) hlink rfl hdg kk
theorem g_10_14 (hx : p.tables.exec = Jvm.exec) (hb : c.code = cc) (hts : ∀ w ∈ Ts, w.before args s = true) (hin : ∀ w ∈ wsX50, w ∈ Ts) (hown : s.vm.findClass own = some m.cls) (hK : va_K G.1 vwCl (gTy G) s) (hw : kS G ks S Z A H0 H locs) {b : Nat} (hk : (10, b) ∈ ks) (hlink : (Cond.fieldLink own index "BranchPredictorModel" "loopPlaces" "[I").before args s = true) (hdg : decode cc pc = .ok (.getfield index, 3)) (kk : W p l e R s m args below meth c H locs cells slots Q (F0 m (pc + 3) ls (.ref (G.2.2 (11, 4)) :: rest))) : W p l e R s m args below meth c H locs cells slots Q (F0 m pc ls (.ref (G.2.2 (10, b)) :: rest)) :=
  kr_get (C := RX5) (T := TX5) (N := 22) (ci := 5) hx hb hts hin hown hK hw hk rfl rfl 14 (by decide) hlink rfl hdg kk
theorem g_10_15 (hx : p.tables.exec = Jvm.exec) (hb : c.code = cc) (hts : ∀ w ∈ Ts, w.before args s = true) (hin : ∀ w ∈ wsX50, w ∈ Ts) (hown : s.vm.findClass own = some m.cls) (hK : va_K G.1 vwCl (gTy G) s) (hw : kS G ks S Z A H0 H locs) {b : Nat} (hk : (10, b) ∈ ks) (hlink : (Cond.fieldLink own index "BranchPredictorModel" "loopCounts" "[I").before args s = true) (hdg : decode cc pc = .ok (.getfield index, 3)) (kk : W p l e R s m args below meth c H locs cells slots Q (F0 m (pc + 3) ls (.ref (G.2.2 (11, 5)) :: rest))) : W p l e R s m args below meth c H locs cells slots Q (F0 m pc ls (.ref (G.2.2 (10, b)) :: rest)) :=
  kr_get (C := RX5) (T := TX5) (N := 22) (ci := 5) hx hb hts hin hown hK hw hk rfl rfl 15 (by decide) hlink rfl hdg kk
theorem g_10_16 (hx : p.tables.exec = Jvm.exec) (hb : c.code = cc) (hts : ∀ w ∈ Ts, w.before args s = true) (hin : ∀ w ∈ wsX50, w ∈ Ts) (hown : s.vm.findClass own = some m.cls) (hK : va_K G.1 vwCl (gTy G) s) (hw : kS G ks S Z A H0 H locs) {b : Nat} (hk : (10, b) ∈ ks) (hlink : (Cond.fieldLink own index "BranchPredictorModel" "trips" "[I").before args s = true) (hdg : decode cc pc = .ok (.getfield index, 3)) (kk : W p l e R s m args below meth c H locs cells slots Q (F0 m (pc + 3) ls (.ref (G.2.2 (11, 6)) :: rest))) : W p l e R s m args below meth c H locs cells slots Q (F0 m pc ls (.ref (G.2.2 (10, b)) :: rest)) :=
  kr_get (C := RX5) (T := TX5) (N := 22) (ci := 5) hx hb hts hin hown hK hw hk rfl rfl 16 (by decide) hlink rfl hdg kk
theorem g_10_17 (hx : p.tables.exec = Jvm.exec) (hb : c.code = cc) (hts : ∀ w ∈ Ts, w.before args s = true) (hin : ∀ w ∈ wsX50, w ∈ Ts) (hown : s.vm.findClass own = some m.cls) (hK : va_K G.1 vwCl (gTy G) s) (hw : kS G ks S Z A H0 H locs) {b : Nat} (hk : (10, b) ∈ ks) (hlink : (Cond.fieldLink own index "BranchPredictorModel" "trusts" "[I").before args s = true) (hdg : decode cc pc = .ok (.getfield index, 3)) (kk : W p l e R s m args below meth c H locs cells slots Q (F0 m (pc + 3) ls (.ref (G.2.2 (11, 7)) :: rest))) : W p l e R s m args below meth c H locs cells slots Q (F0 m pc ls (.ref (G.2.2 (10, b)) :: rest)) :=
  kr_get (C := RX5) (T := TX5) (N := 22) (ci := 5) hx hb hts hin hown hK hw hk rfl rfl 17 (by decide) hlink rfl hdg kk
theorem g_10_18 (hx : p.tables.exec = Jvm.exec) (hb : c.code = cc) (hts : ∀ w ∈ Ts, w.before args s = true) (hin : ∀ w ∈ wsX50, w ∈ Ts) (hown : s.vm.findClass own = some m.cls) (hK : va_K G.1 vwCl (gTy G) s) (hw : kS G ks S Z A H0 H locs) {b : Nat} (hk : (10, b) ∈ ks) (hlink : (Cond.fieldLink own index "BranchPredictorModel" "commits" "J").before args s = true) (hdg : decode cc pc = .ok (.getfield index, 3)) (kk : W p l e R s m args below meth c H locs cells slots Q (F0 m (pc + 3) ls (.long (S.2.1 10 b 18) :: rest))) : W p l e R s m args below meth c H locs cells slots Q (F0 m pc ls (.ref (G.2.2 (10, b)) :: rest)) :=
  kr_get (C := RX5) (T := TX5) (N := 22) (ci := 5) hx hb hts hin hown hK hw hk rfl rfl 18 (by decide) hlink rfl hdg kk
theorem p_10_18 (hx : p.tables.exec = Jvm.exec) (hb : c.code = cc) (hts : ∀ w ∈ Ts, w.before args s = true) (hin : ∀ w ∈ wsX50, w ∈ Ts) (hown : s.vm.findClass own = some m.cls) (hK : va_K G.1 vwCl (gTy G) s) (hw : kS G ks S Z A H0 H locs) {b : Nat} (hk : (10, b) ∈ ks) (hlink : (Cond.fieldLink own index "BranchPredictorModel" "commits" "J").before args s = true) {v : Int64} (hdg : decode cc pc = .ok (.putfield index, 3)) (kk : ∀ (H1 : Heap) (locs1 : List Loc), kS G ks (uL S 10 b 18 v) Z A H0 H1 locs1 → W p l e R s m args below meth c H1 locs1 cells slots Q (F0 m (pc + 3) ls rest)) : W p l e R s m args below meth c H locs cells slots Q (F0 m pc ls (.long v :: .ref (G.2.2 (10, b)) :: rest)) :=
  kr_put (C := RX5) (T := TX5) (N := 22) (ci := 5) (ty := .long) hx hb hts hin tyX5 tyX5_ok nmX5 hown hK hw hk rfl rfl 18 (by decide) hlink rfl (by decide +kernel) rfl rfl (Nat.le_of_ble_eq_true rfl) (eU_uL G S 10 b 18 v) hdg kk
theorem g_10_19 (hx : p.tables.exec = Jvm.exec) (hb : c.code = cc) (hts : ∀ w ∈ Ts, w.before args s = true) (hin : ∀ w ∈ wsX50, w ∈ Ts) (hown : s.vm.findClass own = some m.cls) (hK : va_K G.1 vwCl (gTy G) s) (hw : kS G ks S Z A H0 H locs) {b : Nat} (hk : (10, b) ∈ ks) (hlink : (Cond.fieldLink own index "BranchPredictorModel" "drops" "J").before args s = true) (hdg : decode cc pc = .ok (.getfield index, 3)) (kk : W p l e R s m args below meth c H locs cells slots Q (F0 m (pc + 3) ls (.long (S.2.1 10 b 19) :: rest))) : W p l e R s m args below meth c H locs cells slots Q (F0 m pc ls (.ref (G.2.2 (10, b)) :: rest)) :=
  kr_get (C := RX5) (T := TX5) (N := 22) (ci := 5) hx hb hts hin hown hK hw hk rfl rfl 19 (by decide) hlink rfl hdg kk
theorem p_10_19 (hx : p.tables.exec = Jvm.exec) (hb : c.code = cc) (hts : ∀ w ∈ Ts, w.before args s = true) (hin : ∀ w ∈ wsX50, w ∈ Ts) (hown : s.vm.findClass own = some m.cls) (hK : va_K G.1 vwCl (gTy G) s) (hw : kS G ks S Z A H0 H locs) {b : Nat} (hk : (10, b) ∈ ks) (hlink : (Cond.fieldLink own index "BranchPredictorModel" "drops" "J").before args s = true) {v : Int64} (hdg : decode cc pc = .ok (.putfield index, 3)) (kk : ∀ (H1 : Heap) (locs1 : List Loc), kS G ks (uL S 10 b 19 v) Z A H0 H1 locs1 → W p l e R s m args below meth c H1 locs1 cells slots Q (F0 m (pc + 3) ls rest)) : W p l e R s m args below meth c H locs cells slots Q (F0 m pc ls (.long v :: .ref (G.2.2 (10, b)) :: rest)) :=
  kr_put (C := RX5) (T := TX5) (N := 22) (ci := 5) (ty := .long) hx hb hts hin tyX5 tyX5_ok nmX5 hown hK hw hk rfl rfl 19 (by decide) hlink rfl (by decide +kernel) rfl rfl (Nat.le_of_ble_eq_true rfl) (eU_uL G S 10 b 19 v) hdg kk
theorem g_10_20 (hx : p.tables.exec = Jvm.exec) (hb : c.code = cc) (hts : ∀ w ∈ Ts, w.before args s = true) (hin : ∀ w ∈ wsX50, w ∈ Ts) (hown : s.vm.findClass own = some m.cls) (hK : va_K G.1 vwCl (gTy G) s) (hw : kS G ks S Z A H0 H locs) {b : Nat} (hk : (10, b) ∈ ks) (hlink : (Cond.fieldLink own index "BranchPredictorModel" "misses" "[J").before args s = true) (hdg : decode cc pc = .ok (.getfield index, 3)) (kk : W p l e R s m args below meth c H locs cells slots Q (F0 m (pc + 3) ls (.ref (G.2.2 (13, 0)) :: rest))) : W p l e R s m args below meth c H locs cells slots Q (F0 m pc ls (.ref (G.2.2 (10, b)) :: rest)) :=
  kr_get (C := RX5) (T := TX5) (N := 22) (ci := 5) hx hb hts hin hown hK hw hk rfl rfl 20 (by decide) hlink rfl hdg kk
theorem g_10_21 (hx : p.tables.exec = Jvm.exec) (hb : c.code = cc) (hts : ∀ w ∈ Ts, w.before args s = true) (hin : ∀ w ∈ wsX50, w ∈ Ts) (hown : s.vm.findClass own = some m.cls) (hK : va_K G.1 vwCl (gTy G) s) (hw : kS G ks S Z A H0 H locs) {b : Nat} (hk : (10, b) ∈ ks) (hlink : (Cond.fieldLink own index "BranchPredictorModel" "meetings" "[J").before args s = true) (hdg : decode cc pc = .ok (.getfield index, 3)) (kk : W p l e R s m args below meth c H locs cells slots Q (F0 m (pc + 3) ls (.ref (G.2.2 (13, 1)) :: rest))) : W p l e R s m args below meth c H locs cells slots Q (F0 m pc ls (.ref (G.2.2 (10, b)) :: rest)) :=
  kr_get (C := RX5) (T := TX5) (N := 22) (ci := 5) hx hb hts hin hown hK hw hk rfl rfl 21 (by decide) hlink rfl hdg kk
/-- rows of numbers -/
theorem kr_ild (hx : p.tables.exec = Jvm.exec) (hb : c.code = cc) (hK : va_K G.1 vwCl (gTy G) s) (hw : kS G ks S Z A H0 H locs) {k : kK} (hk : k ∈ ks) {n : Nat} {f : Nat → Int32} (he : eU G S k = .inl (G.2.1 0, n, .inl f)) {i : Int32} (hin : vp_in i n) (hdg : decode cc pc = .ok (.iaload, 1)) (kk : W p l e R s m args below meth c H locs cells slots Q (F0 m (pc + 1) ls (.int (f i.toNatClampNeg) :: rest))) : W p l e R s m args below meth c H locs cells slots Q (F0 m pc ls (.int i :: .ref (G.2.2 k) :: rest)) := by
  obtain ⟨i0, hi⟩ := kw_at hk
  have h1 := kw_get (g := G.2.2) (e := eU G S) (Z := Z) hi
  rw [he] at h1
  exact va_iald (D := G.1) hx hb hK hw.1 i0 0 h1 rfl hin hdg kk
theorem kr_zld (hx : p.tables.exec = Jvm.exec) (hb : c.code = cc) (hK : va_K G.1 vwCl (gTy G) s) (hw : kS G ks S Z A H0 H locs) {k : kK} (hk : k ∈ ks) {n : Nat} {f : Nat → Int32} (he : eU G S k = .inl (G.2.1 2, n, .inl f)) {i : Int32} (hin : vp_in i n) (hdg : decode cc pc = .ok (.baload, 1)) (kk : W p l e R s m args below meth c H locs cells slots Q (F0 m (pc + 1) ls (.int (f i.toNatClampNeg) :: rest))) : W p l e R s m args below meth c H locs cells slots Q (F0 m pc ls (.int i :: .ref (G.2.2 k) :: rest)) := by
  obtain ⟨i0, hi⟩ := kw_at hk
  have h1 := kw_get (g := G.2.2) (e := eU G S) (Z := Z) hi
  rw [he] at h1
  exact va_zald (D := G.1) hx hb hK hw.1 i0 2 h1 rfl hin hdg kk
theorem kr_lld (hx : p.tables.exec = Jvm.exec) (hb : c.code = cc) (hK : va_K G.1 vwCl (gTy G) s) (hw : kS G ks S Z A H0 H locs) {k : kK} (hk : k ∈ ks) {n : Nat} {f : Nat → Int64} (he : eU G S k = .inl (G.2.1 1, n, .inr (.inl f))) {i : Int32} (hin : vp_in i n) (hdg : decode cc pc = .ok (.laload, 1)) (kk : W p l e R s m args below meth c H locs cells slots Q (F0 m (pc + 1) ls (.long (f i.toNatClampNeg) :: rest))) : W p l e R s m args below meth c H locs cells slots Q (F0 m pc ls (.int i :: .ref (G.2.2 k) :: rest)) := by
  obtain ⟨i0, hi⟩ := kw_at hk
  have h1 := kw_get (g := G.2.2) (e := eU G S) (Z := Z) hi
  rw [he] at h1
  exact va_lald (D := G.1) hx hb hK hw.1 i0 1 h1 rfl hin hdg kk
theorem kr_ist (hx : p.tables.exec = Jvm.exec) (hb : c.code = cc) (hK : va_K G.1 vwCl (gTy G) s) (hw : kS G ks S Z A H0 H locs) {k : kK} (hk : k ∈ ks) {n : Nat} {f : Nat → Int32} (he : eU G S k = .inl (G.2.1 0, n, .inl f)) {i x : Int32} (hin : vp_in i n) {S' : uS} (hS' : kw_up (eU G S) k (.inl (G.2.1 0, n, .inl (upd f i.toNatClampNeg x))) = eU G S') (hdg : decode cc pc = .ok (.iastore, 1)) (kk : ∀ (H1 : Heap) (locs1 : List Loc), kS G ks S' Z A H0 H1 locs1 → W p l e R s m args below meth c H1 locs1 cells slots Q (F0 m (pc + 1) ls rest)) : W p l e R s m args below meth c H locs cells slots Q (F0 m pc ls (.int x :: .int i :: .ref (G.2.2 k) :: rest)) := by
  obtain ⟨i0, hi⟩ := kw_at hk
  have h1 := kw_get (g := G.2.2) (e := eU G S) (Z := Z) hi
  rw [he] at h1
  refine va_iast (D := G.1) hx hb hK hw.1 hw.2.1 hw.2.2 i0 0 h1 rfl hin hdg (fun H1 locs1 hP hD hS => ?_)
  rw [kw_set hw.2.1 hi, hS'] at hP hD
  exact kk H1 locs1 ⟨hP, hD, hS⟩
theorem kr_zst (hx : p.tables.exec = Jvm.exec) (hb : c.code = cc) (hK : va_K G.1 vwCl (gTy G) s) (hw : kS G ks S Z A H0 H locs) {k : kK} (hk : k ∈ ks) {n : Nat} {f : Nat → Bool} (he : eU G S k = .inl (G.2.1 2, n, .inl (fun j => bI (f j)))) {i : Int32} {x : Bool} (hin : vp_in i n) {S' : uS} (hS' : kw_up (eU G S) k (.inl (G.2.1 2, n, .inl (fun j => bI (updF f i.toNatClampNeg x j)))) = eU G S') (hdg : decode cc pc = .ok (.bastore, 1)) (kk : ∀ (H1 : Heap) (locs1 : List Loc), kS G ks S' Z A H0 H1 locs1 → W p l e R s m args below meth c H1 locs1 cells slots Q (F0 m (pc + 1) ls rest)) : W p l e R s m args below meth c H locs cells slots Q (F0 m pc ls (.int (bI x) :: .int i :: .ref (G.2.2 k) :: rest)) := by
  obtain ⟨i0, hi⟩ := kw_at hk
  have h1 := kw_get (g := G.2.2) (e := eU G S) (Z := Z) hi
  rw [he] at h1
  refine va_zast (D := G.1) hx hb hK hw.1 hw.2.1 hw.2.2 i0 2 h1 rfl hin hdg (fun H1 locs1 hP hD hS => ?_)
  rw [bI_vn, updF_bI, kw_set hw.2.1 hi, hS'] at hP hD
  exact kk H1 locs1 ⟨hP, hD, hS⟩
theorem kr_lst (hx : p.tables.exec = Jvm.exec) (hb : c.code = cc) (hK : va_K G.1 vwCl (gTy G) s) (hw : kS G ks S Z A H0 H locs) {k : kK} (hk : k ∈ ks) {n : Nat} {f : Nat → Int64} (he : eU G S k = .inl (G.2.1 1, n, .inr (.inl f))) {i : Int32} {x : Int64} (hin : vp_in i n) {S' : uS} (hS' : kw_up (eU G S) k (.inl (G.2.1 1, n, .inr (.inl (vp_updL f i.toNatClampNeg x)))) = eU G S') (hdg : decode cc pc = .ok (.lastore, 1)) (kk : ∀ (H1 : Heap) (locs1 : List Loc), kS G ks S' Z A H0 H1 locs1 → W p l e R s m args below meth c H1 locs1 cells slots Q (F0 m (pc + 1) ls rest)) : W p l e R s m args below meth c H locs cells slots Q (F0 m pc ls (.long x :: .int i :: .ref (G.2.2 k) :: rest)) := by
  obtain ⟨i0, hi⟩ := kw_at hk
  have h1 := kw_get (g := G.2.2) (e := eU G S) (Z := Z) hi
  rw [he] at h1
  refine va_last (D := G.1) hx hb hK hw.1 hw.2.1 hw.2.2 i0 1 h1 rfl hin hdg (fun H1 locs1 hP hD hS => ?_)
  rw [kw_set hw.2.1 hi, hS'] at hP hD
  exact kk H1 locs1 ⟨hP, hD, hS⟩
theorem kr_ald (hx : p.tables.exec = Jvm.exec) (hb : c.code = cc) (hK : va_K G.1 vwCl (gTy G) s) (hw : kS G ks S Z A H0 H locs) {k : kK} (hk : k ∈ ks) {n t0 : Nat} {cA : ClassId} {C : String} {f : Nat → Nat} (he : eU G S k = .inl (cA, n, .inr (.inr (.inr (.inr (fun j => some (f j))))))) (ht : (gTy G)[t0]? = some (cA, .object C)) {i : Int32} (hin : vp_in i n) (hdg : decode cc pc = .ok (.aaload, 1)) (kk : W p l e R s m args below meth c H locs cells slots Q (F0 m (pc + 1) ls (.ref (f i.toNatClampNeg) :: rest))) : W p l e R s m args below meth c H locs cells slots Q (F0 m pc ls (.int i :: .ref (G.2.2 k) :: rest)) := by
  obtain ⟨i0, hi⟩ := kw_at hk
  have h1 := kw_get (g := G.2.2) (e := eU G S) (Z := Z) hi
  rw [he] at h1
  exact va_aldq (D := G.1) hx hb hK hw.1 i0 t0 h1 ht hin hdg kk
theorem ld_2 (hx : p.tables.exec = Jvm.exec) (hb : c.code = cc) (hK : va_K G.1 vwCl (gTy G) s) (hw : kS G ks S Z A H0 H locs) {b : Nat} (hk : (2, b) ∈ ks) {i : Int32} (hin : vp_in i 256) (hdg : decode cc pc = .ok (.iaload, 1)) (kk : W p l e R s m args below meth c H locs cells slots Q (F0 m (pc + 1) ls (.int (S.1 2 b i.toNatClampNeg) :: rest))) : W p l e R s m args below meth c H locs cells slots Q (F0 m pc ls (.int i :: .ref (G.2.2 (2, b)) :: rest)) := kr_ild hx hb hK hw hk rfl hin hdg kk
theorem st_2 (hx : p.tables.exec = Jvm.exec) (hb : c.code = cc) (hK : va_K G.1 vwCl (gTy G) s) (hw : kS G ks S Z A H0 H locs) {b : Nat} (hk : (2, b) ∈ ks) {i x : Int32} (hin : vp_in i 256) (hdg : decode cc pc = .ok (.iastore, 1)) (kk : ∀ (H1 : Heap) (locs1 : List Loc), kS G ks (uI S 2 b i.toNatClampNeg x) Z A H0 H1 locs1 → W p l e R s m args below meth c H1 locs1 cells slots Q (F0 m (pc + 1) ls rest)) : W p l e R s m args below meth c H locs cells slots Q (F0 m pc ls (.int x :: .int i :: .ref (G.2.2 (2, b)) :: rest)) := kr_ist hx hb hK hw hk rfl hin (eU_uI G S 2 b i.toNatClampNeg x) hdg kk
theorem ld_4 (hx : p.tables.exec = Jvm.exec) (hb : c.code = cc) (hK : va_K G.1 vwCl (gTy G) s) (hw : kS G ks S Z A H0 H locs) {b : Nat} (hk : (4, b) ∈ ks) {i : Int32} (hin : vp_in i 256) (hdg : decode cc pc = .ok (.iaload, 1)) (kk : W p l e R s m args below meth c H locs cells slots Q (F0 m (pc + 1) ls (.int (S.1 4 b i.toNatClampNeg) :: rest))) : W p l e R s m args below meth c H locs cells slots Q (F0 m pc ls (.int i :: .ref (G.2.2 (4, b)) :: rest)) := kr_ild hx hb hK hw hk rfl hin hdg kk
theorem st_4 (hx : p.tables.exec = Jvm.exec) (hb : c.code = cc) (hK : va_K G.1 vwCl (gTy G) s) (hw : kS G ks S Z A H0 H locs) {b : Nat} (hk : (4, b) ∈ ks) {i x : Int32} (hin : vp_in i 256) (hdg : decode cc pc = .ok (.iastore, 1)) (kk : ∀ (H1 : Heap) (locs1 : List Loc), kS G ks (uI S 4 b i.toNatClampNeg x) Z A H0 H1 locs1 → W p l e R s m args below meth c H1 locs1 cells slots Q (F0 m (pc + 1) ls rest)) : W p l e R s m args below meth c H locs cells slots Q (F0 m pc ls (.int x :: .int i :: .ref (G.2.2 (4, b)) :: rest)) := kr_ist hx hb hK hw hk rfl hin (eU_uI G S 4 b i.toNatClampNeg x) hdg kk
theorem ld_7_0 (hx : p.tables.exec = Jvm.exec) (hb : c.code = cc) (hK : va_K G.1 vwCl (gTy G) s) (hw : kS G ks S Z A H0 H locs) (hk : (7, 0) ∈ ks) {i : Int32} (hin : vp_in i 4) (hdg : decode cc pc = .ok (.laload, 1)) (kk : W p l e R s m args below meth c H locs cells slots Q (F0 m (pc + 1) ls (.long (S.2.1 7 0 i.toNatClampNeg) :: rest))) : W p l e R s m args below meth c H locs cells slots Q (F0 m pc ls (.int i :: .ref (G.2.2 (7, 0)) :: rest)) := kr_lld hx hb hK hw hk rfl hin hdg kk
theorem st_7_0 (hx : p.tables.exec = Jvm.exec) (hb : c.code = cc) (hK : va_K G.1 vwCl (gTy G) s) (hw : kS G ks S Z A H0 H locs) (hk : (7, 0) ∈ ks) {i : Int32} {x : Int64} (hin : vp_in i 4) (hdg : decode cc pc = .ok (.lastore, 1)) (kk : ∀ (H1 : Heap) (locs1 : List Loc), kS G ks (uL S 7 0 i.toNatClampNeg x) Z A H0 H1 locs1 → W p l e R s m args below meth c H1 locs1 cells slots Q (F0 m (pc + 1) ls rest)) : W p l e R s m args below meth c H locs cells slots Q (F0 m pc ls (.long x :: .int i :: .ref (G.2.2 (7, 0)) :: rest)) := kr_lst hx hb hK hw hk rfl hin (eU_uL G S 7 0 i.toNatClampNeg x) hdg kk
theorem ld_11_0 (hx : p.tables.exec = Jvm.exec) (hb : c.code = cc) (hK : va_K G.1 vwCl (gTy G) s) (hw : kS G ks S Z A H0 H locs) (hk : (11, 0) ∈ ks) {i : Int32} (hin : vp_in i 768) (hdg : decode cc pc = .ok (.iaload, 1)) (kk : W p l e R s m args below meth c H locs cells slots Q (F0 m (pc + 1) ls (.int (S.1 11 0 i.toNatClampNeg) :: rest))) : W p l e R s m args below meth c H locs cells slots Q (F0 m pc ls (.int i :: .ref (G.2.2 (11, 0)) :: rest)) := kr_ild hx hb hK hw hk rfl hin hdg kk
theorem st_11_0 (hx : p.tables.exec = Jvm.exec) (hb : c.code = cc) (hK : va_K G.1 vwCl (gTy G) s) (hw : kS G ks S Z A H0 H locs) (hk : (11, 0) ∈ ks) {i x : Int32} (hin : vp_in i 768) (hdg : decode cc pc = .ok (.iastore, 1)) (kk : ∀ (H1 : Heap) (locs1 : List Loc), kS G ks (uI S 11 0 i.toNatClampNeg x) Z A H0 H1 locs1 → W p l e R s m args below meth c H1 locs1 cells slots Q (F0 m (pc + 1) ls rest)) : W p l e R s m args below meth c H locs cells slots Q (F0 m pc ls (.int x :: .int i :: .ref (G.2.2 (11, 0)) :: rest)) := kr_ist hx hb hK hw hk rfl hin (eU_uI G S 11 0 i.toNatClampNeg x) hdg kk
theorem ld_11_1 (hx : p.tables.exec = Jvm.exec) (hb : c.code = cc) (hK : va_K G.1 vwCl (gTy G) s) (hw : kS G ks S Z A H0 H locs) (hk : (11, 1) ∈ ks) {i : Int32} (hin : vp_in i 512) (hdg : decode cc pc = .ok (.iaload, 1)) (kk : W p l e R s m args below meth c H locs cells slots Q (F0 m (pc + 1) ls (.int (S.1 11 1 i.toNatClampNeg) :: rest))) : W p l e R s m args below meth c H locs cells slots Q (F0 m pc ls (.int i :: .ref (G.2.2 (11, 1)) :: rest)) := kr_ild hx hb hK hw hk rfl hin hdg kk
theorem st_11_1 (hx : p.tables.exec = Jvm.exec) (hb : c.code = cc) (hK : va_K G.1 vwCl (gTy G) s) (hw : kS G ks S Z A H0 H locs) (hk : (11, 1) ∈ ks) {i x : Int32} (hin : vp_in i 512) (hdg : decode cc pc = .ok (.iastore, 1)) (kk : ∀ (H1 : Heap) (locs1 : List Loc), kS G ks (uI S 11 1 i.toNatClampNeg x) Z A H0 H1 locs1 → W p l e R s m args below meth c H1 locs1 cells slots Q (F0 m (pc + 1) ls rest)) : W p l e R s m args below meth c H locs cells slots Q (F0 m pc ls (.int x :: .int i :: .ref (G.2.2 (11, 1)) :: rest)) := kr_ist hx hb hK hw hk rfl hin (eU_uI G S 11 1 i.toNatClampNeg x) hdg kk
theorem ld_11_2 (hx : p.tables.exec = Jvm.exec) (hb : c.code = cc) (hK : va_K G.1 vwCl (gTy G) s) (hw : kS G ks S Z A H0 H locs) (hk : (11, 2) ∈ ks) {i : Int32} (hin : vp_in i 16) (hdg : decode cc pc = .ok (.iaload, 1)) (kk : W p l e R s m args below meth c H locs cells slots Q (F0 m (pc + 1) ls (.int (S.1 11 2 i.toNatClampNeg) :: rest))) : W p l e R s m args below meth c H locs cells slots Q (F0 m pc ls (.int i :: .ref (G.2.2 (11, 2)) :: rest)) := kr_ild hx hb hK hw hk rfl hin hdg kk
theorem st_11_2 (hx : p.tables.exec = Jvm.exec) (hb : c.code = cc) (hK : va_K G.1 vwCl (gTy G) s) (hw : kS G ks S Z A H0 H locs) (hk : (11, 2) ∈ ks) {i x : Int32} (hin : vp_in i 16) (hdg : decode cc pc = .ok (.iastore, 1)) (kk : ∀ (H1 : Heap) (locs1 : List Loc), kS G ks (uI S 11 2 i.toNatClampNeg x) Z A H0 H1 locs1 → W p l e R s m args below meth c H1 locs1 cells slots Q (F0 m (pc + 1) ls rest)) : W p l e R s m args below meth c H locs cells slots Q (F0 m pc ls (.int x :: .int i :: .ref (G.2.2 (11, 2)) :: rest)) := kr_ist hx hb hK hw hk rfl hin (eU_uI G S 11 2 i.toNatClampNeg x) hdg kk
theorem ld_11_3 (hx : p.tables.exec = Jvm.exec) (hb : c.code = cc) (hK : va_K G.1 vwCl (gTy G) s) (hw : kS G ks S Z A H0 H locs) (hk : (11, 3) ∈ ks) {i : Int32} (hin : vp_in i 16) (hdg : decode cc pc = .ok (.iaload, 1)) (kk : W p l e R s m args below meth c H locs cells slots Q (F0 m (pc + 1) ls (.int (S.1 11 3 i.toNatClampNeg) :: rest))) : W p l e R s m args below meth c H locs cells slots Q (F0 m pc ls (.int i :: .ref (G.2.2 (11, 3)) :: rest)) := kr_ild hx hb hK hw hk rfl hin hdg kk
theorem st_11_3 (hx : p.tables.exec = Jvm.exec) (hb : c.code = cc) (hK : va_K G.1 vwCl (gTy G) s) (hw : kS G ks S Z A H0 H locs) (hk : (11, 3) ∈ ks) {i x : Int32} (hin : vp_in i 16) (hdg : decode cc pc = .ok (.iastore, 1)) (kk : ∀ (H1 : Heap) (locs1 : List Loc), kS G ks (uI S 11 3 i.toNatClampNeg x) Z A H0 H1 locs1 → W p l e R s m args below meth c H1 locs1 cells slots Q (F0 m (pc + 1) ls rest)) : W p l e R s m args below meth c H locs cells slots Q (F0 m pc ls (.int x :: .int i :: .ref (G.2.2 (11, 3)) :: rest)) := kr_ist hx hb hK hw hk rfl hin (eU_uI G S 11 3 i.toNatClampNeg x) hdg kk
theorem ld_11_4 (hx : p.tables.exec = Jvm.exec) (hb : c.code = cc) (hK : va_K G.1 vwCl (gTy G) s) (hw : kS G ks S Z A H0 H locs) (hk : (11, 4) ∈ ks) {i : Int32} (hin : vp_in i 8) (hdg : decode cc pc = .ok (.iaload, 1)) (kk : W p l e R s m args below meth c H locs cells slots Q (F0 m (pc + 1) ls (.int (S.1 11 4 i.toNatClampNeg) :: rest))) : W p l e R s m args below meth c H locs cells slots Q (F0 m pc ls (.int i :: .ref (G.2.2 (11, 4)) :: rest)) := kr_ild hx hb hK hw hk rfl hin hdg kk
theorem st_11_4 (hx : p.tables.exec = Jvm.exec) (hb : c.code = cc) (hK : va_K G.1 vwCl (gTy G) s) (hw : kS G ks S Z A H0 H locs) (hk : (11, 4) ∈ ks) {i x : Int32} (hin : vp_in i 8) (hdg : decode cc pc = .ok (.iastore, 1)) (kk : ∀ (H1 : Heap) (locs1 : List Loc), kS G ks (uI S 11 4 i.toNatClampNeg x) Z A H0 H1 locs1 → W p l e R s m args below meth c H1 locs1 cells slots Q (F0 m (pc + 1) ls rest)) : W p l e R s m args below meth c H locs cells slots Q (F0 m pc ls (.int x :: .int i :: .ref (G.2.2 (11, 4)) :: rest)) := kr_ist hx hb hK hw hk rfl hin (eU_uI G S 11 4 i.toNatClampNeg x) hdg kk
theorem ld_11_5 (hx : p.tables.exec = Jvm.exec) (hb : c.code = cc) (hK : va_K G.1 vwCl (gTy G) s) (hw : kS G ks S Z A H0 H locs) (hk : (11, 5) ∈ ks) {i : Int32} (hin : vp_in i 8) (hdg : decode cc pc = .ok (.iaload, 1)) (kk : W p l e R s m args below meth c H locs cells slots Q (F0 m (pc + 1) ls (.int (S.1 11 5 i.toNatClampNeg) :: rest))) : W p l e R s m args below meth c H locs cells slots Q (F0 m pc ls (.int i :: .ref (G.2.2 (11, 5)) :: rest)) := kr_ild hx hb hK hw hk rfl hin hdg kk
theorem st_11_5 (hx : p.tables.exec = Jvm.exec) (hb : c.code = cc) (hK : va_K G.1 vwCl (gTy G) s) (hw : kS G ks S Z A H0 H locs) (hk : (11, 5) ∈ ks) {i x : Int32} (hin : vp_in i 8) (hdg : decode cc pc = .ok (.iastore, 1)) (kk : ∀ (H1 : Heap) (locs1 : List Loc), kS G ks (uI S 11 5 i.toNatClampNeg x) Z A H0 H1 locs1 → W p l e R s m args below meth c H1 locs1 cells slots Q (F0 m (pc + 1) ls rest)) : W p l e R s m args below meth c H locs cells slots Q (F0 m pc ls (.int x :: .int i :: .ref (G.2.2 (11, 5)) :: rest)) := kr_ist hx hb hK hw hk rfl hin (eU_uI G S 11 5 i.toNatClampNeg x) hdg kk
theorem ld_11_6 (hx : p.tables.exec = Jvm.exec) (hb : c.code = cc) (hK : va_K G.1 vwCl (gTy G) s) (hw : kS G ks S Z A H0 H locs) (hk : (11, 6) ∈ ks) {i : Int32} (hin : vp_in i 8) (hdg : decode cc pc = .ok (.iaload, 1)) (kk : W p l e R s m args below meth c H locs cells slots Q (F0 m (pc + 1) ls (.int (S.1 11 6 i.toNatClampNeg) :: rest))) : W p l e R s m args below meth c H locs cells slots Q (F0 m pc ls (.int i :: .ref (G.2.2 (11, 6)) :: rest)) := kr_ild hx hb hK hw hk rfl hin hdg kk
theorem st_11_6 (hx : p.tables.exec = Jvm.exec) (hb : c.code = cc) (hK : va_K G.1 vwCl (gTy G) s) (hw : kS G ks S Z A H0 H locs) (hk : (11, 6) ∈ ks) {i x : Int32} (hin : vp_in i 8) (hdg : decode cc pc = .ok (.iastore, 1)) (kk : ∀ (H1 : Heap) (locs1 : List Loc), kS G ks (uI S 11 6 i.toNatClampNeg x) Z A H0 H1 locs1 → W p l e R s m args below meth c H1 locs1 cells slots Q (F0 m (pc + 1) ls rest)) : W p l e R s m args below meth c H locs cells slots Q (F0 m pc ls (.int x :: .int i :: .ref (G.2.2 (11, 6)) :: rest)) := kr_ist hx hb hK hw hk rfl hin (eU_uI G S 11 6 i.toNatClampNeg x) hdg kk
theorem ld_11_7 (hx : p.tables.exec = Jvm.exec) (hb : c.code = cc) (hK : va_K G.1 vwCl (gTy G) s) (hw : kS G ks S Z A H0 H locs) (hk : (11, 7) ∈ ks) {i : Int32} (hin : vp_in i 8) (hdg : decode cc pc = .ok (.iaload, 1)) (kk : W p l e R s m args below meth c H locs cells slots Q (F0 m (pc + 1) ls (.int (S.1 11 7 i.toNatClampNeg) :: rest))) : W p l e R s m args below meth c H locs cells slots Q (F0 m pc ls (.int i :: .ref (G.2.2 (11, 7)) :: rest)) := kr_ild hx hb hK hw hk rfl hin hdg kk
theorem st_11_7 (hx : p.tables.exec = Jvm.exec) (hb : c.code = cc) (hK : va_K G.1 vwCl (gTy G) s) (hw : kS G ks S Z A H0 H locs) (hk : (11, 7) ∈ ks) {i x : Int32} (hin : vp_in i 8) (hdg : decode cc pc = .ok (.iastore, 1)) (kk : ∀ (H1 : Heap) (locs1 : List Loc), kS G ks (uI S 11 7 i.toNatClampNeg x) Z A H0 H1 locs1 → W p l e R s m args below meth c H1 locs1 cells slots Q (F0 m (pc + 1) ls rest)) : W p l e R s m args below meth c H locs cells slots Q (F0 m pc ls (.int x :: .int i :: .ref (G.2.2 (11, 7)) :: rest)) := kr_ist hx hb hK hw hk rfl hin (eU_uI G S 11 7 i.toNatClampNeg x) hdg kk
theorem ld_12_0 (hx : p.tables.exec = Jvm.exec) (hb : c.code = cc) (hK : va_K G.1 vwCl (gTy G) s) (hw : kS G ks S Z A H0 H locs) (hk : (12, 0) ∈ ks) {i : Int32} (hin : vp_in i 64) (hdg : decode cc pc = .ok (.baload, 1)) (kk : W p l e R s m args below meth c H locs cells slots Q (F0 m (pc + 1) ls (.int (bI (S.2.2 12 0 i.toNatClampNeg)) :: rest))) : W p l e R s m args below meth c H locs cells slots Q (F0 m pc ls (.int i :: .ref (G.2.2 (12, 0)) :: rest)) := kr_zld hx hb hK hw hk rfl hin hdg kk
theorem st_12_0 (hx : p.tables.exec = Jvm.exec) (hb : c.code = cc) (hK : va_K G.1 vwCl (gTy G) s) (hw : kS G ks S Z A H0 H locs) (hk : (12, 0) ∈ ks) {i : Int32} {x : Bool} (hin : vp_in i 64) (hdg : decode cc pc = .ok (.bastore, 1)) (kk : ∀ (H1 : Heap) (locs1 : List Loc), kS G ks (uF S 12 0 i.toNatClampNeg x) Z A H0 H1 locs1 → W p l e R s m args below meth c H1 locs1 cells slots Q (F0 m (pc + 1) ls rest)) : W p l e R s m args below meth c H locs cells slots Q (F0 m pc ls (.int (bI x) :: .int i :: .ref (G.2.2 (12, 0)) :: rest)) := kr_zst hx hb hK hw hk (f := S.2.2 12 0) rfl hin (eU_uF G S 12 0 i.toNatClampNeg x) hdg kk
theorem ld_12_1 (hx : p.tables.exec = Jvm.exec) (hb : c.code = cc) (hK : va_K G.1 vwCl (gTy G) s) (hw : kS G ks S Z A H0 H locs) (hk : (12, 1) ∈ ks) {i : Int32} (hin : vp_in i 16) (hdg : decode cc pc = .ok (.baload, 1)) (kk : W p l e R s m args below meth c H locs cells slots Q (F0 m (pc + 1) ls (.int (bI (S.2.2 12 1 i.toNatClampNeg)) :: rest))) : W p l e R s m args below meth c H locs cells slots Q (F0 m pc ls (.int i :: .ref (G.2.2 (12, 1)) :: rest)) := kr_zld hx hb hK hw hk rfl hin hdg kk
theorem st_12_1 (hx : p.tables.exec = Jvm.exec) (hb : c.code = cc) (hK : va_K G.1 vwCl (gTy G) s) (hw : kS G ks S Z A H0 H locs) (hk : (12, 1) ∈ ks) {i : Int32} {x : Bool} (hin : vp_in i 16) (hdg : decode cc pc = .ok (.bastore, 1)) (kk : ∀ (H1 : Heap) (locs1 : List Loc), kS G ks (uF S 12 1 i.toNatClampNeg x) Z A H0 H1 locs1 → W p l e R s m args below meth c H1 locs1 cells slots Q (F0 m (pc + 1) ls rest)) : W p l e R s m args below meth c H locs cells slots Q (F0 m pc ls (.int (bI x) :: .int i :: .ref (G.2.2 (12, 1)) :: rest)) := kr_zst hx hb hK hw hk (f := S.2.2 12 1) rfl hin (eU_uF G S 12 1 i.toNatClampNeg x) hdg kk
theorem ld_12_2 (hx : p.tables.exec = Jvm.exec) (hb : c.code = cc) (hK : va_K G.1 vwCl (gTy G) s) (hw : kS G ks S Z A H0 H locs) (hk : (12, 2) ∈ ks) {i : Int32} (hin : vp_in i 16) (hdg : decode cc pc = .ok (.baload, 1)) (kk : W p l e R s m args below meth c H locs cells slots Q (F0 m (pc + 1) ls (.int (bI (S.2.2 12 2 i.toNatClampNeg)) :: rest))) : W p l e R s m args below meth c H locs cells slots Q (F0 m pc ls (.int i :: .ref (G.2.2 (12, 2)) :: rest)) := kr_zld hx hb hK hw hk rfl hin hdg kk
theorem st_12_2 (hx : p.tables.exec = Jvm.exec) (hb : c.code = cc) (hK : va_K G.1 vwCl (gTy G) s) (hw : kS G ks S Z A H0 H locs) (hk : (12, 2) ∈ ks) {i : Int32} {x : Bool} (hin : vp_in i 16) (hdg : decode cc pc = .ok (.bastore, 1)) (kk : ∀ (H1 : Heap) (locs1 : List Loc), kS G ks (uF S 12 2 i.toNatClampNeg x) Z A H0 H1 locs1 → W p l e R s m args below meth c H1 locs1 cells slots Q (F0 m (pc + 1) ls rest)) : W p l e R s m args below meth c H locs cells slots Q (F0 m pc ls (.int (bI x) :: .int i :: .ref (G.2.2 (12, 2)) :: rest)) := kr_zst hx hb hK hw hk (f := S.2.2 12 2) rfl hin (eU_uF G S 12 2 i.toNatClampNeg x) hdg kk
theorem ld_12_3 (hx : p.tables.exec = Jvm.exec) (hb : c.code = cc) (hK : va_K G.1 vwCl (gTy G) s) (hw : kS G ks S Z A H0 H locs) (hk : (12, 3) ∈ ks) {i : Int32} (hin : vp_in i 8) (hdg : decode cc pc = .ok (.baload, 1)) (kk : W p l e R s m args below meth c H locs cells slots Q (F0 m (pc + 1) ls (.int (bI (S.2.2 12 3 i.toNatClampNeg)) :: rest))) : W p l e R s m args below meth c H locs cells slots Q (F0 m pc ls (.int i :: .ref (G.2.2 (12, 3)) :: rest)) := kr_zld hx hb hK hw hk rfl hin hdg kk
theorem st_12_3 (hx : p.tables.exec = Jvm.exec) (hb : c.code = cc) (hK : va_K G.1 vwCl (gTy G) s) (hw : kS G ks S Z A H0 H locs) (hk : (12, 3) ∈ ks) {i : Int32} {x : Bool} (hin : vp_in i 8) (hdg : decode cc pc = .ok (.bastore, 1)) (kk : ∀ (H1 : Heap) (locs1 : List Loc), kS G ks (uF S 12 3 i.toNatClampNeg x) Z A H0 H1 locs1 → W p l e R s m args below meth c H1 locs1 cells slots Q (F0 m (pc + 1) ls rest)) : W p l e R s m args below meth c H locs cells slots Q (F0 m pc ls (.int (bI x) :: .int i :: .ref (G.2.2 (12, 3)) :: rest)) := kr_zst hx hb hK hw hk (f := S.2.2 12 3) rfl hin (eU_uF G S 12 3 i.toNatClampNeg x) hdg kk
theorem ld_13_0 (hx : p.tables.exec = Jvm.exec) (hb : c.code = cc) (hK : va_K G.1 vwCl (gTy G) s) (hw : kS G ks S Z A H0 H locs) (hk : (13, 0) ∈ ks) {i : Int32} (hin : vp_in i 4) (hdg : decode cc pc = .ok (.laload, 1)) (kk : W p l e R s m args below meth c H locs cells slots Q (F0 m (pc + 1) ls (.long (S.2.1 13 0 i.toNatClampNeg) :: rest))) : W p l e R s m args below meth c H locs cells slots Q (F0 m pc ls (.int i :: .ref (G.2.2 (13, 0)) :: rest)) := kr_lld hx hb hK hw hk rfl hin hdg kk
theorem st_13_0 (hx : p.tables.exec = Jvm.exec) (hb : c.code = cc) (hK : va_K G.1 vwCl (gTy G) s) (hw : kS G ks S Z A H0 H locs) (hk : (13, 0) ∈ ks) {i : Int32} {x : Int64} (hin : vp_in i 4) (hdg : decode cc pc = .ok (.lastore, 1)) (kk : ∀ (H1 : Heap) (locs1 : List Loc), kS G ks (uL S 13 0 i.toNatClampNeg x) Z A H0 H1 locs1 → W p l e R s m args below meth c H1 locs1 cells slots Q (F0 m (pc + 1) ls rest)) : W p l e R s m args below meth c H locs cells slots Q (F0 m pc ls (.long x :: .int i :: .ref (G.2.2 (13, 0)) :: rest)) := kr_lst hx hb hK hw hk rfl hin (eU_uL G S 13 0 i.toNatClampNeg x) hdg kk
theorem ld_13_1 (hx : p.tables.exec = Jvm.exec) (hb : c.code = cc) (hK : va_K G.1 vwCl (gTy G) s) (hw : kS G ks S Z A H0 H locs) (hk : (13, 1) ∈ ks) {i : Int32} (hin : vp_in i 4) (hdg : decode cc pc = .ok (.laload, 1)) (kk : W p l e R s m args below meth c H locs cells slots Q (F0 m (pc + 1) ls (.long (S.2.1 13 1 i.toNatClampNeg) :: rest))) : W p l e R s m args below meth c H locs cells slots Q (F0 m pc ls (.int i :: .ref (G.2.2 (13, 1)) :: rest)) := kr_lld hx hb hK hw hk rfl hin hdg kk
theorem st_13_1 (hx : p.tables.exec = Jvm.exec) (hb : c.code = cc) (hK : va_K G.1 vwCl (gTy G) s) (hw : kS G ks S Z A H0 H locs) (hk : (13, 1) ∈ ks) {i : Int32} {x : Int64} (hin : vp_in i 4) (hdg : decode cc pc = .ok (.lastore, 1)) (kk : ∀ (H1 : Heap) (locs1 : List Loc), kS G ks (uL S 13 1 i.toNatClampNeg x) Z A H0 H1 locs1 → W p l e R s m args below meth c H1 locs1 cells slots Q (F0 m (pc + 1) ls rest)) : W p l e R s m args below meth c H locs cells slots Q (F0 m pc ls (.long x :: .int i :: .ref (G.2.2 (13, 1)) :: rest)) := kr_lst hx hb hK hw hk rfl hin (eU_uL G S 13 1 i.toNatClampNeg x) hdg kk
theorem ld_14_0 (hx : p.tables.exec = Jvm.exec) (hb : c.code = cc) (hK : va_K G.1 vwCl (gTy G) s) (hw : kS G ks S Z A H0 H locs) (hk : (14, 0) ∈ ks) {i : Int32} (hin : vp_in i 1) (hdg : decode cc pc = .ok (.laload, 1)) (kk : W p l e R s m args below meth c H locs cells slots Q (F0 m (pc + 1) ls (.long (S.2.1 14 0 i.toNatClampNeg) :: rest))) : W p l e R s m args below meth c H locs cells slots Q (F0 m pc ls (.int i :: .ref (G.2.2 (14, 0)) :: rest)) := kr_lld hx hb hK hw hk rfl hin hdg kk
theorem st_14_0 (hx : p.tables.exec = Jvm.exec) (hb : c.code = cc) (hK : va_K G.1 vwCl (gTy G) s) (hw : kS G ks S Z A H0 H locs) (hk : (14, 0) ∈ ks) {i : Int32} {x : Int64} (hin : vp_in i 1) (hdg : decode cc pc = .ok (.lastore, 1)) (kk : ∀ (H1 : Heap) (locs1 : List Loc), kS G ks (uL S 14 0 i.toNatClampNeg x) Z A H0 H1 locs1 → W p l e R s m args below meth c H1 locs1 cells slots Q (F0 m (pc + 1) ls rest)) : W p l e R s m args below meth c H locs cells slots Q (F0 m pc ls (.long x :: .int i :: .ref (G.2.2 (14, 0)) :: rest)) := kr_lst hx hb hK hw hk rfl hin (eU_uL G S 14 0 i.toNatClampNeg x) hdg kk
theorem ald_5 (hx : p.tables.exec = Jvm.exec) (hb : c.code = cc) (hK : va_K G.1 vwCl (gTy G) s) (hw : kS G ks S Z A H0 H locs) (hk : (5, 0) ∈ ks) {i : Int32} (hin : vp_in i 16) (hdg : decode cc pc = .ok (.aaload, 1)) (kk : W p l e R s m args below meth c H locs cells slots Q (F0 m (pc + 1) ls (.ref (G.2.2 (8, i.toNatClampNeg)) :: rest))) : W p l e R s m args below meth c H locs cells slots Q (F0 m pc ls (.int i :: .ref (G.2.2 (5, 0)) :: rest)) := kr_ald (t0 := 3) (f := fun j => G.2.2 (8, j)) hx hb hK hw hk rfl rfl hin hdg kk
theorem ald_6 (hx : p.tables.exec = Jvm.exec) (hb : c.code = cc) (hK : va_K G.1 vwCl (gTy G) s) (hw : kS G ks S Z A H0 H locs) (hk : (6, 0) ∈ ks) {i : Int32} (hin : vp_in i 8) (hdg : decode cc pc = .ok (.aaload, 1)) (kk : W p l e R s m args below meth c H locs cells slots Q (F0 m (pc + 1) ls (.ref (G.2.2 (9, i.toNatClampNeg)) :: rest))) : W p l e R s m args below meth c H locs cells slots Q (F0 m pc ls (.int i :: .ref (G.2.2 (6, 0)) :: rest)) := kr_ald (t0 := 4) (f := fun j => G.2.2 (9, j)) hx hb hK hw hk rfl rfl hin hdg kk
end KR
/-- the predictor's keys, and the model's -/
def kC : List kK := [(0, 0), (1, 0), (1, 1), (1, 2), (2, 0), (2, 1), (2, 2), (3, 0), (3, 1), (4, 0), (4, 1), (5, 0), (6, 0), (7, 0)] ++ ((List.range 16).map (fun i => (8, i)) ++ (List.range 8).map (fun i => (9, i)))
def kM : List kK := [(10, 0), (11, 0), (11, 1), (11, 2), (11, 3), (11, 4), (11, 5), (11, 6), (11, 7), (12, 0), (12, 1), (12, 2), (12, 3), (13, 0), (13, 1)]
theorem kC_1 {t : Nat} (h : t < 3) : (1, t) ∈ kC := by
  have : t = 0 ∨ t = 1 ∨ t = 2 := by omega
  rcases this with rfl | rfl | rfl <;> decide
theorem kC_2 {t : Nat} (h : t < 3) : (2, t) ∈ kC := by
  have : t = 0 ∨ t = 1 ∨ t = 2 := by omega
  rcases this with rfl | rfl | rfl <;> decide
theorem kC_3 {t : Nat} (h : t < 2) : (3, t) ∈ kC := by
  have : t = 0 ∨ t = 1 := by omega
  rcases this with rfl | rfl <;> decide
theorem kC_4 {t : Nat} (h : t < 2) : (4, t) ∈ kC := by
  have : t = 0 ∨ t = 1 := by omega
  rcases this with rfl | rfl <;> decide
theorem kC_8 {i : Nat} (h : i < 16) : (8, i) ∈ kC := List.mem_append_right _ (List.mem_append_left _ (List.mem_map.mpr ⟨i, List.mem_range.mpr h, rfl⟩))
theorem kC_9 {i : Nat} (h : i < 8) : (9, i) ∈ kC := List.mem_append_right _ (List.mem_append_right _ (List.mem_map.mpr ⟨i, List.mem_range.mpr h, rfl⟩))
theorem kC_0 : (0, 0) ∈ kC := by decide
theorem kC_5 : (5, 0) ∈ kC := by decide
theorem kC_6 : (6, 0) ∈ kC := by decide
theorem kC_7 : (7, 0) ∈ kC := by decide
theorem kM_10 : (10, 0) ∈ kM := by decide
theorem kM_11_0 : (11, 0) ∈ kM := by decide
theorem kM_11_1 : (11, 1) ∈ kM := by decide
theorem kM_11_2 : (11, 2) ∈ kM := by decide
theorem kM_11_3 : (11, 3) ∈ kM := by decide
theorem kM_11_4 : (11, 4) ∈ kM := by decide
theorem kM_11_5 : (11, 5) ∈ kM := by decide
theorem kM_11_6 : (11, 6) ∈ kM := by decide
theorem kM_11_7 : (11, 7) ∈ kM := by decide
theorem kM_12_0 : (12, 0) ∈ kM := by decide
theorem kM_12_1 : (12, 1) ∈ kM := by decide
theorem kM_12_2 : (12, 2) ∈ kM := by decide
theorem kM_12_3 : (12, 3) ∈ kM := by decide
theorem kM_13_0 : (13, 0) ∈ kM := by decide
theorem kM_13_1 : (13, 1) ∈ kM := by decide
end
section
theorem tsw_ne {x : Int32} {k : Int32} (h : ¬ x = k) : x.toInt ≠ k.toInt := fun q => h (Int32.toInt_inj.mp q)
theorem tsw_3 {x : Int32} (h0 : ¬ x = 0) (h1 : ¬ x = 1) (h2 : ¬ x = 2) : x.toInt < 0 ∨ 2 < x.toInt := by
  have a0 : x.toInt ≠ 0 := tsw_ne h0
  have a1 : x.toInt ≠ 1 := tsw_ne h1
  have a2 : x.toInt ≠ 2 := tsw_ne h2
  omega
theorem tsw_4 {x : Int32} (h0 : ¬ x = 0) (h1 : ¬ x = 1) (h2 : ¬ x = 2) (h3 : ¬ x = 3) : x.toInt < 0 ∨ 3 < x.toInt := by
  have a0 : x.toInt ≠ 0 := tsw_ne h0
  have a1 : x.toInt ≠ 1 := tsw_ne h1
  have a2 : x.toInt ≠ 2 := tsw_ne h2
  have a3 : x.toInt ≠ 3 := tsw_ne h3
  omega
abbrev rmX2_indexFor : Room := { frames := 0, cells := 0, slots := 0, locals := 0 }
set_option maxHeartbeats 4000000 in
set_option maxRecDepth 100000 in
theorem cX2c_indexFor (l : Launch) (G : gG) (Z : va_W) (S : uS) (k1 : Nat) (h_k1 : k1 < 3) (x1 : Int32) : kMet l yX2_indexFor wsX2_indexFor rmX2_indexFor G kC Z S [.ref (G.2.2 (1, k1)), .int (x1)] (some (.int (x1 &&& ((S.1 1 k1 1) - (1 : Int32))))) S := by
  refine kMet_of (cc := cX2_indexFor) (maxL := 2) (ret := (some .int)) (by decide) rfl (Nat.le_of_ble_eq_true rfl) ?_
  intro p e s m below meth c hx hb hr hml hlocks hts hown hK hN A hZ hA H locs hw ls hl
  have hl : lv_has ls 2 [(0, .ref (G.2.2 (1, k1))), (1, .int (x1))] := hl
  have hiX2 : ∀ w ∈ wsX20, w ∈ wsX2_indexFor := by decide +kernel
  refine lv_iload_n hx hb dX2_indexFor_0 rfl (lv_at hl 1 rfl) ?_
  refine lv_aload_n hx hb dX2_indexFor_1 rfl (lv_at hl 0 rfl) ?_
  refine g_1_1 hx hb hts hiX2 hown hK hw (kC_1 h_k1) (hts (.fieldLink RX2 15 "BranchPredictor$CounterTable" "size" "I") (by decide +kernel)) dX2_indexFor_2 ?_
  refine lv_iconst (v := 1) hx hb dX2_indexFor_5 (by decide) ?_
  refine lv_isub hx hb dX2_indexFor_6 ?_
  refine lv_iand hx hb dX2_indexFor_7 ?_
  exact k_iret hx hb hr hlocks hK hw rfl rfl dX2_indexFor_8
abbrev rmX2_valueAt : Room := { frames := 0, cells := 0, slots := 0, locals := 0 }
set_option maxHeartbeats 4000000 in
set_option maxRecDepth 100000 in
theorem cX2c_valueAt (l : Launch) (G : gG) (Z : va_W) (S : uS) (k1 : Nat) (h_k1 : k1 < 3) (x1 : Int32) : kMet l yX2_valueAt wsX2_valueAt rmX2_valueAt G kC Z S [.ref (G.2.2 (1, k1)), .int (x1)] (some (.int (S.1 2 k1 ((x1 &&& (255 : Int32)).toNatClampNeg)))) S := by
  refine kMet_of (cc := cX2_valueAt) (maxL := 2) (ret := (some .int)) (by decide) rfl (Nat.le_of_ble_eq_true rfl) ?_
  intro p e s m below meth c hx hb hr hml hlocks hts hown hK hN A hZ hA H locs hw ls hl
  have hl : lv_has ls 2 [(0, .ref (G.2.2 (1, k1))), (1, .int (x1))] := hl
  have hiX2 : ∀ w ∈ wsX20, w ∈ wsX2_valueAt := by decide +kernel
  refine lv_aload_n hx hb dX2_valueAt_0 rfl (lv_at hl 0 rfl) ?_
  refine g_1_0 hx hb hts hiX2 hown hK hw (kC_1 h_k1) (hts (.fieldLink RX2 9 "BranchPredictor$CounterTable" "values" "[I") (by decide +kernel)) dX2_valueAt_1 ?_
  refine lv_iload_n hx hb dX2_valueAt_4 rfl (lv_at hl 1 rfl) ?_
  refine lv_sipush (v := 255) hx hb dX2_valueAt_5 (by decide) ?_
  refine lv_iand hx hb dX2_valueAt_8 ?_
  refine ld_2 hx hb hK hw (kC_2 h_k1) (pk_andIn _ 8 (by decide) (by decide)) dX2_valueAt_9 ?_
  exact k_iret hx hb hr hlocks hK hw rfl rfl dX2_valueAt_10
def fX2_saysTaken (S : uS) (k1 : Nat) (x1 : Int32) : Bool :=
  if (S.1 2 k1 ((x1 &&& (255 : Int32)).toNatClampNeg)) < (2 : Int32) then false else true
abbrev rmX2_saysTaken : Room := { frames := 1, cells := 0, slots := 0, locals := 21 }
set_option maxHeartbeats 4000000 in
set_option maxRecDepth 100000 in
theorem cX2c_saysTaken (l : Launch) (G : gG) (Z : va_W) (S : uS) (k1 : Nat) (h_k1 : k1 < 3) (x1 : Int32) : kMet l yX2_saysTaken wsX2_saysTaken rmX2_saysTaken G kC Z S [.ref (G.2.2 (1, k1)), .int (x1)] (some (.int (bI ((fX2_saysTaken S k1 x1))))) S := by
  refine kMet_of (cc := cX2_saysTaken) (maxL := 2) (ret := (some .boolean)) (by decide) rfl (Nat.le_of_ble_eq_true rfl) ?_
  intro p e s m below meth c hx hb hr hml hlocks hts hown hK hN A hZ hA H locs hw ls hl
  have hl : lv_has ls 2 [(0, .ref (G.2.2 (1, k1))), (1, .int (x1))] := hl
  refine lv_aload_n hx hb dX2_saysTaken_0 rfl (lv_at hl 0 rfl) ?_
  refine lv_iload_n hx hb dX2_saysTaken_1 rfl (lv_at hl 1 rfl) ?_
  refine k_callV (C := RX2) (n := 1) (rest := []) ⟨hx, hb, hml, hown, hts⟩ (cX2c_valueAt l G Z S k1 h_k1 x1) (cwV 1 hts gX2_saysTaken_X2_valueAt rfl rfl rfl (by decide +kernel) ⟨Nat.le_of_ble_eq_true rfl, Nat.le_of_ble_eq_true rfl⟩) (k_recv hK hw (kC_1 h_k1) rfl rfl) hK hN hZ hA hw (Nat.zero_le _) (Nat.zero_le _) rfl hl.1 rfl (Nat.le_of_ble_eq_true rfl) dX2_saysTaken_2 (fun H locs hw => ?_)
  refine W.eq (g2 := F0 m 5 ls [.int (S.1 2 k1 ((x1 &&& (255 : Int32)).toNatClampNeg))]) rfl ?_
  refine lv_iconst (v := 2) hx hb dX2_saysTaken_5 (by decide) ?_
  refine k_join (P := fun x9 : Bool => W p l e rmX2_saysTaken s m [.ref (G.2.2 (1, k1)), .int (x1)].toArray below meth c H locs 0 0 (MQ below (kQ G kC Z A (some (.int (bI ((fX2_saysTaken S k1 x1))))) S) [.ref (G.2.2 (1, k1)), .int (x1)].toArray s 0 0 A) (F0 m 14 ls [.int (bI (x9))])) (C := (S.1 2 k1 ((x1 &&& (255 : Int32)).toNatClampNeg)) < (2 : Int32)) (a := false) (b := true) ?_ (fun ka kb => ?_)
  rotate_left
  · refine lv_icmp_lt (tgt := 13) hx hb dX2_saysTaken_6 (by decide) (fun c_1 => ?_) (fun c_1 => ?_)
    · skip
      refine lv_iconst (v := 0) hx hb dX2_saysTaken_13 (by decide) ?_
      exact ka c_1
    · skip
      refine lv_iconst (v := 1) hx hb dX2_saysTaken_9 (by decide) ?_
      refine lv_goto (tgt := 14) hx hb dX2_saysTaken_10 (by decide) ?_
      exact kb c_1
  show W p l e rmX2_saysTaken s m [.ref (G.2.2 (1, k1)), .int (x1)].toArray below meth c H locs 0 0 (MQ below (kQ G kC Z A (some (.int (bI ((fX2_saysTaken S k1 x1))))) S) [.ref (G.2.2 (1, k1)), .int (x1)].toArray s 0 0 A) (F0 m 14 ls [.int (bI (if (S.1 2 k1 ((x1 &&& (255 : Int32)).toNatClampNeg)) < (2 : Int32) then false else true))])
  exact k_zret (r := if (S.1 2 k1 ((x1 &&& (255 : Int32)).toNatClampNeg)) < (2 : Int32) then false else true) hx hb hr hlocks hK hw (congrArg (fun z : Bool => some (Value.int (bI (z)))) (show (fX2_saysTaken S k1 x1) = if (S.1 2 k1 ((x1 &&& (255 : Int32)).toNatClampNeg)) < (2 : Int32) then false else true from by unfold fX2_saysTaken; rfl)) rfl dX2_saysTaken_14
def fX2_move (S : uS) (k1 : Nat) (x1 : Int32) (b1 : Bool) : uS :=
  if b1 = false then (uI S 2 k1 ((x1 &&& (255 : Int32)).toNatClampNeg) (if ((S.1 2 k1 ((x1 &&& (255 : Int32)).toNatClampNeg)) - (1 : Int32)) < (0 : Int32) then (0 : Int32) else ((S.1 2 k1 ((x1 &&& (255 : Int32)).toNatClampNeg)) - (1 : Int32))))
  else (uI S 2 k1 ((x1 &&& (255 : Int32)).toNatClampNeg) (if (3 : Int32) < ((S.1 2 k1 ((x1 &&& (255 : Int32)).toNatClampNeg)) + (1 : Int32)) then (3 : Int32) else ((S.1 2 k1 ((x1 &&& (255 : Int32)).toNatClampNeg)) + (1 : Int32))))
abbrev rmX2_move : Room := { frames := 1, cells := 0, slots := 0, locals := 21 }
set_option maxHeartbeats 4000000 in
set_option maxRecDepth 100000 in
theorem cX2c_move (l : Launch) (G : gG) (Z : va_W) (S : uS) (k1 : Nat) (h_k1 : k1 < 3) (x1 : Int32) (b1 : Bool) : kMet l yX2_move wsX2_move rmX2_move G kC Z S [.ref (G.2.2 (1, k1)), .int (x1), .int (bI (b1))] none (fX2_move S k1 x1 b1) := by
  refine kMet_of (cc := cX2_move) (maxL := 5) (ret := none) (by decide) rfl (Nat.le_of_ble_eq_true rfl) ?_
  intro p e s m below meth c hx hb hr hml hlocks hts hown hK hN A hZ hA H locs hw ls hl
  have hl : lv_has ls 5 [(0, .ref (G.2.2 (1, k1))), (1, .int (x1)), (2, .int (bI (b1)))] := hl
  have hiX2 : ∀ w ∈ wsX20, w ∈ wsX2_move := by decide +kernel
  refine lv_aload_n hx hb dX2_move_0 rfl (lv_at hl 0 rfl) ?_
  refine lv_iload_n hx hb dX2_move_1 rfl (lv_at hl 1 rfl) ?_
  refine k_callV (C := RX2) (n := 1) (rest := []) ⟨hx, hb, hml, hown, hts⟩ (cX2c_valueAt l G Z S k1 h_k1 x1) (cwV 1 hts gX2_move_X2_valueAt rfl rfl rfl (by decide +kernel) ⟨Nat.le_of_ble_eq_true rfl, Nat.le_of_ble_eq_true rfl⟩) (k_recv hK hw (kC_1 h_k1) rfl rfl) hK hN hZ hA hw (Nat.zero_le _) (Nat.zero_le _) rfl hl.1 rfl (Nat.le_of_ble_eq_true rfl) dX2_move_2 (fun H locs hw => ?_)
  refine W.eq (g2 := F0 m 5 ls [.int (S.1 2 k1 ((x1 &&& (255 : Int32)).toNatClampNeg))]) rfl ?_
  refine lv_istore_n (lv' := [(3, .int (S.1 2 k1 ((x1 &&& (255 : Int32)).toNatClampNeg))), (0, .ref (G.2.2 (1, k1))), (1, .int (x1)), (2, .int (bI (b1)))]) hx hb dX2_move_5 rfl hl (by decide) rfl (fun ls hl => ?_)
  refine lv_iload_n hx hb dX2_move_6 rfl (lv_at hl 3 rfl) ?_
  refine k_if_eq (b := b1) (tgt := 20) hx hb dX2_move_7 (by decide) (fun c_1 => ?_) (fun c_1 => ?_)
  · skip
    refine lv_iload_n hx hb dX2_move_20 rfl (lv_at hl 0 rfl) ?_
    refine lv_iconst (v := 1) hx hb dX2_move_21 (by decide) ?_
    refine lv_isub hx hb dX2_move_22 ?_
    refine lv_iconst (v := 0) hx hb dX2_move_23 (by decide) ?_
    refine va_mmax hx hb (hml.trans hl.1.symm) hown (hts (.methodLink RX2 29 Lib.Math.max.name) (by decide +kernel)) (hts (.static Lib.Math.max.name) (by decide +kernel)) (hts (.initialized "java/lang/Math") (by decide +kernel)) (hts (.code Lib.Math.max.name Lib.Math.max.code 2 (some .int)) (by decide +kernel)) (Nat.le_of_ble_eq_true rfl) (Nat.le_of_ble_eq_true rfl) (Nat.zero_le _) (Nat.zero_le _) dX2_move_24 ?_
    refine lv_istore (lv' := [(4, .int (if ((S.1 2 k1 ((x1 &&& (255 : Int32)).toNatClampNeg)) - (1 : Int32)) < (0 : Int32) then (0 : Int32) else ((S.1 2 k1 ((x1 &&& (255 : Int32)).toNatClampNeg)) - (1 : Int32)))), (3, .int (S.1 2 k1 ((x1 &&& (255 : Int32)).toNatClampNeg))), (0, .ref (G.2.2 (1, k1))), (1, .int (x1)), (2, .int (bI (b1)))]) hx hb dX2_move_27 hl (by decide) rfl (fun ls hl => ?_)
    refine lv_aload_n hx hb dX2_move_29 rfl (lv_at hl 2 rfl) ?_
    refine g_1_0 hx hb hts hiX2 hown hK hw (kC_1 h_k1) (hts (.fieldLink RX2 9 "BranchPredictor$CounterTable" "values" "[I") (by decide +kernel)) dX2_move_30 ?_
    refine lv_iload_n hx hb dX2_move_33 rfl (lv_at hl 3 rfl) ?_
    refine lv_sipush (v := 255) hx hb dX2_move_34 (by decide) ?_
    refine lv_iand hx hb dX2_move_37 ?_
    refine lv_iload hx hb dX2_move_38 (lv_at hl 0 rfl) ?_
    refine st_2 (x := if ((S.1 2 k1 ((x1 &&& (255 : Int32)).toNatClampNeg)) - (1 : Int32)) < (0 : Int32) then (0 : Int32) else ((S.1 2 k1 ((x1 &&& (255 : Int32)).toNatClampNeg)) - (1 : Int32))) hx hb hK hw (kC_2 h_k1) (pk_andIn _ 8 (by decide) (by decide)) dX2_move_40 (fun H locs hw => ?_)
    exact k_vret hx hb hr hlocks hK hw rfl (by unfold fX2_move; rw [if_pos c_1]) dX2_move_41
  · skip
    refine lv_iload_n hx hb dX2_move_10 rfl (lv_at hl 0 rfl) ?_
    refine lv_iconst (v := 1) hx hb dX2_move_11 (by decide) ?_
    refine lv_iadd hx hb dX2_move_12 ?_
    refine lv_iconst (v := 3) hx hb dX2_move_13 (by decide) ?_
    refine va_mmin hx hb (hml.trans hl.1.symm) hown (hts (.methodLink RX2 23 Lib.Math.min.name) (by decide +kernel)) (hts (.static Lib.Math.min.name) (by decide +kernel)) (hts (.initialized "java/lang/Math") (by decide +kernel)) (hts (.code Lib.Math.min.name Lib.Math.min.code 2 (some .int)) (by decide +kernel)) (Nat.le_of_ble_eq_true rfl) (Nat.le_of_ble_eq_true rfl) (Nat.zero_le _) (Nat.zero_le _) dX2_move_14 ?_
    refine lv_goto (tgt := 27) hx hb dX2_move_17 (by decide) ?_
    refine lv_istore (lv' := [(4, .int (if (3 : Int32) < ((S.1 2 k1 ((x1 &&& (255 : Int32)).toNatClampNeg)) + (1 : Int32)) then (3 : Int32) else ((S.1 2 k1 ((x1 &&& (255 : Int32)).toNatClampNeg)) + (1 : Int32)))), (3, .int (S.1 2 k1 ((x1 &&& (255 : Int32)).toNatClampNeg))), (0, .ref (G.2.2 (1, k1))), (1, .int (x1)), (2, .int (bI (b1)))]) hx hb dX2_move_27 hl (by decide) rfl (fun ls hl => ?_)
    refine lv_aload_n hx hb dX2_move_29 rfl (lv_at hl 2 rfl) ?_
    refine g_1_0 hx hb hts hiX2 hown hK hw (kC_1 h_k1) (hts (.fieldLink RX2 9 "BranchPredictor$CounterTable" "values" "[I") (by decide +kernel)) dX2_move_30 ?_
    refine lv_iload_n hx hb dX2_move_33 rfl (lv_at hl 3 rfl) ?_
    refine lv_sipush (v := 255) hx hb dX2_move_34 (by decide) ?_
    refine lv_iand hx hb dX2_move_37 ?_
    refine lv_iload hx hb dX2_move_38 (lv_at hl 0 rfl) ?_
    refine st_2 (x := if (3 : Int32) < ((S.1 2 k1 ((x1 &&& (255 : Int32)).toNatClampNeg)) + (1 : Int32)) then (3 : Int32) else ((S.1 2 k1 ((x1 &&& (255 : Int32)).toNatClampNeg)) + (1 : Int32))) hx hb hK hw (kC_2 h_k1) (pk_andIn _ 8 (by decide) (by decide)) dX2_move_40 (fun H locs hw => ?_)
    exact k_vret hx hb hr hlocks hK hw rfl (by unfold fX2_move; rw [if_neg c_1]) dX2_move_41
def fX0_note (S : uS) (k2 : Nat) (x1 : Int32) (x2 : Int32) (b1 : Bool) : uS :=
  if (S.1 4 k2 ((x1 &&& (255 : Int32)).toNatClampNeg)) = (-1 : Int32) then (uI S 4 k2 ((x1 &&& (255 : Int32)).toNatClampNeg) x2)
  else if (S.1 4 k2 ((x1 &&& (255 : Int32)).toNatClampNeg)) = x2 then (uI S 4 k2 ((x1 &&& (255 : Int32)).toNatClampNeg) x2)
    else if b1 = false then (uI (uL S 3 k2 1 ((S.2.1 3 k2 1) + (1 : Int64))) 4 k2 ((x1 &&& (255 : Int32)).toNatClampNeg) x2)
      else (uI (uL (uL S 3 k2 1 ((S.2.1 3 k2 1) + (1 : Int64))) 3 k2 2 ((S.2.1 3 k2 2) + (1 : Int64))) 4 k2 ((x1 &&& (255 : Int32)).toNatClampNeg) x2)
abbrev rmX0_note : Room := { frames := 0, cells := 0, slots := 0, locals := 0 }
set_option maxHeartbeats 4000000 in
set_option maxRecDepth 100000 in
theorem cX0c_note (l : Launch) (G : gG) (Z : va_W) (S : uS) (k2 : Nat) (h_k2 : k2 < 2) (x1 : Int32) (x2 : Int32) (b1 : Bool) : kMet l yX0_note wsX0_note rmX0_note G kC Z S [.ref (G.2.2 (3, k2)), .int (x1), .int (x2), .int (bI (b1))] none (fX0_note S k2 x1 x2 b1) := by
  refine kMet_of (cc := cX0_note) (maxL := 6) (ret := none) (by decide) rfl (Nat.le_of_ble_eq_true rfl) ?_
  intro p e s m below meth c hx hb hr hml hlocks hts hown hK hN A hZ hA H locs hw ls hl
  have hl : lv_has ls 6 [(0, .ref (G.2.2 (3, k2))), (1, .int (x1)), (2, .int (x2)), (3, .int (bI (b1)))] := hl
  have hiX0 : ∀ w ∈ wsX00, w ∈ wsX0_note := by decide +kernel
  refine lv_iload_n hx hb dX0_note_0 rfl (lv_at hl 1 rfl) ?_
  refine lv_sipush (v := 255) hx hb dX0_note_1 (by decide) ?_
  refine lv_iand hx hb dX0_note_4 ?_
  refine lv_istore (lv' := [(4, .int (x1 &&& (255 : Int32))), (0, .ref (G.2.2 (3, k2))), (1, .int (x1)), (2, .int (x2)), (3, .int (bI (b1)))]) hx hb dX0_note_5 hl (by decide) rfl (fun ls hl => ?_)
  refine lv_aload_n hx hb dX0_note_7 rfl (lv_at hl 1 rfl) ?_
  refine g_3_0 hx hb hts hiX0 hown hK hw (kC_3 h_k2) (hts (.fieldLink RX0 9 "BranchPredictor$Audit" "latestPlaces" "[I") (by decide +kernel)) dX0_note_8 ?_
  refine lv_iload hx hb dX0_note_11 (lv_at hl 0 rfl) ?_
  refine ld_4 hx hb hK hw (kC_4 h_k2) (pk_andIn _ 8 (by decide) (by decide)) dX0_note_13 ?_
  refine lv_istore (lv' := [(5, .int (S.1 4 k2 ((x1 &&& (255 : Int32)).toNatClampNeg))), (4, .int (x1 &&& (255 : Int32))), (0, .ref (G.2.2 (3, k2))), (1, .int (x1)), (2, .int (x2)), (3, .int (bI (b1)))]) hx hb dX0_note_14 hl (by decide) rfl (fun ls hl => ?_)
  refine lv_iload hx hb dX0_note_16 (lv_at hl 0 rfl) ?_
  refine lv_iconst (v := -1) hx hb dX0_note_18 (by decide) ?_
  refine lv_icmp_eq (tgt := 52) hx hb dX0_note_19 (by decide) (fun c_1 => ?_) (fun c_1 => ?_)
  · skip
    refine lv_aload_n hx hb dX0_note_52 rfl (lv_at hl 2 rfl) ?_
    refine g_3_0 hx hb hts hiX0 hown hK hw (kC_3 h_k2) (hts (.fieldLink RX0 9 "BranchPredictor$Audit" "latestPlaces" "[I") (by decide +kernel)) dX0_note_53 ?_
    refine lv_iload hx hb dX0_note_56 (lv_at hl 1 rfl) ?_
    refine lv_iload_n hx hb dX0_note_58 rfl (lv_at hl 4 rfl) ?_
    refine st_4 (x := x2) hx hb hK hw (kC_4 h_k2) (pk_andIn _ 8 (by decide) (by decide)) dX0_note_59 (fun H locs hw => ?_)
    exact k_vret hx hb hr hlocks hK hw rfl (by unfold fX0_note; rw [if_pos c_1]) dX0_note_60
  · skip
    refine lv_iload hx hb dX0_note_22 (lv_at hl 0 rfl) ?_
    refine lv_iload_n hx hb dX0_note_24 rfl (lv_at hl 4 rfl) ?_
    refine lv_icmp_eq (tgt := 52) hx hb dX0_note_25 (by decide) (fun c_2 => ?_) (fun c_2 => ?_)
    · skip
      refine lv_aload_n hx hb dX0_note_52 rfl (lv_at hl 2 rfl) ?_
      refine g_3_0 hx hb hts hiX0 hown hK hw (kC_3 h_k2) (hts (.fieldLink RX0 9 "BranchPredictor$Audit" "latestPlaces" "[I") (by decide +kernel)) dX0_note_53 ?_
      refine lv_iload hx hb dX0_note_56 (lv_at hl 1 rfl) ?_
      refine lv_iload_n hx hb dX0_note_58 rfl (lv_at hl 4 rfl) ?_
      refine st_4 (x := x2) hx hb hK hw (kC_4 h_k2) (pk_andIn _ 8 (by decide) (by decide)) dX0_note_59 (fun H locs hw => ?_)
      exact k_vret hx hb hr hlocks hK hw rfl (by unfold fX0_note; rw [if_neg c_1, if_pos c_2]) dX0_note_60
    · skip
      refine lv_aload_n hx hb dX0_note_28 rfl (lv_at hl 2 rfl) ?_
      refine lv_dup hx hb dX0_note_29 rfl ?_
      refine g_3_1 hx hb hts hiX0 hown hK hw (kC_3 h_k2) (hts (.fieldLink RX0 15 "BranchPredictor$Audit" "allMeetings" "J") (by decide +kernel)) dX0_note_30 ?_
      refine lv_lconst (v := 1) hx hb dX0_note_33 (by decide) ?_
      refine lv_ladd hx hb dX0_note_34 ?_
      refine p_3_1 (v := (S.2.1 3 k2 1) + (1 : Int64)) hx hb hts hiX0 hown hK hw (kC_3 h_k2) (hts (.fieldLink RX0 15 "BranchPredictor$Audit" "allMeetings" "J") (by decide +kernel)) dX0_note_35 (fun H locs hw => ?_)
      refine lv_iload_n hx hb dX0_note_38 rfl (lv_at hl 5 rfl) ?_
      refine k_if_eq (b := b1) (tgt := 52) hx hb dX0_note_39 (by decide) (fun c_3 => ?_) (fun c_3 => ?_)
      · skip
        refine lv_aload_n hx hb dX0_note_52 rfl (lv_at hl 2 rfl) ?_
        refine g_3_0 hx hb hts hiX0 hown hK hw (kC_3 h_k2) (hts (.fieldLink RX0 9 "BranchPredictor$Audit" "latestPlaces" "[I") (by decide +kernel)) dX0_note_53 ?_
        refine lv_iload hx hb dX0_note_56 (lv_at hl 1 rfl) ?_
        refine lv_iload_n hx hb dX0_note_58 rfl (lv_at hl 4 rfl) ?_
        refine st_4 (x := x2) hx hb hK hw (kC_4 h_k2) (pk_andIn _ 8 (by decide) (by decide)) dX0_note_59 (fun H locs hw => ?_)
        exact k_vret hx hb hr hlocks hK hw rfl (by unfold fX0_note; rw [if_neg c_1, if_neg c_2, if_pos c_3]) dX0_note_60
      · skip
        refine lv_aload_n hx hb dX0_note_42 rfl (lv_at hl 2 rfl) ?_
        refine lv_dup hx hb dX0_note_43 rfl ?_
        refine g_3_2 hx hb hts hiX0 hown hK hw (kC_3 h_k2) (hts (.fieldLink RX0 19 "BranchPredictor$Audit" "harmfulMeetings" "J") (by decide +kernel)) dX0_note_44 ?_
        refine k_topl (z := S.2.1 3 k2 2) (by simp [uI, uL, uF]) ?_
        refine lv_lconst (v := 1) hx hb dX0_note_47 (by decide) ?_
        refine lv_ladd hx hb dX0_note_48 ?_
        refine p_3_2 (v := (S.2.1 3 k2 2) + (1 : Int64)) hx hb hts hiX0 hown hK hw (kC_3 h_k2) (hts (.fieldLink RX0 19 "BranchPredictor$Audit" "harmfulMeetings" "J") (by decide +kernel)) dX0_note_49 (fun H locs hw => ?_)
        refine lv_aload_n hx hb dX0_note_52 rfl (lv_at hl 2 rfl) ?_
        refine g_3_0 hx hb hts hiX0 hown hK hw (kC_3 h_k2) (hts (.fieldLink RX0 9 "BranchPredictor$Audit" "latestPlaces" "[I") (by decide +kernel)) dX0_note_53 ?_
        refine lv_iload hx hb dX0_note_56 (lv_at hl 1 rfl) ?_
        refine lv_iload_n hx hb dX0_note_58 rfl (lv_at hl 4 rfl) ?_
        refine st_4 (x := x2) hx hb hK hw (kC_4 h_k2) (pk_andIn _ 8 (by decide) (by decide)) dX0_note_59 (fun H locs hw => ?_)
        exact k_vret hx hb hr hlocks hK hw rfl (by unfold fX0_note; rw [if_neg c_1, if_neg c_2, if_neg c_3]) dX0_note_60
def fX1_saidTaken (S : uS) (k3 : Nat) (x1 : Int32) : Bool :=
  if x1 = (0 : Int32) then S.2.2 8 k3 5
  else if x1 = (1 : Int32) then S.2.2 8 k3 6
    else if x1 = (2 : Int32) then S.2.2 8 k3 7
      else S.2.2 8 k3 8
abbrev rmX1_saidTaken : Room := { frames := 0, cells := 0, slots := 0, locals := 0 }
set_option maxHeartbeats 4000000 in
set_option maxRecDepth 100000 in
theorem cX1c_saidTaken (l : Launch) (G : gG) (Z : va_W) (S : uS) (k3 : Nat) (h_k3 : k3 < 16) (x1 : Int32) : kMet l yX1_saidTaken wsX1_saidTaken rmX1_saidTaken G kC Z S [.ref (G.2.2 (8, k3)), .int (x1)] (some (.int (bI ((fX1_saidTaken S k3 x1))))) S := by
  refine kMet_of (cc := cX1_saidTaken) (maxL := 2) (ret := (some .boolean)) (by decide) rfl (Nat.le_of_ble_eq_true rfl) ?_
  intro p e s m below meth c hx hb hr hml hlocks hts hown hK hN A hZ hA H locs hw ls hl
  have hl : lv_has ls 2 [(0, .ref (G.2.2 (8, k3))), (1, .int (x1))] := hl
  have hiX1 : ∀ w ∈ wsX10, w ∈ wsX1_saidTaken := by decide +kernel
  refine lv_iload_n hx hb dX1_saidTaken_0 rfl (lv_at hl 1 rfl) ?_
  by_cases c_1 : x1 = (0 : Int32)
  · refine lv_tableIn (off := 27) (tgt := 28) hx hb dX1_saidTaken_1 (by rw [c_1]; decide) (by rw [c_1]; decide) (by rw [c_1]; rfl) (by decide) ?_
    refine lv_aload_n hx hb dX1_saidTaken_28 rfl (lv_at hl 0 rfl) ?_
    refine g_8_5 hx hb hts hiX1 hown hK hw (kC_8 h_k3) (hts (.fieldLink RX1 9 "BranchPredictor$Branch" "isPlainTaken" "Z") (by decide +kernel)) dX1_saidTaken_29 ?_
    exact k_zret (r := S.2.2 8 k3 5) hx hb hr hlocks hK hw (congrArg (fun z : Bool => some (Value.int (bI (z)))) (show (fX1_saidTaken S k3 x1) = S.2.2 8 k3 5 from by unfold fX1_saidTaken; rw [if_pos c_1])) rfl dX1_saidTaken_32
  · skip
    by_cases c_2 : x1 = (1 : Int32)
    · refine lv_tableIn (off := 32) (tgt := 33) hx hb dX1_saidTaken_1 (by rw [c_2]; decide) (by rw [c_2]; decide) (by rw [c_2]; rfl) (by decide) ?_
      refine lv_aload_n hx hb dX1_saidTaken_33 rfl (lv_at hl 0 rfl) ?_
      refine g_8_6 hx hb hts hiX1 hown hK hw (kC_8 h_k3) (hts (.fieldLink RX1 15 "BranchPredictor$Branch" "isGlobalTaken" "Z") (by decide +kernel)) dX1_saidTaken_34 ?_
      exact k_zret (r := S.2.2 8 k3 6) hx hb hr hlocks hK hw (congrArg (fun z : Bool => some (Value.int (bI (z)))) (show (fX1_saidTaken S k3 x1) = S.2.2 8 k3 6 from by unfold fX1_saidTaken; rw [if_neg c_1, if_pos c_2])) rfl dX1_saidTaken_37
    · skip
      by_cases c_3 : x1 = (2 : Int32)
      · refine lv_tableIn (off := 37) (tgt := 38) hx hb dX1_saidTaken_1 (by rw [c_3]; decide) (by rw [c_3]; decide) (by rw [c_3]; rfl) (by decide) ?_
        refine lv_aload_n hx hb dX1_saidTaken_38 rfl (lv_at hl 0 rfl) ?_
        refine g_8_7 hx hb hts hiX1 hown hK hw (kC_8 h_k3) (hts (.fieldLink RX1 18 "BranchPredictor$Branch" "isChoiceTaken" "Z") (by decide +kernel)) dX1_saidTaken_39 ?_
        exact k_zret (r := S.2.2 8 k3 7) hx hb hr hlocks hK hw (congrArg (fun z : Bool => some (Value.int (bI (z)))) (show (fX1_saidTaken S k3 x1) = S.2.2 8 k3 7 from by unfold fX1_saidTaken; rw [if_neg c_1, if_neg c_2, if_pos c_3])) rfl dX1_saidTaken_42
      · skip
        refine lv_tableOut (tgt := 43) hx hb dX1_saidTaken_1 (tsw_3 c_1 c_2 c_3) (by decide) ?_
        refine lv_aload_n hx hb dX1_saidTaken_43 rfl (lv_at hl 0 rfl) ?_
        refine g_8_8 hx hb hts hiX1 hown hK hw (kC_8 h_k3) (hts (.fieldLink RX1 21 "BranchPredictor$Branch" "isPredictedTaken" "Z") (by decide +kernel)) dX1_saidTaken_44 ?_
        exact k_zret (r := S.2.2 8 k3 8) hx hb hr hlocks hK hw (congrArg (fun z : Bool => some (Value.int (bI (z)))) (show (fX1_saidTaken S k3 x1) = S.2.2 8 k3 8 from by unfold fX1_saidTaken; rw [if_neg c_1, if_neg c_2, if_neg c_3])) rfl dX1_saidTaken_47
def fX1_isPresumedTaken (S : uS) (k3 : Nat) : Bool :=
  if (if (S.1 8 k3 1) = (2 : Int32) then true else false) = (S.2.2 8 k3 8) then false else true
abbrev rmX1_isPresumedTaken : Room := { frames := 0, cells := 0, slots := 0, locals := 0 }
set_option maxHeartbeats 4000000 in
set_option maxRecDepth 100000 in
theorem cX1c_isPresumedTaken (l : Launch) (G : gG) (Z : va_W) (S : uS) (k3 : Nat) (h_k3 : k3 < 16) : kMet l yX1_isPresumedTaken wsX1_isPresumedTaken rmX1_isPresumedTaken G kC Z S [.ref (G.2.2 (8, k3))] (some (.int (bI ((fX1_isPresumedTaken S k3))))) S := by
  refine kMet_of (cc := cX1_isPresumedTaken) (maxL := 1) (ret := (some .boolean)) (by decide) rfl (Nat.le_of_ble_eq_true rfl) ?_
  intro p e s m below meth c hx hb hr hml hlocks hts hown hK hN A hZ hA H locs hw ls hl
  have hl : lv_has ls 1 [(0, .ref (G.2.2 (8, k3)))] := hl
  have hiX1 : ∀ w ∈ wsX10, w ∈ wsX1_isPresumedTaken := by decide +kernel
  refine lv_aload_n hx hb dX1_isPresumedTaken_0 rfl (lv_at hl 0 rfl) ?_
  refine g_8_1 hx hb hts hiX1 hown hK hw (kC_8 h_k3) (hts (.fieldLink RX1 24 "BranchPredictor$Branch" "state" "I") (by decide +kernel)) dX1_isPresumedTaken_1 ?_
  refine lv_iconst (v := 2) hx hb dX1_isPresumedTaken_4 (by decide) ?_
  refine k_join (P := fun x9 : Bool => W p l e rmX1_isPresumedTaken s m [.ref (G.2.2 (8, k3))].toArray below meth c H locs 0 0 (MQ below (kQ G kC Z A (some (.int (bI ((fX1_isPresumedTaken S k3))))) S) [.ref (G.2.2 (8, k3))].toArray s 0 0 A) (F0 m 13 ls [.int (bI (x9))])) (C := (S.1 8 k3 1) = (2 : Int32)) (a := true) (b := false) ?_ (fun ka kb => ?_)
  rotate_left
  · refine lv_icmp_ne (tgt := 12) hx hb dX1_isPresumedTaken_5 (by decide) (fun c_1 => ?_) (fun c_1 => ?_)
    · skip
      refine lv_iconst (v := 0) hx hb dX1_isPresumedTaken_12 (by decide) ?_
      exact kb c_1
    · skip
      refine lv_iconst (v := 1) hx hb dX1_isPresumedTaken_8 (by decide) ?_
      refine lv_goto (tgt := 13) hx hb dX1_isPresumedTaken_9 (by decide) ?_
      exact ka c_1
  show W p l e rmX1_isPresumedTaken s m [.ref (G.2.2 (8, k3))].toArray below meth c H locs 0 0 (MQ below (kQ G kC Z A (some (.int (bI ((fX1_isPresumedTaken S k3))))) S) [.ref (G.2.2 (8, k3))].toArray s 0 0 A) (F0 m 13 ls [.int (bI (if (S.1 8 k3 1) = (2 : Int32) then true else false))])
  refine lv_aload_n hx hb dX1_isPresumedTaken_13 rfl (lv_at hl 0 rfl) ?_
  refine g_8_8 hx hb hts hiX1 hown hK hw (kC_8 h_k3) (hts (.fieldLink RX1 21 "BranchPredictor$Branch" "isPredictedTaken" "Z") (by decide +kernel)) dX1_isPresumedTaken_14 ?_
  refine k_join (P := fun x9 : Bool => W p l e rmX1_isPresumedTaken s m [.ref (G.2.2 (8, k3))].toArray below meth c H locs 0 0 (MQ below (kQ G kC Z A (some (.int (bI ((fX1_isPresumedTaken S k3))))) S) [.ref (G.2.2 (8, k3))].toArray s 0 0 A) (F0 m 25 ls [.int (bI (x9))])) (C := (if (S.1 8 k3 1) = (2 : Int32) then true else false) = (S.2.2 8 k3 8)) (a := false) (b := true) ?_ (fun ka kb => ?_)
  rotate_left
  · refine k_icmp_eq (a := if (S.1 8 k3 1) = (2 : Int32) then true else false) (b := S.2.2 8 k3 8) (tgt := 24) hx hb dX1_isPresumedTaken_17 (by decide) (fun c_2 => ?_) (fun c_2 => ?_)
    · skip
      refine lv_iconst (v := 0) hx hb dX1_isPresumedTaken_24 (by decide) ?_
      exact ka c_2
    · skip
      refine lv_iconst (v := 1) hx hb dX1_isPresumedTaken_20 (by decide) ?_
      refine lv_goto (tgt := 25) hx hb dX1_isPresumedTaken_21 (by decide) ?_
      exact kb c_2
  show W p l e rmX1_isPresumedTaken s m [.ref (G.2.2 (8, k3))].toArray below meth c H locs 0 0 (MQ below (kQ G kC Z A (some (.int (bI ((fX1_isPresumedTaken S k3))))) S) [.ref (G.2.2 (8, k3))].toArray s 0 0 A) (F0 m 25 ls [.int (bI (if (if (S.1 8 k3 1) = (2 : Int32) then true else false) = (S.2.2 8 k3 8) then false else true))])
  exact k_zret (r := if (if (S.1 8 k3 1) = (2 : Int32) then true else false) = (S.2.2 8 k3 8) then false else true) hx hb hr hlocks hK hw (congrArg (fun z : Bool => some (Value.int (bI (z)))) (show (fX1_isPresumedTaken S k3) = if (if (S.1 8 k3 1) = (2 : Int32) then true else false) = (S.2.2 8 k3 8) then false else true from by unfold fX1_isPresumedTaken; rfl)) rfl dX1_isPresumedTaken_25
def fX3_isFree (S : uS) (k4 : Nat) : Bool :=
  if (S.1 9 k4 0) = (-1 : Int32) then true else false
abbrev rmX3_isFree : Room := { frames := 0, cells := 0, slots := 0, locals := 0 }
set_option maxHeartbeats 4000000 in
set_option maxRecDepth 100000 in
theorem cX3c_isFree (l : Launch) (G : gG) (Z : va_W) (S : uS) (k4 : Nat) (h_k4 : k4 < 8) : kMet l yX3_isFree wsX3_isFree rmX3_isFree G kC Z S [.ref (G.2.2 (9, k4))] (some (.int (bI ((fX3_isFree S k4))))) S := by
  refine kMet_of (cc := cX3_isFree) (maxL := 1) (ret := (some .boolean)) (by decide) rfl (Nat.le_of_ble_eq_true rfl) ?_
  intro p e s m below meth c hx hb hr hml hlocks hts hown hK hN A hZ hA H locs hw ls hl
  have hl : lv_has ls 1 [(0, .ref (G.2.2 (9, k4)))] := hl
  have hiX3 : ∀ w ∈ wsX30, w ∈ wsX3_isFree := by decide +kernel
  refine lv_aload_n hx hb dX3_isFree_0 rfl (lv_at hl 0 rfl) ?_
  refine g_9_0 hx hb hts hiX3 hown hK hw (kC_9 h_k4) (hts (.fieldLink RX3 9 "BranchPredictor$Loop" "place" "I") (by decide +kernel)) dX3_isFree_1 ?_
  refine lv_iconst (v := -1) hx hb dX3_isFree_4 (by decide) ?_
  refine k_join (P := fun x9 : Bool => W p l e rmX3_isFree s m [.ref (G.2.2 (9, k4))].toArray below meth c H locs 0 0 (MQ below (kQ G kC Z A (some (.int (bI ((fX3_isFree S k4))))) S) [.ref (G.2.2 (9, k4))].toArray s 0 0 A) (F0 m 13 ls [.int (bI (x9))])) (C := (S.1 9 k4 0) = (-1 : Int32)) (a := true) (b := false) ?_ (fun ka kb => ?_)
  rotate_left
  · refine lv_icmp_ne (tgt := 12) hx hb dX3_isFree_5 (by decide) (fun c_1 => ?_) (fun c_1 => ?_)
    · skip
      refine lv_iconst (v := 0) hx hb dX3_isFree_12 (by decide) ?_
      exact kb c_1
    · skip
      refine lv_iconst (v := 1) hx hb dX3_isFree_8 (by decide) ?_
      refine lv_goto (tgt := 13) hx hb dX3_isFree_9 (by decide) ?_
      exact ka c_1
  show W p l e rmX3_isFree s m [.ref (G.2.2 (9, k4))].toArray below meth c H locs 0 0 (MQ below (kQ G kC Z A (some (.int (bI ((fX3_isFree S k4))))) S) [.ref (G.2.2 (9, k4))].toArray s 0 0 A) (F0 m 13 ls [.int (bI (if (S.1 9 k4 0) = (-1 : Int32) then true else false))])
  exact k_zret (r := if (S.1 9 k4 0) = (-1 : Int32) then true else false) hx hb hr hlocks hK hw (congrArg (fun z : Bool => some (Value.int (bI (z)))) (show (fX3_isFree S k4) = if (S.1 9 k4 0) = (-1 : Int32) then true else false from by unfold fX3_isFree; rfl)) rfl dX3_isFree_13
def fX3_startAnew (S : uS) (k4 : Nat) (x1 : Int32) : uS :=
  (uI (uI (uI (uI S 9 k4 0 x1) 9 k4 1 (0 : Int32)) 9 k4 2 (0 : Int32)) 9 k4 3 (0 : Int32))
abbrev rmX3_startAnew : Room := { frames := 0, cells := 0, slots := 0, locals := 0 }
set_option maxHeartbeats 4000000 in
set_option maxRecDepth 100000 in
theorem cX3c_startAnew (l : Launch) (G : gG) (Z : va_W) (S : uS) (k4 : Nat) (h_k4 : k4 < 8) (x1 : Int32) : kMet l yX3_startAnew wsX3_startAnew rmX3_startAnew G kC Z S [.ref (G.2.2 (9, k4)), .int (x1)] none (fX3_startAnew S k4 x1) := by
  refine kMet_of (cc := cX3_startAnew) (maxL := 2) (ret := none) (by decide) rfl (Nat.le_of_ble_eq_true rfl) ?_
  intro p e s m below meth c hx hb hr hml hlocks hts hown hK hN A hZ hA H locs hw ls hl
  have hl : lv_has ls 2 [(0, .ref (G.2.2 (9, k4))), (1, .int (x1))] := hl
  have hiX3 : ∀ w ∈ wsX30, w ∈ wsX3_startAnew := by decide +kernel
  refine lv_aload_n hx hb dX3_startAnew_0 rfl (lv_at hl 0 rfl) ?_
  refine lv_iload_n hx hb dX3_startAnew_1 rfl (lv_at hl 1 rfl) ?_
  refine p_9_0 (v := x1) hx hb hts hiX3 hown hK hw (kC_9 h_k4) (hts (.fieldLink RX3 9 "BranchPredictor$Loop" "place" "I") (by decide +kernel)) dX3_startAnew_2 (fun H locs hw => ?_)
  refine lv_aload_n hx hb dX3_startAnew_5 rfl (lv_at hl 0 rfl) ?_
  refine lv_iconst (v := 0) hx hb dX3_startAnew_6 (by decide) ?_
  refine p_9_1 (v := (0 : Int32)) hx hb hts hiX3 hown hK hw (kC_9 h_k4) (hts (.fieldLink RX3 15 "BranchPredictor$Loop" "count" "I") (by decide +kernel)) dX3_startAnew_7 (fun H locs hw => ?_)
  refine lv_aload_n hx hb dX3_startAnew_10 rfl (lv_at hl 0 rfl) ?_
  refine lv_iconst (v := 0) hx hb dX3_startAnew_11 (by decide) ?_
  refine p_9_2 (v := (0 : Int32)) hx hb hts hiX3 hown hK hw (kC_9 h_k4) (hts (.fieldLink RX3 18 "BranchPredictor$Loop" "trip" "I") (by decide +kernel)) dX3_startAnew_12 (fun H locs hw => ?_)
  refine lv_aload_n hx hb dX3_startAnew_15 rfl (lv_at hl 0 rfl) ?_
  refine lv_iconst (v := 0) hx hb dX3_startAnew_16 (by decide) ?_
  refine p_9_3 (v := (0 : Int32)) hx hb hts hiX3 hown hK hw (kC_9 h_k4) (hts (.fieldLink RX3 21 "BranchPredictor$Loop" "trust" "I") (by decide +kernel)) dX3_startAnew_17 (fun H locs hw => ?_)
  exact k_vret hx hb hr hlocks hK hw rfl (by unfold fX3_startAnew; rfl) dX3_startAnew_20
def fX3_learn (S : uS) (k4 : Nat) (b1 : Bool) : uS :=
  if b1 = false then if (S.1 9 k4 2) = (0 : Int32) then (uI (uI (uI S 9 k4 2 (S.1 9 k4 1)) 9 k4 3 (0 : Int32)) 9 k4 1 (0 : Int32))
    else if (S.1 9 k4 2) = (S.1 9 k4 1) then (uI (uI S 9 k4 3 (if (3 : Int32) < ((S.1 9 k4 3) + (1 : Int32)) then (3 : Int32) else ((S.1 9 k4 3) + (1 : Int32)))) 9 k4 1 (0 : Int32))
      else (uI (uI (uI S 9 k4 2 (S.1 9 k4 1)) 9 k4 3 (0 : Int32)) 9 k4 1 (0 : Int32))
  else if ((S.1 9 k4 1) + (1 : Int32)) ≤ (1000 : Int32) then (uI S 9 k4 1 ((S.1 9 k4 1) + (1 : Int32)))
    else (uI (uI S 9 k4 1 ((S.1 9 k4 1) + (1 : Int32))) 9 k4 0 (-1 : Int32))
abbrev rmX3_learn : Room := { frames := 1, cells := 0, slots := 0, locals := 14 }
set_option maxHeartbeats 4000000 in
set_option maxRecDepth 100000 in
theorem cX3c_learn (l : Launch) (G : gG) (Z : va_W) (S : uS) (k4 : Nat) (h_k4 : k4 < 8) (b1 : Bool) : kMet l yX3_learn wsX3_learn rmX3_learn G kC Z S [.ref (G.2.2 (9, k4)), .int (bI (b1))] none (fX3_learn S k4 b1) := by
  refine kMet_of (cc := cX3_learn) (maxL := 2) (ret := none) (by decide) rfl (Nat.le_of_ble_eq_true rfl) ?_
  intro p e s m below meth c hx hb hr hml hlocks hts hown hK hN A hZ hA H locs hw ls hl
  have hl : lv_has ls 2 [(0, .ref (G.2.2 (9, k4))), (1, .int (bI (b1)))] := hl
  have hiX3 : ∀ w ∈ wsX30, w ∈ wsX3_learn := by decide +kernel
  refine lv_iload_n hx hb dX3_learn_0 rfl (lv_at hl 1 rfl) ?_
  refine k_if_eq (b := b1) (tgt := 30) hx hb dX3_learn_1 (by decide) (fun c_1 => ?_) (fun c_1 => ?_)
  · skip
    refine lv_aload_n hx hb dX3_learn_30 rfl (lv_at hl 0 rfl) ?_
    refine g_9_2 hx hb hts hiX3 hown hK hw (kC_9 h_k4) (hts (.fieldLink RX3 18 "BranchPredictor$Loop" "trip" "I") (by decide +kernel)) dX3_learn_31 ?_
    refine lv_if_eq (x := S.1 9 k4 2) (tgt := 65) hx hb dX3_learn_34 (by decide) (fun c_2 => ?_) (fun c_2 => ?_)
    · skip
      refine lv_aload_n hx hb dX3_learn_65 rfl (lv_at hl 0 rfl) ?_
      refine lv_aload_n hx hb dX3_learn_66 rfl (lv_at hl 0 rfl) ?_
      refine g_9_1 hx hb hts hiX3 hown hK hw (kC_9 h_k4) (hts (.fieldLink RX3 15 "BranchPredictor$Loop" "count" "I") (by decide +kernel)) dX3_learn_67 ?_
      refine p_9_2 (v := S.1 9 k4 1) hx hb hts hiX3 hown hK hw (kC_9 h_k4) (hts (.fieldLink RX3 18 "BranchPredictor$Loop" "trip" "I") (by decide +kernel)) dX3_learn_70 (fun H locs hw => ?_)
      refine lv_aload_n hx hb dX3_learn_73 rfl (lv_at hl 0 rfl) ?_
      refine lv_iconst (v := 0) hx hb dX3_learn_74 (by decide) ?_
      refine p_9_3 (v := (0 : Int32)) hx hb hts hiX3 hown hK hw (kC_9 h_k4) (hts (.fieldLink RX3 21 "BranchPredictor$Loop" "trust" "I") (by decide +kernel)) dX3_learn_75 (fun H locs hw => ?_)
      refine lv_aload_n hx hb dX3_learn_78 rfl (lv_at hl 0 rfl) ?_
      refine lv_iconst (v := 0) hx hb dX3_learn_79 (by decide) ?_
      refine p_9_1 (v := (0 : Int32)) hx hb hts hiX3 hown hK hw (kC_9 h_k4) (hts (.fieldLink RX3 15 "BranchPredictor$Loop" "count" "I") (by decide +kernel)) dX3_learn_80 (fun H locs hw => ?_)
      exact k_vret hx hb hr hlocks hK hw rfl (by unfold fX3_learn; rw [if_pos c_1, if_pos c_2]) dX3_learn_83
    · skip
      refine lv_aload_n hx hb dX3_learn_37 rfl (lv_at hl 0 rfl) ?_
      refine g_9_2 hx hb hts hiX3 hown hK hw (kC_9 h_k4) (hts (.fieldLink RX3 18 "BranchPredictor$Loop" "trip" "I") (by decide +kernel)) dX3_learn_38 ?_
      refine lv_aload_n hx hb dX3_learn_41 rfl (lv_at hl 0 rfl) ?_
      refine g_9_1 hx hb hts hiX3 hown hK hw (kC_9 h_k4) (hts (.fieldLink RX3 15 "BranchPredictor$Loop" "count" "I") (by decide +kernel)) dX3_learn_42 ?_
      refine lv_icmp_ne (tgt := 65) hx hb dX3_learn_45 (by decide) (fun c_3 => ?_) (fun c_3 => ?_)
      · skip
        refine lv_aload_n hx hb dX3_learn_65 rfl (lv_at hl 0 rfl) ?_
        refine lv_aload_n hx hb dX3_learn_66 rfl (lv_at hl 0 rfl) ?_
        refine g_9_1 hx hb hts hiX3 hown hK hw (kC_9 h_k4) (hts (.fieldLink RX3 15 "BranchPredictor$Loop" "count" "I") (by decide +kernel)) dX3_learn_67 ?_
        refine p_9_2 (v := S.1 9 k4 1) hx hb hts hiX3 hown hK hw (kC_9 h_k4) (hts (.fieldLink RX3 18 "BranchPredictor$Loop" "trip" "I") (by decide +kernel)) dX3_learn_70 (fun H locs hw => ?_)
        refine lv_aload_n hx hb dX3_learn_73 rfl (lv_at hl 0 rfl) ?_
        refine lv_iconst (v := 0) hx hb dX3_learn_74 (by decide) ?_
        refine p_9_3 (v := (0 : Int32)) hx hb hts hiX3 hown hK hw (kC_9 h_k4) (hts (.fieldLink RX3 21 "BranchPredictor$Loop" "trust" "I") (by decide +kernel)) dX3_learn_75 (fun H locs hw => ?_)
        refine lv_aload_n hx hb dX3_learn_78 rfl (lv_at hl 0 rfl) ?_
        refine lv_iconst (v := 0) hx hb dX3_learn_79 (by decide) ?_
        refine p_9_1 (v := (0 : Int32)) hx hb hts hiX3 hown hK hw (kC_9 h_k4) (hts (.fieldLink RX3 15 "BranchPredictor$Loop" "count" "I") (by decide +kernel)) dX3_learn_80 (fun H locs hw => ?_)
        exact k_vret hx hb hr hlocks hK hw rfl (by unfold fX3_learn; rw [if_pos c_1, if_neg c_2, if_neg c_3]) dX3_learn_83
      · skip
        refine lv_aload_n hx hb dX3_learn_48 rfl (lv_at hl 0 rfl) ?_
        refine lv_aload_n hx hb dX3_learn_49 rfl (lv_at hl 0 rfl) ?_
        refine g_9_3 hx hb hts hiX3 hown hK hw (kC_9 h_k4) (hts (.fieldLink RX3 21 "BranchPredictor$Loop" "trust" "I") (by decide +kernel)) dX3_learn_50 ?_
        refine lv_iconst (v := 1) hx hb dX3_learn_53 (by decide) ?_
        refine lv_iadd hx hb dX3_learn_54 ?_
        refine lv_iconst (v := 3) hx hb dX3_learn_55 (by decide) ?_
        refine va_mmin hx hb (hml.trans hl.1.symm) hown (hts (.methodLink RX3 24 Lib.Math.min.name) (by decide +kernel)) (hts (.static Lib.Math.min.name) (by decide +kernel)) (hts (.initialized "java/lang/Math") (by decide +kernel)) (hts (.code Lib.Math.min.name Lib.Math.min.code 2 (some .int)) (by decide +kernel)) (Nat.le_of_ble_eq_true rfl) (Nat.le_of_ble_eq_true rfl) (Nat.zero_le _) (Nat.zero_le _) dX3_learn_56 ?_
        refine p_9_3 (v := if (3 : Int32) < ((S.1 9 k4 3) + (1 : Int32)) then (3 : Int32) else ((S.1 9 k4 3) + (1 : Int32))) hx hb hts hiX3 hown hK hw (kC_9 h_k4) (hts (.fieldLink RX3 21 "BranchPredictor$Loop" "trust" "I") (by decide +kernel)) dX3_learn_59 (fun H locs hw => ?_)
        refine lv_goto (tgt := 78) hx hb dX3_learn_62 (by decide) ?_
        refine lv_aload_n hx hb dX3_learn_78 rfl (lv_at hl 0 rfl) ?_
        refine lv_iconst (v := 0) hx hb dX3_learn_79 (by decide) ?_
        refine p_9_1 (v := (0 : Int32)) hx hb hts hiX3 hown hK hw (kC_9 h_k4) (hts (.fieldLink RX3 15 "BranchPredictor$Loop" "count" "I") (by decide +kernel)) dX3_learn_80 (fun H locs hw => ?_)
        exact k_vret hx hb hr hlocks hK hw rfl (by unfold fX3_learn; rw [if_pos c_1, if_neg c_2, if_pos c_3]) dX3_learn_83
  · skip
    refine lv_aload_n hx hb dX3_learn_4 rfl (lv_at hl 0 rfl) ?_
    refine lv_dup hx hb dX3_learn_5 rfl ?_
    refine g_9_1 hx hb hts hiX3 hown hK hw (kC_9 h_k4) (hts (.fieldLink RX3 15 "BranchPredictor$Loop" "count" "I") (by decide +kernel)) dX3_learn_6 ?_
    refine lv_iconst (v := 1) hx hb dX3_learn_9 (by decide) ?_
    refine lv_iadd hx hb dX3_learn_10 ?_
    refine p_9_1 (v := (S.1 9 k4 1) + (1 : Int32)) hx hb hts hiX3 hown hK hw (kC_9 h_k4) (hts (.fieldLink RX3 15 "BranchPredictor$Loop" "count" "I") (by decide +kernel)) dX3_learn_11 (fun H locs hw => ?_)
    refine lv_aload_n hx hb dX3_learn_14 rfl (lv_at hl 0 rfl) ?_
    refine g_9_1 hx hb hts hiX3 hown hK hw (kC_9 h_k4) (hts (.fieldLink RX3 15 "BranchPredictor$Loop" "count" "I") (by decide +kernel)) dX3_learn_15 ?_
    refine k_topi (z := (S.1 9 k4 1) + (1 : Int32)) (by simp [uI, uL, uF]) ?_
    refine lv_sipush (v := 1000) hx hb dX3_learn_18 (by decide) ?_
    refine lv_icmp_le (tgt := 29) hx hb dX3_learn_21 (by decide) (fun c_4 => ?_) (fun c_4 => ?_)
    · skip
      exact k_vret hx hb hr hlocks hK hw rfl (by unfold fX3_learn; rw [if_neg c_1, if_pos c_4]) dX3_learn_29
    · skip
      refine lv_aload_n hx hb dX3_learn_24 rfl (lv_at hl 0 rfl) ?_
      refine lv_iconst (v := -1) hx hb dX3_learn_25 (by decide) ?_
      refine p_9_0 (v := (-1 : Int32)) hx hb hts hiX3 hown hK hw (kC_9 h_k4) (hts (.fieldLink RX3 9 "BranchPredictor$Loop" "place" "I") (by decide +kernel)) dX3_learn_26 (fun H locs hw => ?_)
      exact k_vret hx hb hr hlocks hK hw rfl (by unfold fX3_learn; rw [if_neg c_1, if_neg c_4]) dX3_learn_29
abbrev rmX4_mix : Room := { frames := 0, cells := 0, slots := 0, locals := 0 }
set_option maxHeartbeats 4000000 in
set_option maxRecDepth 100000 in
theorem cX4c_mix (l : Launch) (G : gG) (Z : va_W) (S : uS) (z1 : Int64) (z2 : Int64) : kMet l yX4_mix wsX4_mix rmX4_mix G kC Z S [.long (z1), .long (z2)] (some (.long ((z1 * (31 : Int64)) + z2))) S := by
  refine kMet_of (cc := cX4_mix) (maxL := 4) (ret := (some .long)) (by decide) rfl (Nat.le_of_ble_eq_true rfl) ?_
  intro p e s m below meth c hx hb hr hml hlocks hts hown hK hN A hZ hA H locs hw ls hl
  have hl : lv_has ls 4 [(0, .long (z1)), (2, .long (z2))] := hl
  refine lv_lload_n hx hb dX4_mix_0 rfl (lv_at hl 0 rfl) ?_
  refine lv_ldc2 (v := 31) hx hb hown (hts (.constantLong RX4 197 (31)) (by decide +kernel)) dX4_mix_1 ?_
  refine lv_lmul hx hb dX4_mix_4 ?_
  refine lv_lload_n hx hb dX4_mix_5 rfl (lv_at hl 1 rfl) ?_
  refine lv_ladd hx hb dX4_mix_6 ?_
  exact k_lret hx hb hr hlocks hK hw rfl rfl dX4_mix_7
def fX4_isTableBits (S : uS) (x1 : Int32) : Bool :=
  if x1 < (2 : Int32) then false
  else if (8 : Int32) < x1 then false else true
abbrev rmX4_isTableBits : Room := { frames := 0, cells := 0, slots := 0, locals := 0 }
set_option maxHeartbeats 4000000 in
set_option maxRecDepth 100000 in
theorem cX4c_isTableBits (l : Launch) (G : gG) (Z : va_W) (S : uS) (x1 : Int32) : kMet l yX4_isTableBits wsX4_isTableBits rmX4_isTableBits G kC Z S [.int (x1)] (some (.int (bI ((fX4_isTableBits S x1))))) S := by
  refine kMet_of (cc := cX4_isTableBits) (maxL := 1) (ret := (some .boolean)) (by decide) rfl (Nat.le_of_ble_eq_true rfl) ?_
  intro p e s m below meth c hx hb hr hml hlocks hts hown hK hN A hZ hA H locs hw ls hl
  have hl : lv_has ls 1 [(0, .int (x1))] := hl
  refine lv_iload_n hx hb dX4_isTableBits_0 rfl (lv_at hl 0 rfl) ?_
  refine lv_iconst (v := 2) hx hb dX4_isTableBits_1 (by decide) ?_
  refine lv_icmp_lt (tgt := 15) hx hb dX4_isTableBits_2 (by decide) (fun c_1 => ?_) (fun c_1 => ?_)
  · skip
    refine lv_iconst (v := 0) hx hb dX4_isTableBits_15 (by decide) ?_
    exact k_zret (r := false) hx hb hr hlocks hK hw (congrArg (fun z : Bool => some (Value.int (bI (z)))) (show (fX4_isTableBits S x1) = false from by unfold fX4_isTableBits; rw [if_pos c_1])) rfl dX4_isTableBits_16
  · skip
    refine lv_iload_n hx hb dX4_isTableBits_5 rfl (lv_at hl 0 rfl) ?_
    refine lv_bipush (v := 8) hx hb dX4_isTableBits_6 (by decide) ?_
    refine k_join (P := fun x9 : Bool => W p l e rmX4_isTableBits s m [.int (x1)].toArray below meth c H locs 0 0 (MQ below (kQ G kC Z A (some (.int (bI ((fX4_isTableBits S x1))))) S) [.int (x1)].toArray s 0 0 A) (F0 m 16 ls [.int (bI (x9))])) (C := (8 : Int32) < x1) (a := false) (b := true) ?_ (fun ka kb => ?_)
    rotate_left
    · refine lv_icmp_gt (tgt := 15) hx hb dX4_isTableBits_8 (by decide) (fun c_2 => ?_) (fun c_2 => ?_)
      · skip
        refine lv_iconst (v := 0) hx hb dX4_isTableBits_15 (by decide) ?_
        exact ka c_2
      · skip
        refine lv_iconst (v := 1) hx hb dX4_isTableBits_11 (by decide) ?_
        refine lv_goto (tgt := 16) hx hb dX4_isTableBits_12 (by decide) ?_
        exact kb c_2
    show W p l e rmX4_isTableBits s m [.int (x1)].toArray below meth c H locs 0 0 (MQ below (kQ G kC Z A (some (.int (bI ((fX4_isTableBits S x1))))) S) [.int (x1)].toArray s 0 0 A) (F0 m 16 ls [.int (bI (if (8 : Int32) < x1 then false else true))])
    exact k_zret (r := if (8 : Int32) < x1 then false else true) hx hb hr hlocks hK hw (congrArg (fun z : Bool => some (Value.int (bI (z)))) (show (fX4_isTableBits S x1) = if (8 : Int32) < x1 then false else true from by unfold fX4_isTableBits; rw [if_neg c_1])) rfl dX4_isTableBits_16
/-- the place in the ring of the branch in flight with this index -/
def fIx (S : uS) (x1 : Int32) : Nat := ((S.1 0 0 12 + x1) &&& (15 : Int32)).toNatClampNeg
theorem fIx_lt (S : uS) (x1 : Int32) : fIx S x1 < 16 := vp_lt (pk_andIn _ 4 (by decide) (by decide))
abbrev rmX4_branchAt : Room := { frames := 0, cells := 0, slots := 0, locals := 0 }
set_option maxHeartbeats 4000000 in
set_option maxRecDepth 100000 in
theorem cX4c_branchAt (l : Launch) (G : gG) (Z : va_W) (S : uS) (x1 : Int32) : kMet l yX4_branchAt wsX4_branchAt rmX4_branchAt G kC Z S [.ref (G.2.2 (0, 0)), .int (x1)] (some (.ref (G.2.2 (8, (fIx S x1))))) S := by
  refine kMet_of (cc := cX4_branchAt) (maxL := 2) (ret := (some (.object "BranchPredictor$Branch"))) (by decide) rfl (Nat.le_of_ble_eq_true rfl) ?_
  intro p e s m below meth c hx hb hr hml hlocks hts hown hK hN A hZ hA H locs hw ls hl
  have hl : lv_has ls 2 [(0, .ref (G.2.2 (0, 0))), (1, .int (x1))] := hl
  have hiX4 : ∀ w ∈ wsX40, w ∈ wsX4_branchAt := by decide +kernel
  refine lv_aload_n hx hb dX4_branchAt_0 rfl (lv_at hl 0 rfl) ?_
  refine g_0_5 hx hb hts hiX4 hown hK hw kC_0 (hts (.fieldLink RX4 34 "BranchPredictor" "ring" "[LBranchPredictor$Branch;") (by decide +kernel)) dX4_branchAt_1 ?_
  refine lv_aload_n hx hb dX4_branchAt_4 rfl (lv_at hl 0 rfl) ?_
  refine g_0_12 hx hb hts hiX4 hown hK hw kC_0 (hts (.fieldLink RX4 210 "BranchPredictor" "oldest" "I") (by decide +kernel)) dX4_branchAt_5 ?_
  refine lv_iload_n hx hb dX4_branchAt_8 rfl (lv_at hl 1 rfl) ?_
  refine lv_iadd hx hb dX4_branchAt_9 ?_
  refine lv_bipush (v := 15) hx hb dX4_branchAt_10 (by decide) ?_
  refine lv_iand hx hb dX4_branchAt_12 ?_
  refine ald_5 hx hb hK hw kC_5 (pk_andIn _ 4 (by decide) (by decide)) dX4_branchAt_13 ?_
  exact k_aret hx hb hr hlocks hK hw rfl rfl dX4_branchAt_14
abbrev rmX4_appended : Room := { frames := 0, cells := 0, slots := 0, locals := 0 }
set_option maxHeartbeats 4000000 in
set_option maxRecDepth 100000 in
theorem cX4c_appended (l : Launch) (G : gG) (Z : va_W) (S : uS) (x1 : Int32) (b1 : Bool) : kMet l yX4_appended wsX4_appended rmX4_appended G kC Z S [.ref (G.2.2 (0, 0)), .int (x1), .int (bI (b1))] (some (.int ((((2 : Int32) * x1) + (if b1 = false then (0 : Int32) else (1 : Int32))) &&& (((1 : Int32) <<< ((S.1 0 0 10) &&& 31)) - (1 : Int32))))) S := by
  refine kMet_of (cc := cX4_appended) (maxL := 4) (ret := (some .int)) (by decide) rfl (Nat.le_of_ble_eq_true rfl) ?_
  intro p e s m below meth c hx hb hr hml hlocks hts hown hK hN A hZ hA H locs hw ls hl
  have hl : lv_has ls 4 [(0, .ref (G.2.2 (0, 0))), (1, .int (x1)), (2, .int (bI (b1)))] := hl
  have hiX4 : ∀ w ∈ wsX40, w ∈ wsX4_appended := by decide +kernel
  refine lv_iconst (v := 2) hx hb dX4_appended_0 (by decide) ?_
  refine lv_iload_n hx hb dX4_appended_1 rfl (lv_at hl 1 rfl) ?_
  refine lv_imul hx hb dX4_appended_2 ?_
  refine lv_iload_n hx hb dX4_appended_3 rfl (lv_at hl 2 rfl) ?_
  refine k_join (P := fun x9 : Int32 => W p l e rmX4_appended s m [.ref (G.2.2 (0, 0)), .int (x1), .int (bI (b1))].toArray below meth c H locs 0 0 (MQ below (kQ G kC Z A (some (.int ((((2 : Int32) * x1) + (if b1 = false then (0 : Int32) else (1 : Int32))) &&& (((1 : Int32) <<< ((S.1 0 0 10) &&& 31)) - (1 : Int32))))) S) [.ref (G.2.2 (0, 0)), .int (x1), .int (bI (b1))].toArray s 0 0 A) (F0 m 12 ls [.int (x9), .int ((2 : Int32) * x1)])) (C := b1 = false) (a := (0 : Int32)) (b := (1 : Int32)) ?_ (fun ka kb => ?_)
  rotate_left
  · refine k_if_eq (b := b1) (tgt := 11) hx hb dX4_appended_4 (by decide) (fun c_1 => ?_) (fun c_1 => ?_)
    · skip
      refine lv_iconst (v := 0) hx hb dX4_appended_11 (by decide) ?_
      exact ka c_1
    · skip
      refine lv_iconst (v := 1) hx hb dX4_appended_7 (by decide) ?_
      refine lv_goto (tgt := 12) hx hb dX4_appended_8 (by decide) ?_
      exact kb c_1
  show W p l e rmX4_appended s m [.ref (G.2.2 (0, 0)), .int (x1), .int (bI (b1))].toArray below meth c H locs 0 0 (MQ below (kQ G kC Z A (some (.int ((((2 : Int32) * x1) + (if b1 = false then (0 : Int32) else (1 : Int32))) &&& (((1 : Int32) <<< ((S.1 0 0 10) &&& 31)) - (1 : Int32))))) S) [.ref (G.2.2 (0, 0)), .int (x1), .int (bI (b1))].toArray s 0 0 A) (F0 m 12 ls [.int (if b1 = false then (0 : Int32) else (1 : Int32)), .int ((2 : Int32) * x1)])
  refine lv_iadd hx hb dX4_appended_12 ?_
  refine lv_istore_n (lv' := [(3, .int (((2 : Int32) * x1) + (if b1 = false then (0 : Int32) else (1 : Int32)))), (0, .ref (G.2.2 (0, 0))), (1, .int (x1)), (2, .int (bI (b1)))]) hx hb dX4_appended_13 rfl hl (by decide) rfl (fun ls hl => ?_)
  refine lv_iload_n hx hb dX4_appended_14 rfl (lv_at hl 0 rfl) ?_
  refine lv_iconst (v := 1) hx hb dX4_appended_15 (by decide) ?_
  refine lv_aload_n hx hb dX4_appended_16 rfl (lv_at hl 1 rfl) ?_
  refine g_0_10 hx hb hts hiX4 hown hK hw kC_0 (hts (.fieldLink RX4 55 "BranchPredictor" "historyBits" "I") (by decide +kernel)) dX4_appended_17 ?_
  refine lv_ishl hx hb dX4_appended_20 ?_
  refine lv_iconst (v := 1) hx hb dX4_appended_21 (by decide) ?_
  refine lv_isub hx hb dX4_appended_22 ?_
  refine lv_iand hx hb dX4_appended_23 ?_
  exact k_iret hx hb hr hlocks hK hw rfl rfl dX4_appended_24
def fX4_dropFrom (S : uS) (x1 : Int32) : Int32 × uS :=
  ((S.1 0 0 13) - x1, (uI (uL S 0 0 15 ((S.2.1 0 0 15) + (((S.1 0 0 13) - x1).toInt64))) 0 0 13 x1))
abbrev rmX4_dropFrom : Room := { frames := 0, cells := 0, slots := 0, locals := 0 }
set_option maxHeartbeats 4000000 in
set_option maxRecDepth 100000 in
theorem cX4c_dropFrom (l : Launch) (G : gG) (Z : va_W) (S : uS) (x1 : Int32) : kMet l yX4_dropFrom wsX4_dropFrom rmX4_dropFrom G kC Z S [.ref (G.2.2 (0, 0)), .int (x1)] (some (.int ((fX4_dropFrom S x1).1))) ((fX4_dropFrom S x1).2) := by
  refine kMet_of (cc := cX4_dropFrom) (maxL := 3) (ret := (some .int)) (by decide) rfl (Nat.le_of_ble_eq_true rfl) ?_
  intro p e s m below meth c hx hb hr hml hlocks hts hown hK hN A hZ hA H locs hw ls hl
  have hl : lv_has ls 3 [(0, .ref (G.2.2 (0, 0))), (1, .int (x1))] := hl
  have hiX4 : ∀ w ∈ wsX40, w ∈ wsX4_dropFrom := by decide +kernel
  refine lv_aload_n hx hb dX4_dropFrom_0 rfl (lv_at hl 0 rfl) ?_
  refine g_0_13 hx hb hts hiX4 hown hK hw kC_0 (hts (.fieldLink RX4 79 "BranchPredictor" "flying" "I") (by decide +kernel)) dX4_dropFrom_1 ?_
  refine lv_iload_n hx hb dX4_dropFrom_4 rfl (lv_at hl 1 rfl) ?_
  refine lv_isub hx hb dX4_dropFrom_5 ?_
  refine lv_istore_n (lv' := [(2, .int ((S.1 0 0 13) - x1)), (0, .ref (G.2.2 (0, 0))), (1, .int (x1))]) hx hb dX4_dropFrom_6 rfl hl (by decide) rfl (fun ls hl => ?_)
  refine lv_aload_n hx hb dX4_dropFrom_7 rfl (lv_at hl 1 rfl) ?_
  refine lv_dup hx hb dX4_dropFrom_8 rfl ?_
  refine g_0_15 hx hb hts hiX4 hown hK hw kC_0 (hts (.fieldLink RX4 175 "BranchPredictor" "dropped" "J") (by decide +kernel)) dX4_dropFrom_9 ?_
  refine lv_iload_n hx hb dX4_dropFrom_12 rfl (lv_at hl 0 rfl) ?_
  refine lv_i2l (v := ((S.1 0 0 13) - x1).toInt64) hx hb dX4_dropFrom_13 rfl ?_
  refine lv_ladd hx hb dX4_dropFrom_14 ?_
  refine p_0_15 (v := (S.2.1 0 0 15) + (((S.1 0 0 13) - x1).toInt64)) hx hb hts hiX4 hown hK hw kC_0 (hts (.fieldLink RX4 175 "BranchPredictor" "dropped" "J") (by decide +kernel)) dX4_dropFrom_15 (fun H locs hw => ?_)
  refine lv_aload_n hx hb dX4_dropFrom_18 rfl (lv_at hl 1 rfl) ?_
  refine lv_iload_n hx hb dX4_dropFrom_19 rfl (lv_at hl 2 rfl) ?_
  refine p_0_13 (v := x1) hx hb hts hiX4 hown hK hw kC_0 (hts (.fieldLink RX4 79 "BranchPredictor" "flying" "I") (by decide +kernel)) dX4_dropFrom_20 (fun H locs hw => ?_)
  refine lv_iload_n hx hb dX4_dropFrom_23 rfl (lv_at hl 0 rfl) ?_
  exact k_iret hx hb hr hlocks hK hw (congrArg (fun z : Int32 × uS => some (Value.int (z.1))) (show (fX4_dropFrom S x1) = ((S.1 0 0 13) - x1, (uI (uL S 0 0 15 ((S.2.1 0 0 15) + (((S.1 0 0 13) - x1).toInt64))) 0 0 13 x1)) from by unfold fX4_dropFrom; rfl)) (congrArg (fun z : Int32 × uS => z.2) (show (fX4_dropFrom S x1) = ((S.1 0 0 13) - x1, (uI (uL S 0 0 15 ((S.2.1 0 0 15) + (((S.1 0 0 13) - x1).toInt64))) 0 0 13 x1)) from by unfold fX4_dropFrom; rfl)) dX4_dropFrom_24
end
section
def lX2_fill (k1 : Nat) : Nat → Nat → uS → uS
  | 0, i, S1 => (S1)
  | n + 1, i, S1 => (lX2_fill k1 n (i + 1) (uI S1 2 k1 i (1 : Int32)))
def fX2_startAnew (S : uS) (k1 : Nat) (x1 : Int32) : uS :=
  (lX2_fill k1 256 0 (uI S 1 k1 1 ((1 : Int32) <<< (x1 &&& 31))))
abbrev rmX2_startAnew : Room := { frames := 0, cells := 0, slots := 0, locals := 0 }
set_option maxHeartbeats 4000000 in
set_option maxRecDepth 100000 in
theorem cX2c_startAnew (l : Launch) (G : gG) (Z : va_W) (S : uS) (k1 : Nat) (h_k1 : k1 < 3) (x1 : Int32) : kMet l yX2_startAnew wsX2_startAnew rmX2_startAnew G kC Z S [.ref (G.2.2 (1, k1)), .int (x1)] none (fX2_startAnew S k1 x1) := by
  refine kMet_of (cc := cX2_startAnew) (maxL := 3) (ret := none) (by decide) rfl (Nat.le_of_ble_eq_true rfl) ?_
  intro p e s m below meth c hx hb hr hml hlocks hts hown hK hN A hZ hA H locs hw ls hl
  have hl : lv_has ls 3 [(0, .ref (G.2.2 (1, k1))), (1, .int (x1))] := hl
  have hiX2 : ∀ w ∈ wsX20, w ∈ wsX2_startAnew := by decide +kernel
  refine lv_aload_n hx hb dX2_startAnew_0 rfl (lv_at hl 0 rfl) ?_
  refine lv_iconst (v := 1) hx hb dX2_startAnew_1 (by decide) ?_
  refine lv_iload_n hx hb dX2_startAnew_2 rfl (lv_at hl 1 rfl) ?_
  refine lv_ishl hx hb dX2_startAnew_3 ?_
  refine p_1_1 (v := (1 : Int32) <<< (x1 &&& 31)) hx hb hts hiX2 hown hK hw (kC_1 h_k1) (hts (.fieldLink RX2 15 "BranchPredictor$CounterTable" "size" "I") (by decide +kernel)) dX2_startAnew_4 (fun H locs hw => ?_)
  refine lv_iconst (v := 0) hx hb dX2_startAnew_7 (by decide) ?_
  refine lv_istore_n (lv' := [(2, .int ((0 : Int32))), (0, .ref (G.2.2 (1, k1))), (1, .int (x1))]) hx hb dX2_startAnew_8 rfl hl (by decide) rfl (fun ls hl => ?_)
  have hloop_lX2_fill : ∀ (n i : Nat) (S1 : uS) (H : Heap) (locs : List Loc) (ls : Array Slot), i + n = 256 → kS G kC S1 Z A s.heap H locs → lv_has ls 3 [(0, .ref (G.2.2 (1, k1))), (1, .int (x1)), (2, .int (nI i))] → (∀ (H : Heap) (locs : List Loc) (ls : Array Slot), kS G kC (lX2_fill k1 n i S1) Z A s.heap H locs → lv_has ls 3 [(0, .ref (G.2.2 (1, k1))), (1, .int (x1)), (2, .int (nI 256))] → W p l e rmX2_startAnew s m [.ref (G.2.2 (1, k1)), .int (x1)].toArray below meth c H locs 0 0 (MQ below (kQ G kC Z A none (fX2_startAnew S k1 x1)) [.ref (G.2.2 (1, k1)), .int (x1)].toArray s 0 0 A) (F0 m 29 ls [])) → W p l e rmX2_startAnew s m [.ref (G.2.2 (1, k1)), .int (x1)].toArray below meth c H locs 0 0 (MQ below (kQ G kC Z A none (fX2_startAnew S k1 x1)) [.ref (G.2.2 (1, k1)), .int (x1)].toArray s 0 0 A) (F0 m 9 ls []) := by
    intro n
    induction n with
    | zero =>
      intro i S1 H locs ls hin hw hl kx
      have z_1 : (256 : Int32) ≤ (nI i) := (nI_le (a := 256) (b := i) (by omega) (by omega))
      refine lv_iload_n hx hb dX2_startAnew_9 rfl (lv_at hl 2 rfl) ?_
      refine lv_sipush (v := 256) hx hb dX2_startAnew_10 (by decide) ?_
      refine lv_icmp_ge (tgt := 29) hx hb dX2_startAnew_13 (by decide) (fun _ => ?_) (fun h9 => absurd z_1 h9)
      have hin : i = 256 := hin
      rw [hin] at hl
      exact kx H locs ls hw (lv_sub hl [0, 1, 2] rfl)
    | succ n ih =>
      intro i S1 H locs ls hin hw hl kx
      have hi : i < 256 := by omega
      have hi31 : i < 2 ^ 31 := Nat.lt_trans hi (by decide)
      have z_2 : ¬ ((256 : Int32) ≤ (nI i)) := (nI_ge (a := i) (b := 256) hi (by decide))
      refine lv_iload_n hx hb dX2_startAnew_9 rfl (lv_at hl 2 rfl) ?_
      refine lv_sipush (v := 256) hx hb dX2_startAnew_10 (by decide) ?_
      refine lv_icmp_ge (tgt := 29) hx hb dX2_startAnew_13 (by decide) (fun h9 => absurd h9 z_2) (fun _ => ?_)
      refine lv_aload_n hx hb dX2_startAnew_16 rfl (lv_at hl 0 rfl) ?_
      refine g_1_0 hx hb hts hiX2 hown hK hw (kC_1 h_k1) (hts (.fieldLink RX2 9 "BranchPredictor$CounterTable" "values" "[I") (by decide +kernel)) dX2_startAnew_17 ?_
      refine lv_iload_n hx hb dX2_startAnew_20 rfl (lv_at hl 2 rfl) ?_
      refine lv_iconst (v := 1) hx hb dX2_startAnew_21 (by decide) ?_
      refine st_2 (x := (1 : Int32)) hx hb hK hw (kC_2 h_k1) (vp_in_nI (by omega) (by decide)) dX2_startAnew_22 (fun H locs hw => ?_)
      rw [nI_clamp hi31] at hw
      refine lv_iinc (v := nI (i + 1)) (lv' := [(2, .int (nI (i + 1))), (0, .ref (G.2.2 (1, k1))), (1, .int (x1))]) hx hb dX2_startAnew_23 hl (k := 2) rfl (by rw [← nI_1]; rfl) (by decide) rfl (fun ls hl => ?_)
      refine lv_goto (tgt := 9) hx hb dX2_startAnew_26 (by decide) ?_
      exact ih (i + 1) (uI S1 2 k1 i (1 : Int32)) H locs ls (by omega) hw (lv_sub hl [1, 2, 0] rfl) (by rw [(show (lX2_fill k1 (n + 1) i S1) = (lX2_fill k1 n (i + 1) (uI S1 2 k1 i (1 : Int32))) from by rw [lX2_fill])] at kx; exact kx)
  refine hloop_lX2_fill 256 0 (uI S 1 k1 1 ((1 : Int32) <<< (x1 &&& 31))) H locs ls (by omega) hw (lv_sub hl [1, 2, 0] rfl) (fun H locs ls hw hl => ?_)
  exact k_vret hx hb hr hlocks hK hw rfl (by unfold fX2_startAnew; rfl) dX2_startAnew_29
def lX0_fill (k2 : Nat) : Nat → Nat → uS → uS
  | 0, i, S1 => (S1)
  | n + 1, i, S1 => (lX0_fill k2 n (i + 1) (uI S1 4 k2 i (-1 : Int32)))
def fX0_startAnew (S : uS) (k2 : Nat) : uS :=
  (uL (uL (lX0_fill k2 256 0 S) 3 k2 1 (0 : Int64)) 3 k2 2 (0 : Int64))
abbrev rmX0_startAnew : Room := { frames := 0, cells := 0, slots := 0, locals := 0 }
set_option maxHeartbeats 4000000 in
set_option maxRecDepth 100000 in
theorem cX0c_startAnew (l : Launch) (G : gG) (Z : va_W) (S : uS) (k2 : Nat) (h_k2 : k2 < 2) : kMet l yX0_startAnew wsX0_startAnew rmX0_startAnew G kC Z S [.ref (G.2.2 (3, k2))] none (fX0_startAnew S k2) := by
  refine kMet_of (cc := cX0_startAnew) (maxL := 2) (ret := none) (by decide) rfl (Nat.le_of_ble_eq_true rfl) ?_
  intro p e s m below meth c hx hb hr hml hlocks hts hown hK hN A hZ hA H locs hw ls hl
  have hl : lv_has ls 2 [(0, .ref (G.2.2 (3, k2)))] := hl
  have hiX0 : ∀ w ∈ wsX00, w ∈ wsX0_startAnew := by decide +kernel
  refine lv_iconst (v := 0) hx hb dX0_startAnew_0 (by decide) ?_
  refine lv_istore_n (lv' := [(1, .int ((0 : Int32))), (0, .ref (G.2.2 (3, k2)))]) hx hb dX0_startAnew_1 rfl hl (by decide) rfl (fun ls hl => ?_)
  have hloop_lX0_fill : ∀ (n i : Nat) (S1 : uS) (H : Heap) (locs : List Loc) (ls : Array Slot), i + n = 256 → kS G kC S1 Z A s.heap H locs → lv_has ls 2 [(0, .ref (G.2.2 (3, k2))), (1, .int (nI i))] → (∀ (H : Heap) (locs : List Loc) (ls : Array Slot), kS G kC (lX0_fill k2 n i S1) Z A s.heap H locs → lv_has ls 2 [(0, .ref (G.2.2 (3, k2))), (1, .int (nI 256))] → W p l e rmX0_startAnew s m [.ref (G.2.2 (3, k2))].toArray below meth c H locs 0 0 (MQ below (kQ G kC Z A none (fX0_startAnew S k2)) [.ref (G.2.2 (3, k2))].toArray s 0 0 A) (F0 m 22 ls [])) → W p l e rmX0_startAnew s m [.ref (G.2.2 (3, k2))].toArray below meth c H locs 0 0 (MQ below (kQ G kC Z A none (fX0_startAnew S k2)) [.ref (G.2.2 (3, k2))].toArray s 0 0 A) (F0 m 2 ls []) := by
    intro n
    induction n with
    | zero =>
      intro i S1 H locs ls hin hw hl kx
      have z_1 : (256 : Int32) ≤ (nI i) := (nI_le (a := 256) (b := i) (by omega) (by omega))
      refine lv_iload_n hx hb dX0_startAnew_2 rfl (lv_at hl 1 rfl) ?_
      refine lv_sipush (v := 256) hx hb dX0_startAnew_3 (by decide) ?_
      refine lv_icmp_ge (tgt := 22) hx hb dX0_startAnew_6 (by decide) (fun _ => ?_) (fun h9 => absurd z_1 h9)
      have hin : i = 256 := hin
      rw [hin] at hl
      exact kx H locs ls hw (lv_sub hl [0, 1] rfl)
    | succ n ih =>
      intro i S1 H locs ls hin hw hl kx
      have hi : i < 256 := by omega
      have hi31 : i < 2 ^ 31 := Nat.lt_trans hi (by decide)
      have z_2 : ¬ ((256 : Int32) ≤ (nI i)) := (nI_ge (a := i) (b := 256) hi (by decide))
      refine lv_iload_n hx hb dX0_startAnew_2 rfl (lv_at hl 1 rfl) ?_
      refine lv_sipush (v := 256) hx hb dX0_startAnew_3 (by decide) ?_
      refine lv_icmp_ge (tgt := 22) hx hb dX0_startAnew_6 (by decide) (fun h9 => absurd h9 z_2) (fun _ => ?_)
      refine lv_aload_n hx hb dX0_startAnew_9 rfl (lv_at hl 0 rfl) ?_
      refine g_3_0 hx hb hts hiX0 hown hK hw (kC_3 h_k2) (hts (.fieldLink RX0 9 "BranchPredictor$Audit" "latestPlaces" "[I") (by decide +kernel)) dX0_startAnew_10 ?_
      refine lv_iload_n hx hb dX0_startAnew_13 rfl (lv_at hl 1 rfl) ?_
      refine lv_iconst (v := -1) hx hb dX0_startAnew_14 (by decide) ?_
      refine st_4 (x := (-1 : Int32)) hx hb hK hw (kC_4 h_k2) (vp_in_nI (by omega) (by decide)) dX0_startAnew_15 (fun H locs hw => ?_)
      rw [nI_clamp hi31] at hw
      refine lv_iinc (v := nI (i + 1)) (lv' := [(1, .int (nI (i + 1))), (0, .ref (G.2.2 (3, k2)))]) hx hb dX0_startAnew_16 hl (k := 1) rfl (by rw [← nI_1]; rfl) (by decide) rfl (fun ls hl => ?_)
      refine lv_goto (tgt := 2) hx hb dX0_startAnew_19 (by decide) ?_
      exact ih (i + 1) (uI S1 4 k2 i (-1 : Int32)) H locs ls (by omega) hw (lv_sub hl [1, 0] rfl) (by rw [(show (lX0_fill k2 (n + 1) i S1) = (lX0_fill k2 n (i + 1) (uI S1 4 k2 i (-1 : Int32))) from by rw [lX0_fill])] at kx; exact kx)
  refine hloop_lX0_fill 256 0 S H locs ls (by omega) hw (lv_sub hl [1, 0] rfl) (fun H locs ls hw hl => ?_)
  refine lv_aload_n hx hb dX0_startAnew_22 rfl (lv_at hl 0 rfl) ?_
  refine lv_lconst (v := 0) hx hb dX0_startAnew_23 (by decide) ?_
  refine p_3_1 (v := (0 : Int64)) hx hb hts hiX0 hown hK hw (kC_3 h_k2) (hts (.fieldLink RX0 15 "BranchPredictor$Audit" "allMeetings" "J") (by decide +kernel)) dX0_startAnew_24 (fun H locs hw => ?_)
  refine lv_aload_n hx hb dX0_startAnew_27 rfl (lv_at hl 0 rfl) ?_
  refine lv_lconst (v := 0) hx hb dX0_startAnew_28 (by decide) ?_
  refine p_3_2 (v := (0 : Int64)) hx hb hts hiX0 hown hK hw (kC_3 h_k2) (hts (.fieldLink RX0 19 "BranchPredictor$Audit" "harmfulMeetings" "J") (by decide +kernel)) dX0_startAnew_29 (fun H locs hw => ?_)
  exact k_vret hx hb hr hlocks hK hw rfl (by unfold fX0_startAnew; rfl) dX0_startAnew_32
def lX2_mix (k1 : Nat) : Nat → Nat → Int64 → uS → Int64
  | 0, i, a1, S => (a1)
  | n + 1, i, a1, S => (lX2_mix k1 n (i + 1) ((a1 * (31 : Int64)) + ((S.1 2 k1 i).toInt64)) S)
abbrev rmX2_mixInto : Room := { frames := 1, cells := 0, slots := 0, locals := 23 }
set_option maxHeartbeats 4000000 in
set_option maxRecDepth 100000 in
theorem cX2c_mixInto (l : Launch) (G : gG) (Z : va_W) (S : uS) (k1 : Nat) (h_k1 : k1 < 3) (N2 : Nat) (h_Ts : S.1 1 k1 1 = nI N2) (h_Tb : N2 ≤ 256) (z1 : Int64) : kMet l yX2_mixInto wsX2_mixInto rmX2_mixInto G kC Z S [.ref (G.2.2 (1, k1)), .long (z1)] (some (.long ((lX2_mix k1 N2 0 z1 S)))) S := by
  refine kMet_of (cc := cX2_mixInto) (maxL := 6) (ret := (some .long)) (by decide) rfl (Nat.le_of_ble_eq_true rfl) ?_
  intro p e s m below meth c hx hb hr hml hlocks hts hown hK hN A hZ hA H locs hw ls hl
  have hl : lv_has ls 6 [(0, .ref (G.2.2 (1, k1))), (1, .long (z1))] := hl
  have hiX2 : ∀ w ∈ wsX20, w ∈ wsX2_mixInto := by decide +kernel
  refine lv_lload_n hx hb dX2_mixInto_0 rfl (lv_at hl 1 rfl) ?_
  refine lv_lstore_n (lv' := [(3, .long (z1)), (0, .ref (G.2.2 (1, k1))), (1, .long (z1))]) hx hb dX2_mixInto_1 rfl hl (by decide) rfl (fun ls hl => ?_)
  refine lv_iconst (v := 0) hx hb dX2_mixInto_2 (by decide) ?_
  refine lv_istore (lv' := [(5, .int ((0 : Int32))), (3, .long (z1)), (0, .ref (G.2.2 (1, k1))), (1, .long (z1))]) hx hb dX2_mixInto_3 hl (by decide) rfl (fun ls hl => ?_)
  have hloop_lX2_mix : ∀ (n i : Nat) (a1 : Int64) (H : Heap) (locs : List Loc) (ls : Array Slot), i + n = N2 → kS G kC S Z A s.heap H locs → lv_has ls 6 [(0, .ref (G.2.2 (1, k1))), (1, .long (z1)), (3, .long (a1)), (5, .int (nI i))] → (∀ (H : Heap) (locs : List Loc) (ls : Array Slot), kS G kC S Z A s.heap H locs → lv_has ls 6 [(0, .ref (G.2.2 (1, k1))), (1, .long (z1)), (3, .long ((lX2_mix k1 n i a1 S))), (5, .int (nI N2))] → W p l e rmX2_mixInto s m [.ref (G.2.2 (1, k1)), .long (z1)].toArray below meth c H locs 0 0 (MQ below (kQ G kC Z A (some (.long ((lX2_mix k1 N2 0 z1 S)))) S) [.ref (G.2.2 (1, k1)), .long (z1)].toArray s 0 0 A) (F0 m 41 ls [])) → W p l e rmX2_mixInto s m [.ref (G.2.2 (1, k1)), .long (z1)].toArray below meth c H locs 0 0 (MQ below (kQ G kC Z A (some (.long ((lX2_mix k1 N2 0 z1 S)))) S) [.ref (G.2.2 (1, k1)), .long (z1)].toArray s 0 0 A) (F0 m 5 ls []) := by
    intro n
    induction n with
    | zero =>
      intro i a1 H locs ls hin hw hl kx
      have z_1 : (nI N2) ≤ (nI i) := (nI_le (a := N2) (b := i) (by omega) (by omega))
      refine lv_iload hx hb dX2_mixInto_5 (lv_at hl 3 rfl) ?_
      refine lv_aload_n hx hb dX2_mixInto_7 rfl (lv_at hl 0 rfl) ?_
      refine g_1_1 hx hb hts hiX2 hown hK hw (kC_1 h_k1) (hts (.fieldLink RX2 15 "BranchPredictor$CounterTable" "size" "I") (by decide +kernel)) dX2_mixInto_8 ?_
      refine k_topi (z := nI N2) (h_Ts) ?_
      refine lv_icmp_ge (tgt := 41) hx hb dX2_mixInto_11 (by decide) (fun _ => ?_) (fun h9 => absurd z_1 h9)
      have hin : i = N2 := hin
      subst hin
      exact kx H locs ls hw (lv_sub hl [0, 1, 2, 3] rfl)
    | succ n ih =>
      intro i a1 H locs ls hin hw hl kx
      have hi : i < N2 := by omega
      have hi31 : i < 2 ^ 31 := Nat.lt_trans hi (by omega)
      have z_2 : ¬ ((nI N2) ≤ (nI i)) := (nI_ge (a := i) (b := N2) hi (by omega))
      have z_3 : ¬ ((256 : Int32) ≤ (nI i)) := (nI_ge (a := i) (b := 256) (by omega) (by decide))
      refine lv_iload hx hb dX2_mixInto_5 (lv_at hl 3 rfl) ?_
      refine lv_aload_n hx hb dX2_mixInto_7 rfl (lv_at hl 0 rfl) ?_
      refine g_1_1 hx hb hts hiX2 hown hK hw (kC_1 h_k1) (hts (.fieldLink RX2 15 "BranchPredictor$CounterTable" "size" "I") (by decide +kernel)) dX2_mixInto_8 ?_
      refine k_topi (z := nI N2) (h_Ts) ?_
      refine lv_icmp_ge (tgt := 41) hx hb dX2_mixInto_11 (by decide) (fun h9 => absurd h9 z_2) (fun _ => ?_)
      refine lv_iload hx hb dX2_mixInto_14 (lv_at hl 3 rfl) ?_
      refine lv_sipush (v := 256) hx hb dX2_mixInto_16 (by decide) ?_
      refine lv_icmp_ge (tgt := 41) hx hb dX2_mixInto_19 (by decide) (fun h9 => absurd h9 z_3) (fun _ => ?_)
      refine lv_lload_n hx hb dX2_mixInto_22 rfl (lv_at hl 2 rfl) ?_
      refine lv_aload_n hx hb dX2_mixInto_23 rfl (lv_at hl 0 rfl) ?_
      refine g_1_0 hx hb hts hiX2 hown hK hw (kC_1 h_k1) (hts (.fieldLink RX2 9 "BranchPredictor$CounterTable" "values" "[I") (by decide +kernel)) dX2_mixInto_24 ?_
      refine lv_iload hx hb dX2_mixInto_27 (lv_at hl 3 rfl) ?_
      refine ld_2 hx hb hK hw (kC_2 h_k1) (vp_in_nI (by omega) (by decide)) dX2_mixInto_29 ?_
      refine k_topi (z := S.1 2 k1 i) (by rw [nI_clamp hi31]) ?_
      refine lv_i2l (v := (S.1 2 k1 i).toInt64) hx hb dX2_mixInto_30 rfl ?_
      refine k_callSN (host := "BranchPredictor") (n := 2) (rest := []) ⟨hx, hb, hml, hown, hts⟩ (cX4c_mix l G Z S a1 ((S.1 2 k1 i).toInt64)) ⟨va_cnB 2 hts gX2_mixInto_X4_mix_n32 rfl rfl rfl hN.2.1 (hts (.initialized RX4) (by decide +kernel)) (by decide +kernel) ⟨Nat.le_of_ble_eq_true rfl, Nat.le_of_ble_eq_true rfl⟩, (hts (.static yX4_mix) (by decide +kernel)), trivial⟩ hK hN hZ hA hw (Nat.zero_le _) (Nat.zero_le _) rfl hl.1 rfl (Nat.le_of_ble_eq_true rfl) dX2_mixInto_31 (fun H locs hw => ?_)
      refine W.eq (g2 := F0 m 34 ls [.long ((a1 * (31 : Int64)) + ((S.1 2 k1 i).toInt64))]) rfl ?_
      refine lv_lstore_n (lv' := [(3, .long ((a1 * (31 : Int64)) + ((S.1 2 k1 i).toInt64))), (0, .ref (G.2.2 (1, k1))), (1, .long (z1)), (5, .int (nI i))]) hx hb dX2_mixInto_34 rfl hl (by decide) rfl (fun ls hl => ?_)
      refine lv_iinc (v := nI (i + 1)) (lv' := [(5, .int (nI (i + 1))), (3, .long ((a1 * (31 : Int64)) + ((S.1 2 k1 i).toInt64))), (0, .ref (G.2.2 (1, k1))), (1, .long (z1))]) hx hb dX2_mixInto_35 hl (k := 3) rfl (by rw [← nI_1]; rfl) (by decide) rfl (fun ls hl => ?_)
      refine lv_goto (tgt := 5) hx hb dX2_mixInto_38 (by decide) ?_
      exact ih (i + 1) ((a1 * (31 : Int64)) + ((S.1 2 k1 i).toInt64)) H locs ls (by omega) hw (lv_sub hl [2, 3, 1, 0] rfl) (by rw [(show (lX2_mix k1 (n + 1) i a1 S) = (lX2_mix k1 n (i + 1) ((a1 * (31 : Int64)) + ((S.1 2 k1 i).toInt64)) S) from by rw [lX2_mix])] at kx; exact kx)
  refine hloop_lX2_mix N2 0 z1 H locs ls (by omega) hw (lv_sub hl [2, 3, 1, 0] rfl) (fun H locs ls hw hl => ?_)
  refine lv_lload_n hx hb dX2_mixInto_41 rfl (lv_at hl 2 rfl) ?_
  exact k_lret hx hb hr hlocks hK hw rfl rfl dX2_mixInto_42
def lX4_loopWith (x1 : Int32) : Nat → Nat → uS → Int32
  | 0, i, S => (-1 : Int32)
  | n + 1, i, S => if (S.1 9 i 0) = x1 then nI i
    else (lX4_loopWith x1 n (i + 1) S)
abbrev rmX4_loopWith : Room := { frames := 0, cells := 0, slots := 0, locals := 0 }
set_option maxHeartbeats 4000000 in
set_option maxRecDepth 100000 in
theorem cX4c_loopWith (l : Launch) (G : gG) (Z : va_W) (S : uS) (x1 : Int32) : kMet l yX4_loopWith wsX4_loopWith rmX4_loopWith G kC Z S [.ref (G.2.2 (0, 0)), .int (x1)] (some (.int ((lX4_loopWith x1 8 0 S)))) S := by
  refine kMet_of (cc := cX4_loopWith) (maxL := 3) (ret := (some .int)) (by decide) rfl (Nat.le_of_ble_eq_true rfl) ?_
  intro p e s m below meth c hx hb hr hml hlocks hts hown hK hN A hZ hA H locs hw ls hl
  have hl : lv_has ls 3 [(0, .ref (G.2.2 (0, 0))), (1, .int (x1))] := hl
  have hiX3 : ∀ w ∈ wsX30, w ∈ wsX4_loopWith := by decide +kernel
  have hiX4 : ∀ w ∈ wsX40, w ∈ wsX4_loopWith := by decide +kernel
  refine lv_iconst (v := 0) hx hb dX4_loopWith_0 (by decide) ?_
  refine lv_istore_n (lv' := [(2, .int ((0 : Int32))), (0, .ref (G.2.2 (0, 0))), (1, .int (x1))]) hx hb dX4_loopWith_1 rfl hl (by decide) rfl (fun ls hl => ?_)
  have hloop_lX4_loopWith : ∀ (n i : Nat) (H : Heap) (locs : List Loc) (ls : Array Slot), i + n = 8 → kS G kC S Z A s.heap H locs → lv_has ls 3 [(0, .ref (G.2.2 (0, 0))), (1, .int (x1)), (2, .int (nI i))] → ((some (.int ((lX4_loopWith x1 8 0 S)))) : Option Value) = some (.int ((lX4_loopWith x1 n i S))) → W p l e rmX4_loopWith s m [.ref (G.2.2 (0, 0)), .int (x1)].toArray below meth c H locs 0 0 (MQ below (kQ G kC Z A (some (.int ((lX4_loopWith x1 8 0 S)))) S) [.ref (G.2.2 (0, 0)), .int (x1)].toArray s 0 0 A) (F0 m 2 ls []) := by
    intro n
    induction n with
    | zero =>
      intro i H locs ls hin hw hl kx
      have z_1 : (8 : Int32) ≤ (nI i) := (nI_le (a := 8) (b := i) (by omega) (by omega))
      refine lv_iload_n hx hb dX4_loopWith_2 rfl (lv_at hl 2 rfl) ?_
      refine lv_bipush (v := 8) hx hb dX4_loopWith_3 (by decide) ?_
      refine lv_icmp_ge (tgt := 29) hx hb dX4_loopWith_5 (by decide) (fun _ => ?_) (fun h9 => absurd z_1 h9)
      refine lv_iconst (v := -1) hx hb dX4_loopWith_29 (by decide) ?_
      exact k_iret hx hb hr hlocks hK hw kx rfl dX4_loopWith_30
    | succ n ih =>
      intro i H locs ls hin hw hl kx
      have hi : i < 8 := by omega
      have hi31 : i < 2 ^ 31 := Nat.lt_trans hi (by decide)
      have z_2 : ¬ ((8 : Int32) ≤ (nI i)) := (nI_ge (a := i) (b := 8) hi (by decide))
      refine lv_iload_n hx hb dX4_loopWith_2 rfl (lv_at hl 2 rfl) ?_
      refine lv_bipush (v := 8) hx hb dX4_loopWith_3 (by decide) ?_
      refine lv_icmp_ge (tgt := 29) hx hb dX4_loopWith_5 (by decide) (fun h9 => absurd h9 z_2) (fun _ => ?_)
      refine lv_aload_n hx hb dX4_loopWith_8 rfl (lv_at hl 0 rfl) ?_
      refine g_0_6 hx hb hts hiX4 hown hK hw kC_0 (hts (.fieldLink RX4 40 "BranchPredictor" "loops" "[LBranchPredictor$Loop;") (by decide +kernel)) dX4_loopWith_9 ?_
      refine lv_iload_n hx hb dX4_loopWith_12 rfl (lv_at hl 2 rfl) ?_
      refine ald_6 hx hb hK hw kC_6 (vp_in_nI (by omega) (by decide)) dX4_loopWith_13 ?_
      rw [nI_clamp hi31]
      refine g_9_0 hx hb hts hiX3 hown hK hw (kC_9 (Nat.lt_of_lt_of_le hi (by decide))) (hts (.fieldLink RX4 157 "BranchPredictor$Loop" "place" "I") (by decide +kernel)) dX4_loopWith_14 ?_
      refine lv_iload_n hx hb dX4_loopWith_17 rfl (lv_at hl 1 rfl) ?_
      refine lv_icmp_ne (tgt := 23) hx hb dX4_loopWith_18 (by decide) (fun c_3 => ?_) (fun c_3 => ?_)
      · skip
        refine lv_iinc (v := nI (i + 1)) (lv' := [(2, .int (nI (i + 1))), (0, .ref (G.2.2 (0, 0))), (1, .int (x1))]) hx hb dX4_loopWith_23 hl (k := 2) rfl (by rw [← nI_1]; rfl) (by decide) rfl (fun ls hl => ?_)
        refine lv_goto (tgt := 2) hx hb dX4_loopWith_26 (by decide) ?_
        exact ih (i + 1) H locs ls (by omega) hw (lv_sub hl [1, 2, 0] rfl) (kx.trans (congrArg (fun z : Int32 => some (Value.int (z))) (show (lX4_loopWith x1 (n + 1) i S) = (lX4_loopWith x1 n (i + 1) S) from by rw [lX4_loopWith, if_neg c_3])))
      · skip
        refine lv_iload_n hx hb dX4_loopWith_21 rfl (lv_at hl 2 rfl) ?_
        exact k_iret hx hb hr hlocks hK hw (kx.trans (congrArg (fun z : Int32 => some (Value.int (z))) (show (lX4_loopWith x1 (n + 1) i S) = nI i from by rw [lX4_loopWith, if_pos c_3]))) rfl dX4_loopWith_22
  exact hloop_lX4_loopWith 8 0 H locs ls (by omega) hw (lv_sub hl [1, 2, 0] rfl) rfl
def lX4_number : Nat → Nat → Nat → uS → Int32
  | 0, i, j, S => nI j
  | n + 1, i, j, S => if (fX3_isFree S i) = false then if (S.1 9 j 3) ≤ (S.1 9 i 3) then (lX4_number n (i + 1) j S)
      else (lX4_number n (i + 1) i S)
    else nI i
abbrev rmX4_numberForNewLoop : Room := { frames := 1, cells := 0, slots := 0, locals := 20 }
set_option maxHeartbeats 4000000 in
set_option maxRecDepth 100000 in
theorem cX4c_numberForNewLoop (l : Launch) (G : gG) (Z : va_W) (S : uS)  : kMet l yX4_numberForNewLoop wsX4_numberForNewLoop rmX4_numberForNewLoop G kC Z S [.ref (G.2.2 (0, 0))] (some (.int ((lX4_number 8 0 0 S)))) S := by
  refine kMet_of (cc := cX4_numberForNewLoop) (maxL := 3) (ret := (some .int)) (by decide) rfl (Nat.le_of_ble_eq_true rfl) ?_
  intro p e s m below meth c hx hb hr hml hlocks hts hown hK hN A hZ hA H locs hw ls hl
  have hl : lv_has ls 3 [(0, .ref (G.2.2 (0, 0)))] := hl
  have hiX3 : ∀ w ∈ wsX30, w ∈ wsX4_numberForNewLoop := by decide +kernel
  have hiX4 : ∀ w ∈ wsX40, w ∈ wsX4_numberForNewLoop := by decide +kernel
  refine lv_iconst (v := 0) hx hb dX4_numberForNewLoop_0 (by decide) ?_
  refine lv_istore_n (lv' := [(1, .int ((0 : Int32))), (0, .ref (G.2.2 (0, 0)))]) hx hb dX4_numberForNewLoop_1 rfl hl (by decide) rfl (fun ls hl => ?_)
  refine lv_iconst (v := 0) hx hb dX4_numberForNewLoop_2 (by decide) ?_
  refine lv_istore_n (lv' := [(2, .int ((0 : Int32))), (1, .int ((0 : Int32))), (0, .ref (G.2.2 (0, 0)))]) hx hb dX4_numberForNewLoop_3 rfl hl (by decide) rfl (fun ls hl => ?_)
  have hloop_lX4_number : ∀ (n i : Nat) (j : Nat) (H : Heap) (locs : List Loc) (ls : Array Slot), i + n = 8 → j < 8 → kS G kC S Z A s.heap H locs → lv_has ls 3 [(0, .ref (G.2.2 (0, 0))), (1, .int (nI j)), (2, .int (nI i))] → ((some (.int ((lX4_number 8 0 0 S)))) : Option Value) = some (.int ((lX4_number n i j S))) → W p l e rmX4_numberForNewLoop s m [.ref (G.2.2 (0, 0))].toArray below meth c H locs 0 0 (MQ below (kQ G kC Z A (some (.int ((lX4_number 8 0 0 S)))) S) [.ref (G.2.2 (0, 0))].toArray s 0 0 A) (F0 m 4 ls []) := by
    intro n
    induction n with
    | zero =>
      intro i j H locs ls hin h_j hw hl kx
      have z_1 : (8 : Int32) ≤ (nI i) := (nI_le (a := 8) (b := i) (by omega) (by omega))
      refine lv_iload_n hx hb dX4_numberForNewLoop_4 rfl (lv_at hl 2 rfl) ?_
      refine lv_bipush (v := 8) hx hb dX4_numberForNewLoop_5 (by decide) ?_
      refine lv_icmp_ge (tgt := 53) hx hb dX4_numberForNewLoop_7 (by decide) (fun _ => ?_) (fun h9 => absurd z_1 h9)
      refine lv_iload_n hx hb dX4_numberForNewLoop_53 rfl (lv_at hl 1 rfl) ?_
      exact k_iret hx hb hr hlocks hK hw kx rfl dX4_numberForNewLoop_54
    | succ n ih =>
      intro i j H locs ls hin h_j hw hl kx
      have hi : i < 8 := by omega
      have hi31 : i < 2 ^ 31 := Nat.lt_trans hi (by decide)
      have z_2 : ¬ ((8 : Int32) ≤ (nI i)) := (nI_ge (a := i) (b := 8) hi (by decide))
      refine lv_iload_n hx hb dX4_numberForNewLoop_4 rfl (lv_at hl 2 rfl) ?_
      refine lv_bipush (v := 8) hx hb dX4_numberForNewLoop_5 (by decide) ?_
      refine lv_icmp_ge (tgt := 53) hx hb dX4_numberForNewLoop_7 (by decide) (fun h9 => absurd h9 z_2) (fun _ => ?_)
      refine lv_aload_n hx hb dX4_numberForNewLoop_10 rfl (lv_at hl 0 rfl) ?_
      refine g_0_6 hx hb hts hiX4 hown hK hw kC_0 (hts (.fieldLink RX4 40 "BranchPredictor" "loops" "[LBranchPredictor$Loop;") (by decide +kernel)) dX4_numberForNewLoop_11 ?_
      refine lv_iload_n hx hb dX4_numberForNewLoop_14 rfl (lv_at hl 2 rfl) ?_
      refine ald_6 hx hb hK hw kC_6 (vp_in_nI (by omega) (by decide)) dX4_numberForNewLoop_15 ?_
      rw [nI_clamp hi31]
      refine k_callV (C := RX3) (n := 0) (rest := []) ⟨hx, hb, hml, hown, hts⟩ (cX3c_isFree l G Z S i (Nat.lt_of_lt_of_le hi (by decide))) (cwV 0 hts gX4_numberForNewLoop_X3_isFree rfl rfl rfl (by decide +kernel) ⟨Nat.le_of_ble_eq_true rfl, Nat.le_of_ble_eq_true rfl⟩) (k_recv hK hw (kC_9 (Nat.lt_of_lt_of_le hi (by decide))) rfl rfl) hK hN hZ hA hw (Nat.zero_le _) (Nat.zero_le _) rfl hl.1 rfl (Nat.le_of_ble_eq_true rfl) dX4_numberForNewLoop_16 (fun H locs hw => ?_)
      refine W.eq (g2 := F0 m 19 ls [.int (bI ((fX3_isFree S i)))]) rfl ?_
      refine k_if_eq (b := (fX3_isFree S i)) (tgt := 24) hx hb dX4_numberForNewLoop_19 (by decide) (fun c_3 => ?_) (fun c_3 => ?_)
      · skip
        refine lv_aload_n hx hb dX4_numberForNewLoop_24 rfl (lv_at hl 0 rfl) ?_
        refine g_0_6 hx hb hts hiX4 hown hK hw kC_0 (hts (.fieldLink RX4 40 "BranchPredictor" "loops" "[LBranchPredictor$Loop;") (by decide +kernel)) dX4_numberForNewLoop_25 ?_
        refine lv_iload_n hx hb dX4_numberForNewLoop_28 rfl (lv_at hl 2 rfl) ?_
        refine ald_6 hx hb hK hw kC_6 (vp_in_nI (by omega) (by decide)) dX4_numberForNewLoop_29 ?_
        rw [nI_clamp hi31]
        refine g_9_3 hx hb hts hiX3 hown hK hw (kC_9 (Nat.lt_of_lt_of_le hi (by decide))) (hts (.fieldLink RX4 164 "BranchPredictor$Loop" "trust" "I") (by decide +kernel)) dX4_numberForNewLoop_30 ?_
        refine lv_aload_n hx hb dX4_numberForNewLoop_33 rfl (lv_at hl 0 rfl) ?_
        refine g_0_6 hx hb hts hiX4 hown hK hw kC_0 (hts (.fieldLink RX4 40 "BranchPredictor" "loops" "[LBranchPredictor$Loop;") (by decide +kernel)) dX4_numberForNewLoop_34 ?_
        refine lv_iload_n hx hb dX4_numberForNewLoop_37 rfl (lv_at hl 1 rfl) ?_
        refine ald_6 hx hb hK hw kC_6 (vp_in_nI (by omega) (by decide)) dX4_numberForNewLoop_38 ?_
        rw [nI_clamp (by omega)]
        refine g_9_3 hx hb hts hiX3 hown hK hw (kC_9 (by omega)) (hts (.fieldLink RX4 164 "BranchPredictor$Loop" "trust" "I") (by decide +kernel)) dX4_numberForNewLoop_39 ?_
        refine lv_icmp_ge (tgt := 47) hx hb dX4_numberForNewLoop_42 (by decide) (fun c_4 => ?_) (fun c_4 => ?_)
        · skip
          refine lv_iinc (v := nI (i + 1)) (lv' := [(2, .int (nI (i + 1))), (0, .ref (G.2.2 (0, 0))), (1, .int (nI j))]) hx hb dX4_numberForNewLoop_47 hl (k := 2) rfl (by rw [← nI_1]; rfl) (by decide) rfl (fun ls hl => ?_)
          refine lv_goto (tgt := 4) hx hb dX4_numberForNewLoop_50 (by decide) ?_
          exact ih (i + 1) j H locs ls (by omega) (by omega) hw (lv_sub hl [1, 2, 0] rfl) (kx.trans (congrArg (fun z : Int32 => some (Value.int (z))) (show (lX4_number (n + 1) i j S) = (lX4_number n (i + 1) j S) from by rw [lX4_number, if_pos c_3, if_pos c_4])))
        · skip
          refine lv_iload_n hx hb dX4_numberForNewLoop_45 rfl (lv_at hl 2 rfl) ?_
          refine lv_istore_n (lv' := [(1, .int (nI i)), (0, .ref (G.2.2 (0, 0))), (2, .int (nI i))]) hx hb dX4_numberForNewLoop_46 rfl hl (by decide) rfl (fun ls hl => ?_)
          refine lv_iinc (v := nI (i + 1)) (lv' := [(2, .int (nI (i + 1))), (1, .int (nI i)), (0, .ref (G.2.2 (0, 0)))]) hx hb dX4_numberForNewLoop_47 hl (k := 2) rfl (by rw [← nI_1]; rfl) (by decide) rfl (fun ls hl => ?_)
          refine lv_goto (tgt := 4) hx hb dX4_numberForNewLoop_50 (by decide) ?_
          exact ih (i + 1) i H locs ls (by omega) (by omega) hw (lv_sub hl [2, 1, 0] rfl) (kx.trans (congrArg (fun z : Int32 => some (Value.int (z))) (show (lX4_number (n + 1) i j S) = (lX4_number n (i + 1) i S) from by rw [lX4_number, if_pos c_3, if_neg c_4])))
      · skip
        refine lv_iload_n hx hb dX4_numberForNewLoop_22 rfl (lv_at hl 2 rfl) ?_
        exact k_iret hx hb hr hlocks hK hw (kx.trans (congrArg (fun z : Int32 => some (Value.int (z))) (show (lX4_number (n + 1) i j S) = nI i from by rw [lX4_number, if_neg c_3]))) rfl dX4_numberForNewLoop_23
  exact hloop_lX4_number 8 0 0 H locs ls (by omega) (by omega) hw (lv_sub hl [2, 1, 0] rfl) rfl
def lX4_presumed (k4 : Nat) : Nat → Nat → Int32 → uS → Int32
  | 0, i, a1, S => (a1)
  | n + 1, i, a1, S => if (S.1 8 (fIx S (nI i)) 0) = (S.1 9 k4 0) then (lX4_presumed k4 n (i + 1) (if (fX1_isPresumedTaken S (fIx S (nI i))) = false then (0 : Int32) else a1 + (1 : Int32)) S)
    else (lX4_presumed k4 n (i + 1) a1 S)
abbrev rmX4_presumedCount : Room := { frames := 1, cells := 0, slots := 0, locals := 21 }
set_option maxHeartbeats 4000000 in
set_option maxRecDepth 100000 in
theorem cX4c_presumedCount (l : Launch) (G : gG) (Z : va_W) (S : uS) (k4 : Nat) (h_k4 : k4 < 8) (N1 : Nat) (h_N1 : S.1 0 0 13 = nI N1) (h_N1b : N1 < 2 ^ 31) : kMet l yX4_presumedCount wsX4_presumedCount rmX4_presumedCount G kC Z S [.ref (G.2.2 (0, 0)), .ref (G.2.2 (9, k4))] (some (.int ((lX4_presumed k4 N1 0 (S.1 9 k4 1) S)))) S := by
  refine kMet_of (cc := cX4_presumedCount) (maxL := 5) (ret := (some .int)) (by decide) rfl (Nat.le_of_ble_eq_true rfl) ?_
  intro p e s m below meth c hx hb hr hml hlocks hts hown hK hN A hZ hA H locs hw ls hl
  have hl : lv_has ls 5 [(0, .ref (G.2.2 (0, 0))), (1, .ref (G.2.2 (9, k4)))] := hl
  have hiX1 : ∀ w ∈ wsX10, w ∈ wsX4_presumedCount := by decide +kernel
  have hiX3 : ∀ w ∈ wsX30, w ∈ wsX4_presumedCount := by decide +kernel
  have hiX4 : ∀ w ∈ wsX40, w ∈ wsX4_presumedCount := by decide +kernel
  refine lv_aload_n hx hb dX4_presumedCount_0 rfl (lv_at hl 1 rfl) ?_
  refine g_9_1 hx hb hts hiX3 hown hK hw (kC_9 h_k4) (hts (.fieldLink RX4 158 "BranchPredictor$Loop" "count" "I") (by decide +kernel)) dX4_presumedCount_1 ?_
  refine lv_istore_n (lv' := [(2, .int (S.1 9 k4 1)), (0, .ref (G.2.2 (0, 0))), (1, .ref (G.2.2 (9, k4)))]) hx hb dX4_presumedCount_4 rfl hl (by decide) rfl (fun ls hl => ?_)
  refine lv_iconst (v := 0) hx hb dX4_presumedCount_5 (by decide) ?_
  refine lv_istore_n (lv' := [(3, .int ((0 : Int32))), (2, .int (S.1 9 k4 1)), (0, .ref (G.2.2 (0, 0))), (1, .ref (G.2.2 (9, k4)))]) hx hb dX4_presumedCount_6 rfl hl (by decide) rfl (fun ls hl => ?_)
  have hloop_lX4_presumed : ∀ (n i : Nat) (a1 : Int32) (H : Heap) (locs : List Loc) (ls : Array Slot), i + n = N1 → kS G kC S Z A s.heap H locs → lv_has ls 5 [(0, .ref (G.2.2 (0, 0))), (1, .ref (G.2.2 (9, k4))), (2, .int (a1)), (3, .int (nI i))] → (∀ (H : Heap) (locs : List Loc) (ls : Array Slot), kS G kC S Z A s.heap H locs → lv_has ls 5 [(0, .ref (G.2.2 (0, 0))), (1, .ref (G.2.2 (9, k4))), (2, .int ((lX4_presumed k4 n i a1 S))), (3, .int (nI N1))] → W p l e rmX4_presumedCount s m [.ref (G.2.2 (0, 0)), .ref (G.2.2 (9, k4))].toArray below meth c H locs 0 0 (MQ below (kQ G kC Z A (some (.int ((lX4_presumed k4 N1 0 (S.1 9 k4 1) S)))) S) [.ref (G.2.2 (0, 0)), .ref (G.2.2 (9, k4))].toArray s 0 0 A) (F0 m 56 ls [])) → W p l e rmX4_presumedCount s m [.ref (G.2.2 (0, 0)), .ref (G.2.2 (9, k4))].toArray below meth c H locs 0 0 (MQ below (kQ G kC Z A (some (.int ((lX4_presumed k4 N1 0 (S.1 9 k4 1) S)))) S) [.ref (G.2.2 (0, 0)), .ref (G.2.2 (9, k4))].toArray s 0 0 A) (F0 m 7 ls []) := by
    intro n
    induction n with
    | zero =>
      intro i a1 H locs ls hin hw hl kx
      have z_1 : (nI N1) ≤ (nI i) := (nI_le (a := N1) (b := i) (by omega) (by omega))
      refine lv_iload_n hx hb dX4_presumedCount_7 rfl (lv_at hl 3 rfl) ?_
      refine lv_aload_n hx hb dX4_presumedCount_8 rfl (lv_at hl 0 rfl) ?_
      refine g_0_13 hx hb hts hiX4 hown hK hw kC_0 (hts (.fieldLink RX4 79 "BranchPredictor" "flying" "I") (by decide +kernel)) dX4_presumedCount_9 ?_
      refine k_topi (z := nI N1) (h_N1) ?_
      refine lv_icmp_ge (tgt := 56) hx hb dX4_presumedCount_12 (by decide) (fun _ => ?_) (fun h9 => absurd z_1 h9)
      have hin : i = N1 := hin
      subst hin
      exact kx H locs ls hw (lv_sub hl [0, 1, 2, 3] rfl)
    | succ n ih =>
      intro i a1 H locs ls hin hw hl kx
      have hi : i < N1 := by omega
      have hi31 : i < 2 ^ 31 := Nat.lt_trans hi h_N1b
      have z_2 : ¬ ((nI N1) ≤ (nI i)) := (nI_ge (a := i) (b := N1) hi (by omega))
      refine lv_iload_n hx hb dX4_presumedCount_7 rfl (lv_at hl 3 rfl) ?_
      refine lv_aload_n hx hb dX4_presumedCount_8 rfl (lv_at hl 0 rfl) ?_
      refine g_0_13 hx hb hts hiX4 hown hK hw kC_0 (hts (.fieldLink RX4 79 "BranchPredictor" "flying" "I") (by decide +kernel)) dX4_presumedCount_9 ?_
      refine k_topi (z := nI N1) (h_N1) ?_
      refine lv_icmp_ge (tgt := 56) hx hb dX4_presumedCount_12 (by decide) (fun h9 => absurd h9 z_2) (fun _ => ?_)
      refine lv_aload_n hx hb dX4_presumedCount_15 rfl (lv_at hl 0 rfl) ?_
      refine lv_iload_n hx hb dX4_presumedCount_16 rfl (lv_at hl 3 rfl) ?_
      refine k_callV (C := RX4) (n := 1) (rest := []) ⟨hx, hb, hml, hown, hts⟩ (cX4c_branchAt l G Z S (nI i)) (cwV 1 hts gX4_presumedCount_X4_branchAt rfl rfl rfl (by decide +kernel) ⟨Nat.le_of_ble_eq_true rfl, Nat.le_of_ble_eq_true rfl⟩) (k_recv hK hw kC_0 rfl rfl) hK hN hZ hA hw (Nat.zero_le _) (Nat.zero_le _) rfl hl.1 rfl (Nat.le_of_ble_eq_true rfl) dX4_presumedCount_17 (fun H locs hw => ?_)
      refine W.eq (g2 := F0 m 20 ls [.ref (G.2.2 (8, (fIx S (nI i))))]) rfl ?_
      refine lv_astore (lv' := [(4, .ref (G.2.2 (8, (fIx S (nI i))))), (0, .ref (G.2.2 (0, 0))), (1, .ref (G.2.2 (9, k4))), (2, .int (a1)), (3, .int (nI i))]) hx hb dX4_presumedCount_20 hl (by decide) rfl (fun ls hl => ?_)
      refine lv_aload hx hb dX4_presumedCount_22 (lv_at hl 0 rfl) ?_
      refine g_8_0 hx hb hts hiX1 hown hK hw (kC_8 (fIx_lt S (nI i))) (hts (.fieldLink RX4 126 "BranchPredictor$Branch" "place" "I") (by decide +kernel)) dX4_presumedCount_24 ?_
      refine lv_aload_n hx hb dX4_presumedCount_27 rfl (lv_at hl 2 rfl) ?_
      refine g_9_0 hx hb hts hiX3 hown hK hw (kC_9 h_k4) (hts (.fieldLink RX4 157 "BranchPredictor$Loop" "place" "I") (by decide +kernel)) dX4_presumedCount_28 ?_
      refine lv_icmp_ne (tgt := 50) hx hb dX4_presumedCount_31 (by decide) (fun c_3 => ?_) (fun c_3 => ?_)
      · skip
        refine lv_iinc (v := nI (i + 1)) (lv' := [(3, .int (nI (i + 1))), (4, .ref (G.2.2 (8, (fIx S (nI i))))), (0, .ref (G.2.2 (0, 0))), (1, .ref (G.2.2 (9, k4))), (2, .int (a1))]) hx hb dX4_presumedCount_50 hl (k := 4) rfl (by rw [← nI_1]; rfl) (by decide) rfl (fun ls hl => ?_)
        refine lv_goto (tgt := 7) hx hb dX4_presumedCount_53 (by decide) ?_
        exact ih (i + 1) a1 H locs ls (by omega) hw (lv_sub hl [2, 3, 4, 0] rfl) (by rw [(show (lX4_presumed k4 (n + 1) i a1 S) = (lX4_presumed k4 n (i + 1) a1 S) from by rw [lX4_presumed, if_neg c_3])] at kx; exact kx)
      · skip
        refine lv_aload hx hb dX4_presumedCount_34 (lv_at hl 0 rfl) ?_
        refine k_callV (C := RX1) (n := 0) (rest := []) ⟨hx, hb, hml, hown, hts⟩ (cX1c_isPresumedTaken l G Z S (fIx S (nI i)) (fIx_lt S (nI i))) (cwV 0 hts gX4_presumedCount_X1_isPresumedTaken rfl rfl rfl (by decide +kernel) ⟨Nat.le_of_ble_eq_true rfl, Nat.le_of_ble_eq_true rfl⟩) (k_recv hK hw (kC_8 (fIx_lt S (nI i))) rfl rfl) hK hN hZ hA hw (Nat.zero_le _) (Nat.zero_le _) rfl hl.1 rfl (Nat.le_of_ble_eq_true rfl) dX4_presumedCount_36 (fun H locs hw => ?_)
        refine W.eq (g2 := F0 m 39 ls [.int (bI ((fX1_isPresumedTaken S (fIx S (nI i)))))]) rfl ?_
        refine k_join (P := fun x9 : Int32 => W p l e rmX4_presumedCount s m [.ref (G.2.2 (0, 0)), .ref (G.2.2 (9, k4))].toArray below meth c H locs 0 0 (MQ below (kQ G kC Z A (some (.int ((lX4_presumed k4 N1 0 (S.1 9 k4 1) S)))) S) [.ref (G.2.2 (0, 0)), .ref (G.2.2 (9, k4))].toArray s 0 0 A) (F0 m 49 ls [.int (x9)])) (C := (fX1_isPresumedTaken S (fIx S (nI i))) = false) (a := (0 : Int32)) (b := a1 + (1 : Int32)) ?_ (fun ka kb => ?_)
        rotate_left
        · refine k_if_eq (b := (fX1_isPresumedTaken S (fIx S (nI i)))) (tgt := 48) hx hb dX4_presumedCount_39 (by decide) (fun c_4 => ?_) (fun c_4 => ?_)
          · skip
            refine lv_iconst (v := 0) hx hb dX4_presumedCount_48 (by decide) ?_
            exact ka c_4
          · skip
            refine lv_iload_n hx hb dX4_presumedCount_42 rfl (lv_at hl 3 rfl) ?_
            refine lv_iconst (v := 1) hx hb dX4_presumedCount_43 (by decide) ?_
            refine lv_iadd hx hb dX4_presumedCount_44 ?_
            refine lv_goto (tgt := 49) hx hb dX4_presumedCount_45 (by decide) ?_
            exact kb c_4
        show W p l e rmX4_presumedCount s m [.ref (G.2.2 (0, 0)), .ref (G.2.2 (9, k4))].toArray below meth c H locs 0 0 (MQ below (kQ G kC Z A (some (.int ((lX4_presumed k4 N1 0 (S.1 9 k4 1) S)))) S) [.ref (G.2.2 (0, 0)), .ref (G.2.2 (9, k4))].toArray s 0 0 A) (F0 m 49 ls [.int (if (fX1_isPresumedTaken S (fIx S (nI i))) = false then (0 : Int32) else a1 + (1 : Int32))])
        refine lv_istore_n (lv' := [(2, .int (if (fX1_isPresumedTaken S (fIx S (nI i))) = false then (0 : Int32) else a1 + (1 : Int32))), (4, .ref (G.2.2 (8, (fIx S (nI i))))), (0, .ref (G.2.2 (0, 0))), (1, .ref (G.2.2 (9, k4))), (3, .int (nI i))]) hx hb dX4_presumedCount_49 rfl hl (by decide) rfl (fun ls hl => ?_)
        refine lv_iinc (v := nI (i + 1)) (lv' := [(3, .int (nI (i + 1))), (2, .int (if (fX1_isPresumedTaken S (fIx S (nI i))) = false then (0 : Int32) else a1 + (1 : Int32))), (4, .ref (G.2.2 (8, (fIx S (nI i))))), (0, .ref (G.2.2 (0, 0))), (1, .ref (G.2.2 (9, k4)))]) hx hb dX4_presumedCount_50 hl (k := 4) rfl (by rw [← nI_1]; rfl) (by decide) rfl (fun ls hl => ?_)
        refine lv_goto (tgt := 7) hx hb dX4_presumedCount_53 (by decide) ?_
        exact ih (i + 1) (if (fX1_isPresumedTaken S (fIx S (nI i))) = false then (0 : Int32) else a1 + (1 : Int32)) H locs ls (by omega) hw (lv_sub hl [3, 4, 1, 0] rfl) (by rw [(show (lX4_presumed k4 (n + 1) i a1 S) = (lX4_presumed k4 n (i + 1) (if (fX1_isPresumedTaken S (fIx S (nI i))) = false then (0 : Int32) else a1 + (1 : Int32)) S) from by rw [lX4_presumed, if_pos c_3])] at kx; exact kx)
  refine hloop_lX4_presumed N1 0 (S.1 9 k4 1) H locs ls (by omega) hw (lv_sub hl [2, 3, 1, 0] rfl) (fun H locs ls hw hl => ?_)
  refine lv_iload_n hx hb dX4_presumedCount_56 rfl (lv_at hl 2 rfl) ?_
  exact k_iret hx hb hr hlocks hK hw rfl rfl dX4_presumedCount_57
def lX4_count (k3 : Nat) (b1 : Bool) : Nat → Nat → uS → uS
  | 0, i, S1 => (S1)
  | n + 1, i, S1 => if (fX1_saidTaken S1 k3 (nI i)) = b1 then (lX4_count k3 b1 n (i + 1) S1)
    else (lX4_count k3 b1 n (i + 1) (uL S1 7 0 i ((S1.2.1 7 0 i) + (1 : Int64))))
abbrev rmX4_countMisses : Room := { frames := 1, cells := 0, slots := 0, locals := 21 }
set_option maxHeartbeats 4000000 in
set_option maxRecDepth 100000 in
theorem cX4c_countMisses (l : Launch) (G : gG) (Z : va_W) (S : uS) (k3 : Nat) (h_k3 : k3 < 16) (b1 : Bool) : kMet l yX4_countMisses wsX4_countMisses rmX4_countMisses G kC Z S [.ref (G.2.2 (0, 0)), .ref (G.2.2 (8, k3)), .int (bI (b1))] none (lX4_count k3 b1 4 0 S) := by
  refine kMet_of (cc := cX4_countMisses) (maxL := 4) (ret := none) (by decide) rfl (Nat.le_of_ble_eq_true rfl) ?_
  intro p e s m below meth c hx hb hr hml hlocks hts hown hK hN A hZ hA H locs hw ls hl
  have hl : lv_has ls 4 [(0, .ref (G.2.2 (0, 0))), (1, .ref (G.2.2 (8, k3))), (2, .int (bI (b1)))] := hl
  have hiX4 : ∀ w ∈ wsX40, w ∈ wsX4_countMisses := by decide +kernel
  refine lv_iconst (v := 0) hx hb dX4_countMisses_0 (by decide) ?_
  refine lv_istore_n (lv' := [(3, .int ((0 : Int32))), (0, .ref (G.2.2 (0, 0))), (1, .ref (G.2.2 (8, k3))), (2, .int (bI (b1)))]) hx hb dX4_countMisses_1 rfl hl (by decide) rfl (fun ls hl => ?_)
  have hloop_lX4_count : ∀ (n i : Nat) (S1 : uS) (H : Heap) (locs : List Loc) (ls : Array Slot), i + n = 4 → kS G kC S1 Z A s.heap H locs → lv_has ls 4 [(0, .ref (G.2.2 (0, 0))), (1, .ref (G.2.2 (8, k3))), (2, .int (bI (b1))), (3, .int (nI i))] → (∀ (H : Heap) (locs : List Loc) (ls : Array Slot), kS G kC (lX4_count k3 b1 n i S1) Z A s.heap H locs → lv_has ls 4 [(0, .ref (G.2.2 (0, 0))), (1, .ref (G.2.2 (8, k3))), (2, .int (bI (b1))), (3, .int (nI 4))] → W p l e rmX4_countMisses s m [.ref (G.2.2 (0, 0)), .ref (G.2.2 (8, k3)), .int (bI (b1))].toArray below meth c H locs 0 0 (MQ below (kQ G kC Z A none (lX4_count k3 b1 4 0 S)) [.ref (G.2.2 (0, 0)), .ref (G.2.2 (8, k3)), .int (bI (b1))].toArray s 0 0 A) (F0 m 32 ls [])) → W p l e rmX4_countMisses s m [.ref (G.2.2 (0, 0)), .ref (G.2.2 (8, k3)), .int (bI (b1))].toArray below meth c H locs 0 0 (MQ below (kQ G kC Z A none (lX4_count k3 b1 4 0 S)) [.ref (G.2.2 (0, 0)), .ref (G.2.2 (8, k3)), .int (bI (b1))].toArray s 0 0 A) (F0 m 2 ls []) := by
    intro n
    induction n with
    | zero =>
      intro i S1 H locs ls hin hw hl kx
      have z_1 : (4 : Int32) ≤ (nI i) := (nI_le (a := 4) (b := i) (by omega) (by omega))
      refine lv_iload_n hx hb dX4_countMisses_2 rfl (lv_at hl 3 rfl) ?_
      refine lv_iconst (v := 4) hx hb dX4_countMisses_3 (by decide) ?_
      refine lv_icmp_ge (tgt := 32) hx hb dX4_countMisses_4 (by decide) (fun _ => ?_) (fun h9 => absurd z_1 h9)
      have hin : i = 4 := hin
      rw [hin] at hl
      exact kx H locs ls hw (lv_sub hl [0, 1, 2, 3] rfl)
    | succ n ih =>
      intro i S1 H locs ls hin hw hl kx
      have hi : i < 4 := by omega
      have hi31 : i < 2 ^ 31 := Nat.lt_trans hi (by decide)
      have z_2 : ¬ ((4 : Int32) ≤ (nI i)) := (nI_ge (a := i) (b := 4) hi (by decide))
      refine lv_iload_n hx hb dX4_countMisses_2 rfl (lv_at hl 3 rfl) ?_
      refine lv_iconst (v := 4) hx hb dX4_countMisses_3 (by decide) ?_
      refine lv_icmp_ge (tgt := 32) hx hb dX4_countMisses_4 (by decide) (fun h9 => absurd h9 z_2) (fun _ => ?_)
      refine lv_aload_n hx hb dX4_countMisses_7 rfl (lv_at hl 1 rfl) ?_
      refine lv_iload_n hx hb dX4_countMisses_8 rfl (lv_at hl 3 rfl) ?_
      refine k_callV (C := RX1) (n := 1) (rest := []) ⟨hx, hb, hml, hown, hts⟩ (cX1c_saidTaken l G Z S1 k3 h_k3 (nI i)) (cwV 1 hts gX4_countMisses_X1_saidTaken rfl rfl rfl (by decide +kernel) ⟨Nat.le_of_ble_eq_true rfl, Nat.le_of_ble_eq_true rfl⟩) (k_recv hK hw (kC_8 h_k3) rfl rfl) hK hN hZ hA hw (Nat.zero_le _) (Nat.zero_le _) rfl hl.1 rfl (Nat.le_of_ble_eq_true rfl) dX4_countMisses_9 (fun H locs hw => ?_)
      refine W.eq (g2 := F0 m 12 ls [.int (bI ((fX1_saidTaken S1 k3 (nI i))))]) rfl ?_
      refine lv_iload_n hx hb dX4_countMisses_12 rfl (lv_at hl 2 rfl) ?_
      refine k_icmp_eq (a := (fX1_saidTaken S1 k3 (nI i))) (b := b1) (tgt := 26) hx hb dX4_countMisses_13 (by decide) (fun c_3 => ?_) (fun c_3 => ?_)
      · skip
        refine lv_iinc (v := nI (i + 1)) (lv' := [(3, .int (nI (i + 1))), (0, .ref (G.2.2 (0, 0))), (1, .ref (G.2.2 (8, k3))), (2, .int (bI (b1)))]) hx hb dX4_countMisses_26 hl (k := 3) rfl (by rw [← nI_1]; rfl) (by decide) rfl (fun ls hl => ?_)
        refine lv_goto (tgt := 2) hx hb dX4_countMisses_29 (by decide) ?_
        exact ih (i + 1) S1 H locs ls (by omega) hw (lv_sub hl [1, 2, 3, 0] rfl) (by rw [(show (lX4_count k3 b1 (n + 1) i S1) = (lX4_count k3 b1 n (i + 1) S1) from by rw [lX4_count, if_pos c_3])] at kx; exact kx)
      · skip
        refine lv_aload_n hx hb dX4_countMisses_16 rfl (lv_at hl 0 rfl) ?_
        refine g_0_7 hx hb hts hiX4 hown hK hw kC_0 (hts (.fieldLink RX4 44 "BranchPredictor" "missed" "[J") (by decide +kernel)) dX4_countMisses_17 ?_
        refine lv_iload_n hx hb dX4_countMisses_20 rfl (lv_at hl 3 rfl) ?_
        refine lv_dup2_11 hx hb dX4_countMisses_21 rfl rfl ?_
        refine ld_7_0 hx hb hK hw kC_7 (vp_in_nI (by omega) (by decide)) dX4_countMisses_22 ?_
        refine k_topl (z := S1.2.1 7 0 i) (by rw [nI_clamp hi31]) ?_
        refine lv_lconst (v := 1) hx hb dX4_countMisses_23 (by decide) ?_
        refine lv_ladd hx hb dX4_countMisses_24 ?_
        refine st_7_0 (x := (S1.2.1 7 0 i) + (1 : Int64)) hx hb hK hw kC_7 (vp_in_nI (by omega) (by decide)) dX4_countMisses_25 (fun H locs hw => ?_)
        rw [nI_clamp hi31] at hw
        refine lv_iinc (v := nI (i + 1)) (lv' := [(3, .int (nI (i + 1))), (0, .ref (G.2.2 (0, 0))), (1, .ref (G.2.2 (8, k3))), (2, .int (bI (b1)))]) hx hb dX4_countMisses_26 hl (k := 3) rfl (by rw [← nI_1]; rfl) (by decide) rfl (fun ls hl => ?_)
        refine lv_goto (tgt := 2) hx hb dX4_countMisses_29 (by decide) ?_
        exact ih (i + 1) (uL S1 7 0 i ((S1.2.1 7 0 i) + (1 : Int64))) H locs ls (by omega) hw (lv_sub hl [1, 2, 3, 0] rfl) (by rw [(show (lX4_count k3 b1 (n + 1) i S1) = (lX4_count k3 b1 n (i + 1) (uL S1 7 0 i ((S1.2.1 7 0 i) + (1 : Int64)))) from by rw [lX4_count, if_neg c_3])] at kx; exact kx)
  refine hloop_lX4_count 4 0 S H locs ls (by omega) hw (lv_sub hl [1, 2, 3, 0] rfl) (fun H locs ls hw hl => ?_)
  exact k_vret hx hb hr hlocks hK hw rfl rfl dX4_countMisses_32
end
section
theorem lW_at (x : Int32) (S : uS) : ∀ n i : Nat, i + n = 8 → lX4_loopWith x n i S = -1 ∨ ∃ j : Nat, j < 8 ∧ i ≤ j ∧ lX4_loopWith x n i S = nI j ∧ S.1 9 j 0 = x := by
  intro n
  induction n with
  | zero => intro i _; exact Or.inl rfl
  | succ n ih =>
    intro i h
    by_cases c : S.1 9 i 0 = x
    · exact Or.inr ⟨i, by omega, Nat.le_refl _, by rw [lX4_loopWith, if_pos c], c⟩
    · rcases ih (i + 1) (by omega) with h1 | ⟨j, h1, h2, h3, h4⟩
      · exact Or.inl (by rw [lX4_loopWith, if_neg c]; exact h1)
      · exact Or.inr ⟨j, h1, by omega, by rw [lX4_loopWith, if_neg c]; exact h3, h4⟩
theorem lW_in {x : Int32} {S : uS} (h : ¬ lX4_loopWith x 8 0 S < 0) : vp_in (lX4_loopWith x 8 0 S) 8 := by
  rcases lW_at x S 8 0 rfl with h1 | ⟨j, h1, -, h3, -⟩
  · exact absurd (by rw [h1]; decide) h
  · rw [h3]; exact vp_in_nI h1 (by decide)
theorem lN_at (S : uS) : ∀ n i j : Nat, i + n = 8 → j < 8 → ∃ k : Nat, k < 8 ∧ lX4_number n i j S = nI k := by
  intro n
  induction n with
  | zero => intro i j _ hj; exact ⟨j, hj, rfl⟩
  | succ n ih =>
    intro i j h hj
    rw [lX4_number]
    split
    · split
      · exact ih (i + 1) j (by omega) hj
      · exact ih (i + 1) i (by omega) (by omega)
    · exact ⟨i, by omega, rfl⟩
theorem lN_in (S : uS) : vp_in (lX4_number 8 0 0 S) 8 := by
  obtain ⟨k, h1, h2⟩ := lN_at S 8 0 0 rfl (by decide)
  rw [h2]; exact vp_in_nI h1 (by decide)
theorem lX4_count_1 (k : Nat) (b : Bool) : ∀ (n i : Nat) (S : uS), (lX4_count k b n i S).1 = S.1 := by
  intro n
  induction n with
  | zero => intro i S; rfl
  | succ n ih => intro i S; rw [lX4_count]; split <;> rw [ih] <;> rfl
theorem lX4_count_F (k : Nat) (b : Bool) : ∀ (n i : Nat) (S : uS), (lX4_count k b n i S).2.2 = S.2.2 := by
  intro n
  induction n with
  | zero => intro i S; rfl
  | succ n ih => intro i S; rw [lX4_count]; split <;> rw [ih] <;> rfl
theorem lX4_count_L (k : Nat) (b : Bool) {a : Nat} (h : a ≠ 7) : ∀ (n i : Nat) (S : uS), (lX4_count k b n i S).2.1 a = S.2.1 a := by
  intro n
  induction n with
  | zero => intro i S; rfl
  | succ n ih =>
    intro i S
    rw [lX4_count]
    split <;> rw [ih]
    funext y z
    simp [uL, h]
theorem fX2_move_2 (S : uS) (k : Nat) (x : Int32) (b : Bool) : (fX2_move S k x b).2 = S.2 := by unfold fX2_move; split <;> rfl
theorem fX2_move_I (S : uS) (k : Nat) (x : Int32) (b : Bool) {a : Nat} (h : a ≠ 2) : (fX2_move S k x b).1 a = S.1 a := by
  unfold fX2_move
  split <;> (funext y z; simp [uI, h])
theorem fX0_note_F (S : uS) (k : Nat) (x y : Int32) (b : Bool) : (fX0_note S k x y b).2.2 = S.2.2 := by
  unfold fX0_note
  repeat' split
  all_goals rfl
theorem fX0_note_I (S : uS) (k : Nat) (x y : Int32) (b : Bool) {a : Nat} (h : a ≠ 4) : (fX0_note S k x y b).1 a = S.1 a := by
  unfold fX0_note
  repeat' split
  all_goals (funext u v; simp [uI, uL, h])
theorem fX0_note_L (S : uS) (k : Nat) (x y : Int32) (b : Bool) {a : Nat} (h : a ≠ 3) : (fX0_note S k x y b).2.1 a = S.2.1 a := by
  unfold fX0_note
  repeat' split
  all_goals (funext u v; simp [uI, uL, h])
theorem fX3_learn_2 (S : uS) (k : Nat) (b : Bool) : (fX3_learn S k b).2 = S.2 := by
  unfold fX3_learn
  repeat' split
  all_goals rfl
theorem fX3_learn_I (S : uS) (k : Nat) (b : Bool) {a : Nat} (h : a ≠ 9) : (fX3_learn S k b).1 a = S.1 a := by
  unfold fX3_learn
  repeat' split
  all_goals (funext u v; simp [uI, h])
theorem fX3_startAnew_2 (S : uS) (k : Nat) (x : Int32) : (fX3_startAnew S k x).2 = S.2 := rfl
theorem fX3_startAnew_I (S : uS) (k : Nat) (x : Int32) {a : Nat} (h : a ≠ 9) : (fX3_startAnew S k x).1 a = S.1 a := by
  unfold fX3_startAnew
  funext u v; simp [uI, h]
def fTab (x1 : Int32) : Nat := if x1 = (0 : Int32) then 0 else if x1 = (1 : Int32) then 1 else 2
theorem fTab_lt (x1 : Int32) : fTab x1 < 3 := by unfold fTab; split <;> (try split) <;> decide
abbrev rmX4_tableWith : Room := { frames := 0, cells := 0, slots := 0, locals := 0 }
set_option maxHeartbeats 4000000 in
set_option maxRecDepth 100000 in
theorem cX4c_tableWith (l : Launch) (G : gG) (Z : va_W) (S : uS) (x1 : Int32) : kMet l yX4_tableWith wsX4_tableWith rmX4_tableWith G kC Z S [.ref (G.2.2 (0, 0)), .int (x1)] (some (.ref (G.2.2 (1, (fTab x1))))) S := by
  refine kMet_of (cc := cX4_tableWith) (maxL := 2) (ret := (some (.object "BranchPredictor$CounterTable"))) (by decide) rfl (Nat.le_of_ble_eq_true rfl) ?_
  intro p e s m below meth c hx hb hr hml hlocks hts hown hK hN A hZ hA H locs hw ls hl
  have hl : lv_has ls 2 [(0, .ref (G.2.2 (0, 0))), (1, .int (x1))] := hl
  have hiX4 : ∀ w ∈ wsX40, w ∈ wsX4_tableWith := by decide +kernel
  refine lv_iload_n hx hb dX4_tableWith_0 rfl (lv_at hl 1 rfl) ?_
  refine lv_if_ne (x := x1) (tgt := 9) hx hb dX4_tableWith_1 (by decide) (fun c_1 => ?_) (fun c_1 => ?_)
  · skip
    refine lv_iload_n hx hb dX4_tableWith_9 rfl (lv_at hl 1 rfl) ?_
    refine lv_iconst (v := 1) hx hb dX4_tableWith_10 (by decide) ?_
    refine lv_icmp_ne (tgt := 21) hx hb dX4_tableWith_11 (by decide) (fun c_2 => ?_) (fun c_2 => ?_)
    · skip
      refine lv_aload_n hx hb dX4_tableWith_21 rfl (lv_at hl 0 rfl) ?_
      refine g_0_2 hx hb hts hiX4 hown hK hw kC_0 (hts (.fieldLink RX4 19 "BranchPredictor" "choiceTable" "LBranchPredictor$CounterTable;") (by decide +kernel)) dX4_tableWith_22 ?_
      exact k_aret hx hb hr hlocks hK hw (congrArg (fun z : Nat => some (Value.ref (G.2.2 (1, z)))) (show fTab x1 = 2 from by unfold fTab; rw [if_neg c_1, if_neg c_2])) rfl dX4_tableWith_25
    · skip
      refine lv_aload_n hx hb dX4_tableWith_14 rfl (lv_at hl 0 rfl) ?_
      refine g_0_1 hx hb hts hiX4 hown hK hw kC_0 (hts (.fieldLink RX4 16 "BranchPredictor" "globalTable" "LBranchPredictor$CounterTable;") (by decide +kernel)) dX4_tableWith_15 ?_
      refine lv_goto (tgt := 25) hx hb dX4_tableWith_18 (by decide) ?_
      exact k_aret hx hb hr hlocks hK hw (congrArg (fun z : Nat => some (Value.ref (G.2.2 (1, z)))) (show fTab x1 = 1 from by unfold fTab; rw [if_neg c_1, if_pos c_2])) rfl dX4_tableWith_25
  · skip
    refine lv_aload_n hx hb dX4_tableWith_4 rfl (lv_at hl 0 rfl) ?_
    refine g_0_0 hx hb hts hiX4 hown hK hw kC_0 (hts (.fieldLink RX4 12 "BranchPredictor" "plainTable" "LBranchPredictor$CounterTable;") (by decide +kernel)) dX4_tableWith_5 ?_
    exact k_aret hx hb hr hlocks hK hw (congrArg (fun z : Nat => some (Value.ref (G.2.2 (1, z)))) (show fTab x1 = 0 from by unfold fTab; rw [if_pos c_1])) rfl dX4_tableWith_8
def fX4_loopPrediction (S : uS) (N1 : Nat) (x1 : Int32) (b1 : Bool) : Bool :=
  if (lX4_loopWith x1 8 0 S) < (0 : Int32) then b1
  else if (3 : Int32) ≤ (S.1 9 ((lX4_loopWith x1 8 0 S).toNatClampNeg) 3) then if (S.1 9 ((lX4_loopWith x1 8 0 S).toNatClampNeg) 2) ≤ (lX4_presumed ((lX4_loopWith x1 8 0 S).toNatClampNeg) N1 0 (S.1 9 ((lX4_loopWith x1 8 0 S).toNatClampNeg) 1) S) then false else true
    else b1
abbrev rmX4_loopPrediction : Room := { frames := 2, cells := 0, slots := 0, locals := 45 }
set_option maxHeartbeats 4000000 in
set_option maxRecDepth 100000 in
theorem cX4c_loopPrediction (l : Launch) (G : gG) (Z : va_W) (S : uS) (N1 : Nat) (h_N1 : S.1 0 0 13 = nI N1) (h_N1b : N1 < 2 ^ 31) (x1 : Int32) (b1 : Bool) : kMet l yX4_loopPrediction wsX4_loopPrediction rmX4_loopPrediction G kC Z S [.ref (G.2.2 (0, 0)), .int (x1), .int (bI (b1))] (some (.int (bI ((fX4_loopPrediction S N1 x1 b1))))) S := by
  refine kMet_of (cc := cX4_loopPrediction) (maxL := 4) (ret := (some .boolean)) (by decide) rfl (Nat.le_of_ble_eq_true rfl) ?_
  intro p e s m below meth c hx hb hr hml hlocks hts hown hK hN A hZ hA H locs hw ls hl
  have hl : lv_has ls 4 [(0, .ref (G.2.2 (0, 0))), (1, .int (x1)), (2, .int (bI (b1)))] := hl
  have hiX3 : ∀ w ∈ wsX30, w ∈ wsX4_loopPrediction := by decide +kernel
  have hiX4 : ∀ w ∈ wsX40, w ∈ wsX4_loopPrediction := by decide +kernel
  refine lv_aload_n hx hb dX4_loopPrediction_0 rfl (lv_at hl 0 rfl) ?_
  refine lv_iload_n hx hb dX4_loopPrediction_1 rfl (lv_at hl 1 rfl) ?_
  refine k_callV (C := RX4) (n := 1) (rest := []) ⟨hx, hb, hml, hown, hts⟩ (cX4c_loopWith l G Z S x1) (cwV 1 hts gX4_loopPrediction_X4_loopWith rfl rfl rfl (by decide +kernel) ⟨Nat.le_of_ble_eq_true rfl, Nat.le_of_ble_eq_true rfl⟩) (k_recv hK hw kC_0 rfl rfl) hK hN hZ hA hw (Nat.zero_le _) (Nat.zero_le _) rfl hl.1 rfl (Nat.le_of_ble_eq_true rfl) dX4_loopPrediction_2 (fun H locs hw => ?_)
  refine W.eq (g2 := F0 m 5 ls [.int ((lX4_loopWith x1 8 0 S))]) rfl ?_
  refine lv_istore_n (lv' := [(3, .int ((lX4_loopWith x1 8 0 S))), (0, .ref (G.2.2 (0, 0))), (1, .int (x1)), (2, .int (bI (b1)))]) hx hb dX4_loopPrediction_5 rfl hl (by decide) rfl (fun ls hl => ?_)
  refine lv_iload_n hx hb dX4_loopPrediction_6 rfl (lv_at hl 0 rfl) ?_
  refine lv_if_lt (x := (lX4_loopWith x1 8 0 S)) (tgt := 23) hx hb dX4_loopPrediction_7 (by decide) (fun c_1 => ?_) (fun c_1 => ?_)
  · skip
    refine lv_iload_n hx hb dX4_loopPrediction_23 rfl (lv_at hl 3 rfl) ?_
    exact k_zret (r := b1) hx hb hr hlocks hK hw (congrArg (fun z : Bool => some (Value.int (bI (z)))) (show (fX4_loopPrediction S N1 x1 b1) = b1 from by unfold fX4_loopPrediction; rw [if_pos c_1])) rfl dX4_loopPrediction_24
  · skip
    refine lv_aload_n hx hb dX4_loopPrediction_10 rfl (lv_at hl 1 rfl) ?_
    refine g_0_6 hx hb hts hiX4 hown hK hw kC_0 (hts (.fieldLink RX4 40 "BranchPredictor" "loops" "[LBranchPredictor$Loop;") (by decide +kernel)) dX4_loopPrediction_11 ?_
    refine lv_iload_n hx hb dX4_loopPrediction_14 rfl (lv_at hl 0 rfl) ?_
    refine ald_6 hx hb hK hw kC_6 (lW_in c_1) dX4_loopPrediction_15 ?_
    refine g_9_3 hx hb hts hiX3 hown hK hw (kC_9 (vp_lt (lW_in c_1))) (hts (.fieldLink RX4 164 "BranchPredictor$Loop" "trust" "I") (by decide +kernel)) dX4_loopPrediction_16 ?_
    refine lv_iconst (v := 3) hx hb dX4_loopPrediction_19 (by decide) ?_
    refine lv_icmp_ge (tgt := 25) hx hb dX4_loopPrediction_20 (by decide) (fun c_2 => ?_) (fun c_2 => ?_)
    · skip
      refine lv_aload_n hx hb dX4_loopPrediction_25 rfl (lv_at hl 1 rfl) ?_
      refine lv_aload_n hx hb dX4_loopPrediction_26 rfl (lv_at hl 1 rfl) ?_
      refine g_0_6 hx hb hts hiX4 hown hK hw kC_0 (hts (.fieldLink RX4 40 "BranchPredictor" "loops" "[LBranchPredictor$Loop;") (by decide +kernel)) dX4_loopPrediction_27 ?_
      refine lv_iload_n hx hb dX4_loopPrediction_30 rfl (lv_at hl 0 rfl) ?_
      refine ald_6 hx hb hK hw kC_6 (lW_in c_1) dX4_loopPrediction_31 ?_
      refine k_callV (C := RX4) (n := 1) (rest := []) ⟨hx, hb, hml, hown, hts⟩ (cX4c_presumedCount l G Z S ((lX4_loopWith x1 8 0 S).toNatClampNeg) (vp_lt (lW_in c_1)) N1 h_N1 h_N1b) (cwV 1 hts gX4_loopPrediction_X4_presumedCount rfl rfl rfl (by decide +kernel) ⟨Nat.le_of_ble_eq_true rfl, Nat.le_of_ble_eq_true rfl⟩) (k_recv hK hw kC_0 rfl rfl) hK hN hZ hA hw (Nat.zero_le _) (Nat.zero_le _) rfl hl.1 rfl (Nat.le_of_ble_eq_true rfl) dX4_loopPrediction_32 (fun H locs hw => ?_)
      refine W.eq (g2 := F0 m 35 ls [.int ((lX4_presumed ((lX4_loopWith x1 8 0 S).toNatClampNeg) N1 0 (S.1 9 ((lX4_loopWith x1 8 0 S).toNatClampNeg) 1) S))]) rfl ?_
      refine lv_aload_n hx hb dX4_loopPrediction_35 rfl (lv_at hl 1 rfl) ?_
      refine g_0_6 hx hb hts hiX4 hown hK hw kC_0 (hts (.fieldLink RX4 40 "BranchPredictor" "loops" "[LBranchPredictor$Loop;") (by decide +kernel)) dX4_loopPrediction_36 ?_
      refine lv_iload_n hx hb dX4_loopPrediction_39 rfl (lv_at hl 0 rfl) ?_
      refine ald_6 hx hb hK hw kC_6 (lW_in c_1) dX4_loopPrediction_40 ?_
      refine g_9_2 hx hb hts hiX3 hown hK hw (kC_9 (vp_lt (lW_in c_1))) (hts (.fieldLink RX4 161 "BranchPredictor$Loop" "trip" "I") (by decide +kernel)) dX4_loopPrediction_41 ?_
      refine k_join (P := fun x9 : Bool => W p l e rmX4_loopPrediction s m [.ref (G.2.2 (0, 0)), .int (x1), .int (bI (b1))].toArray below meth c H locs 0 0 (MQ below (kQ G kC Z A (some (.int (bI ((fX4_loopPrediction S N1 x1 b1))))) S) [.ref (G.2.2 (0, 0)), .int (x1), .int (bI (b1))].toArray s 0 0 A) (F0 m 52 ls [.int (bI (x9))])) (C := (S.1 9 ((lX4_loopWith x1 8 0 S).toNatClampNeg) 2) ≤ (lX4_presumed ((lX4_loopWith x1 8 0 S).toNatClampNeg) N1 0 (S.1 9 ((lX4_loopWith x1 8 0 S).toNatClampNeg) 1) S)) (a := false) (b := true) ?_ (fun ka kb => ?_)
      rotate_left
      · refine lv_icmp_ge (tgt := 51) hx hb dX4_loopPrediction_44 (by decide) (fun c_3 => ?_) (fun c_3 => ?_)
        · skip
          refine lv_iconst (v := 0) hx hb dX4_loopPrediction_51 (by decide) ?_
          exact ka c_3
        · skip
          refine lv_iconst (v := 1) hx hb dX4_loopPrediction_47 (by decide) ?_
          refine lv_goto (tgt := 52) hx hb dX4_loopPrediction_48 (by decide) ?_
          exact kb c_3
      show W p l e rmX4_loopPrediction s m [.ref (G.2.2 (0, 0)), .int (x1), .int (bI (b1))].toArray below meth c H locs 0 0 (MQ below (kQ G kC Z A (some (.int (bI ((fX4_loopPrediction S N1 x1 b1))))) S) [.ref (G.2.2 (0, 0)), .int (x1), .int (bI (b1))].toArray s 0 0 A) (F0 m 52 ls [.int (bI (if (S.1 9 ((lX4_loopWith x1 8 0 S).toNatClampNeg) 2) ≤ (lX4_presumed ((lX4_loopWith x1 8 0 S).toNatClampNeg) N1 0 (S.1 9 ((lX4_loopWith x1 8 0 S).toNatClampNeg) 1) S) then false else true))])
      exact k_zret (r := if (S.1 9 ((lX4_loopWith x1 8 0 S).toNatClampNeg) 2) ≤ (lX4_presumed ((lX4_loopWith x1 8 0 S).toNatClampNeg) N1 0 (S.1 9 ((lX4_loopWith x1 8 0 S).toNatClampNeg) 1) S) then false else true) hx hb hr hlocks hK hw (congrArg (fun z : Bool => some (Value.int (bI (z)))) (show (fX4_loopPrediction S N1 x1 b1) = if (S.1 9 ((lX4_loopWith x1 8 0 S).toNatClampNeg) 2) ≤ (lX4_presumed ((lX4_loopWith x1 8 0 S).toNatClampNeg) N1 0 (S.1 9 ((lX4_loopWith x1 8 0 S).toNatClampNeg) 1) S) then false else true from by unfold fX4_loopPrediction; rw [if_neg c_1, if_pos c_2])) rfl dX4_loopPrediction_52
    · skip
      refine lv_iload_n hx hb dX4_loopPrediction_23 rfl (lv_at hl 3 rfl) ?_
      exact k_zret (r := b1) hx hb hr hlocks hK hw (congrArg (fun z : Bool => some (Value.int (bI (z)))) (show (fX4_loopPrediction S N1 x1 b1) = b1 from by unfold fX4_loopPrediction; rw [if_neg c_1, if_neg c_2])) rfl dX4_loopPrediction_24
def fX4_launch (S : uS) (N1 : Nat) (x1 : Int32) : Bool × uS :=
  ((fX4_loopPrediction (uF (uF (uF (uI (uI (uI (uI (uI S 8 (fIx S (S.1 0 0 13)) 0 x1) 8 (fIx S (S.1 0 0 13)) 1 (0 : Int32)) 8 (fIx S (S.1 0 0 13)) 2 (S.1 0 0 11)) 8 (fIx S (S.1 0 0 13)) 3 (x1 &&& (((S.1 1 0 1)) - (1 : Int32)))) 8 (fIx S (S.1 0 0 13)) 4 ((x1 ^^^ (S.1 0 0 11)) &&& (((S.1 1 1 1)) - (1 : Int32)))) 8 (fIx S (S.1 0 0 13)) 5 (fX2_saysTaken S 0 (x1 &&& (((S.1 1 0 1)) - (1 : Int32))))) 8 (fIx S (S.1 0 0 13)) 6 (fX2_saysTaken S 1 ((x1 ^^^ (S.1 0 0 11)) &&& (((S.1 1 1 1)) - (1 : Int32))))) 8 (fIx S (S.1 0 0 13)) 7 (if (fX2_saysTaken S 2 (x1 &&& (((S.1 1 0 1)) - (1 : Int32)))) = false then (fX2_saysTaken S 0 (x1 &&& (((S.1 1 0 1)) - (1 : Int32)))) else (fX2_saysTaken S 1 ((x1 ^^^ (S.1 0 0 11)) &&& (((S.1 1 1 1)) - (1 : Int32)))))) N1 x1 (if (fX2_saysTaken S 2 (x1 &&& (((S.1 1 0 1)) - (1 : Int32)))) = false then (fX2_saysTaken S 0 (x1 &&& (((S.1 1 0 1)) - (1 : Int32)))) else (fX2_saysTaken S 1 ((x1 ^^^ (S.1 0 0 11)) &&& (((S.1 1 1 1)) - (1 : Int32)))))), (uI (uI (uF (uF (uF (uF (uI (uI (uI (uI (uI S 8 (fIx S (S.1 0 0 13)) 0 x1) 8 (fIx S (S.1 0 0 13)) 1 (0 : Int32)) 8 (fIx S (S.1 0 0 13)) 2 (S.1 0 0 11)) 8 (fIx S (S.1 0 0 13)) 3 (x1 &&& (((S.1 1 0 1)) - (1 : Int32)))) 8 (fIx S (S.1 0 0 13)) 4 ((x1 ^^^ (S.1 0 0 11)) &&& (((S.1 1 1 1)) - (1 : Int32)))) 8 (fIx S (S.1 0 0 13)) 5 (fX2_saysTaken S 0 (x1 &&& (((S.1 1 0 1)) - (1 : Int32))))) 8 (fIx S (S.1 0 0 13)) 6 (fX2_saysTaken S 1 ((x1 ^^^ (S.1 0 0 11)) &&& (((S.1 1 1 1)) - (1 : Int32))))) 8 (fIx S (S.1 0 0 13)) 7 (if (fX2_saysTaken S 2 (x1 &&& (((S.1 1 0 1)) - (1 : Int32)))) = false then (fX2_saysTaken S 0 (x1 &&& (((S.1 1 0 1)) - (1 : Int32)))) else (fX2_saysTaken S 1 ((x1 ^^^ (S.1 0 0 11)) &&& (((S.1 1 1 1)) - (1 : Int32)))))) 8 (fIx S (S.1 0 0 13)) 8 (fX4_loopPrediction (uF (uF (uF (uI (uI (uI (uI (uI S 8 (fIx S (S.1 0 0 13)) 0 x1) 8 (fIx S (S.1 0 0 13)) 1 (0 : Int32)) 8 (fIx S (S.1 0 0 13)) 2 (S.1 0 0 11)) 8 (fIx S (S.1 0 0 13)) 3 (x1 &&& (((S.1 1 0 1)) - (1 : Int32)))) 8 (fIx S (S.1 0 0 13)) 4 ((x1 ^^^ (S.1 0 0 11)) &&& (((S.1 1 1 1)) - (1 : Int32)))) 8 (fIx S (S.1 0 0 13)) 5 (fX2_saysTaken S 0 (x1 &&& (((S.1 1 0 1)) - (1 : Int32))))) 8 (fIx S (S.1 0 0 13)) 6 (fX2_saysTaken S 1 ((x1 ^^^ (S.1 0 0 11)) &&& (((S.1 1 1 1)) - (1 : Int32))))) 8 (fIx S (S.1 0 0 13)) 7 (if (fX2_saysTaken S 2 (x1 &&& (((S.1 1 0 1)) - (1 : Int32)))) = false then (fX2_saysTaken S 0 (x1 &&& (((S.1 1 0 1)) - (1 : Int32)))) else (fX2_saysTaken S 1 ((x1 ^^^ (S.1 0 0 11)) &&& (((S.1 1 1 1)) - (1 : Int32)))))) N1 x1 (if (fX2_saysTaken S 2 (x1 &&& (((S.1 1 0 1)) - (1 : Int32)))) = false then (fX2_saysTaken S 0 (x1 &&& (((S.1 1 0 1)) - (1 : Int32)))) else (fX2_saysTaken S 1 ((x1 ^^^ (S.1 0 0 11)) &&& (((S.1 1 1 1)) - (1 : Int32))))))) 0 0 13 ((S.1 0 0 13) + (1 : Int32))) 0 0 11 ((((2 : Int32) * (S.1 0 0 11)) + (if (fX4_loopPrediction (uF (uF (uF (uI (uI (uI (uI (uI S 8 (fIx S (S.1 0 0 13)) 0 x1) 8 (fIx S (S.1 0 0 13)) 1 (0 : Int32)) 8 (fIx S (S.1 0 0 13)) 2 (S.1 0 0 11)) 8 (fIx S (S.1 0 0 13)) 3 (x1 &&& (((S.1 1 0 1)) - (1 : Int32)))) 8 (fIx S (S.1 0 0 13)) 4 ((x1 ^^^ (S.1 0 0 11)) &&& (((S.1 1 1 1)) - (1 : Int32)))) 8 (fIx S (S.1 0 0 13)) 5 (fX2_saysTaken S 0 (x1 &&& (((S.1 1 0 1)) - (1 : Int32))))) 8 (fIx S (S.1 0 0 13)) 6 (fX2_saysTaken S 1 ((x1 ^^^ (S.1 0 0 11)) &&& (((S.1 1 1 1)) - (1 : Int32))))) 8 (fIx S (S.1 0 0 13)) 7 (if (fX2_saysTaken S 2 (x1 &&& (((S.1 1 0 1)) - (1 : Int32)))) = false then (fX2_saysTaken S 0 (x1 &&& (((S.1 1 0 1)) - (1 : Int32)))) else (fX2_saysTaken S 1 ((x1 ^^^ (S.1 0 0 11)) &&& (((S.1 1 1 1)) - (1 : Int32)))))) N1 x1 (if (fX2_saysTaken S 2 (x1 &&& (((S.1 1 0 1)) - (1 : Int32)))) = false then (fX2_saysTaken S 0 (x1 &&& (((S.1 1 0 1)) - (1 : Int32)))) else (fX2_saysTaken S 1 ((x1 ^^^ (S.1 0 0 11)) &&& (((S.1 1 1 1)) - (1 : Int32)))))) = false then (0 : Int32) else (1 : Int32))) &&& (((1 : Int32) <<< (((S.1 0 0 10)) &&& 31)) - (1 : Int32)))))
abbrev rmX4_launch : Room := { frames := 3, cells := 0, slots := 0, locals := 68 }
set_option maxHeartbeats 4000000 in
set_option maxRecDepth 100000 in
theorem cX4c_launch (l : Launch) (G : gG) (Z : va_W) (S : uS) (N1 : Nat) (h_N1 : S.1 0 0 13 = nI N1) (h_N1b : N1 < 2 ^ 31) (x1 : Int32) : kMet l yX4_launch wsX4_launch rmX4_launch G kC Z S [.ref (G.2.2 (0, 0)), .int (x1)] (some (.int (bI ((fX4_launch S N1 x1).1)))) ((fX4_launch S N1 x1).2) := by
  refine kMet_of (cc := cX4_launch) (maxL := 3) (ret := (some .boolean)) (by decide) rfl (Nat.le_of_ble_eq_true rfl) ?_
  intro p e s m below meth c hx hb hr hml hlocks hts hown hK hN A hZ hA H locs hw ls hl
  have hl : lv_has ls 3 [(0, .ref (G.2.2 (0, 0))), (1, .int (x1))] := hl
  have hiX1 : ∀ w ∈ wsX10, w ∈ wsX4_launch := by decide +kernel
  have hiX4 : ∀ w ∈ wsX40, w ∈ wsX4_launch := by decide +kernel
  refine lv_aload_n hx hb dX4_launch_0 rfl (lv_at hl 0 rfl) ?_
  refine lv_aload_n hx hb dX4_launch_1 rfl (lv_at hl 0 rfl) ?_
  refine g_0_13 hx hb hts hiX4 hown hK hw kC_0 (hts (.fieldLink RX4 79 "BranchPredictor" "flying" "I") (by decide +kernel)) dX4_launch_2 ?_
  refine k_callV (C := RX4) (n := 1) (rest := []) ⟨hx, hb, hml, hown, hts⟩ (cX4c_branchAt l G Z S (S.1 0 0 13)) (cwV 1 hts gX4_launch_X4_branchAt rfl rfl rfl (by decide +kernel) ⟨Nat.le_of_ble_eq_true rfl, Nat.le_of_ble_eq_true rfl⟩) (k_recv hK hw kC_0 rfl rfl) hK hN hZ hA hw (Nat.zero_le _) (Nat.zero_le _) rfl hl.1 rfl (Nat.le_of_ble_eq_true rfl) dX4_launch_5 (fun H locs hw => ?_)
  refine W.eq (g2 := F0 m 8 ls [.ref (G.2.2 (8, (fIx S (S.1 0 0 13))))]) rfl ?_
  refine lv_astore_n (lv' := [(2, .ref (G.2.2 (8, (fIx S (S.1 0 0 13))))), (0, .ref (G.2.2 (0, 0))), (1, .int (x1))]) hx hb dX4_launch_8 rfl hl (by decide) rfl (fun ls hl => ?_)
  refine lv_aload_n hx hb dX4_launch_9 rfl (lv_at hl 0 rfl) ?_
  refine lv_iload_n hx hb dX4_launch_10 rfl (lv_at hl 2 rfl) ?_
  refine p_8_0 (v := x1) hx hb hts hiX1 hown hK hw (kC_8 (fIx_lt S (S.1 0 0 13))) (hts (.fieldLink RX4 126 "BranchPredictor$Branch" "place" "I") (by decide +kernel)) dX4_launch_11 (fun H locs hw => ?_)
  refine lv_aload_n hx hb dX4_launch_14 rfl (lv_at hl 0 rfl) ?_
  refine lv_iconst (v := 0) hx hb dX4_launch_15 (by decide) ?_
  refine p_8_1 (v := (0 : Int32)) hx hb hts hiX1 hown hK hw (kC_8 (fIx_lt S (S.1 0 0 13))) (hts (.fieldLink RX4 97 "BranchPredictor$Branch" "state" "I") (by decide +kernel)) dX4_launch_16 (fun H locs hw => ?_)
  refine lv_aload_n hx hb dX4_launch_19 rfl (lv_at hl 0 rfl) ?_
  refine lv_aload_n hx hb dX4_launch_20 rfl (lv_at hl 1 rfl) ?_
  refine g_0_11 hx hb hts hiX4 hown hK hw kC_0 (hts (.fieldLink RX4 119 "BranchPredictor" "outcomes" "I") (by decide +kernel)) dX4_launch_21 ?_
  refine k_topi (z := S.1 0 0 11) (by simp [uI, uL, uF]) ?_
  refine p_8_2 (v := S.1 0 0 11) hx hb hts hiX1 hown hK hw (kC_8 (fIx_lt S (S.1 0 0 13))) (hts (.fieldLink RX4 116 "BranchPredictor$Branch" "historyAhead" "I") (by decide +kernel)) dX4_launch_24 (fun H locs hw => ?_)
  refine lv_aload_n hx hb dX4_launch_27 rfl (lv_at hl 0 rfl) ?_
  refine lv_aload_n hx hb dX4_launch_28 rfl (lv_at hl 1 rfl) ?_
  refine g_0_0 hx hb hts hiX4 hown hK hw kC_0 (hts (.fieldLink RX4 12 "BranchPredictor" "plainTable" "LBranchPredictor$CounterTable;") (by decide +kernel)) dX4_launch_29 ?_
  refine lv_iload_n hx hb dX4_launch_32 rfl (lv_at hl 2 rfl) ?_
  refine k_callV (C := RX2) (n := 1) (rest := [.ref (G.2.2 (8, (fIx S (S.1 0 0 13))))]) ⟨hx, hb, hml, hown, hts⟩ (cX2c_indexFor l G Z (uI (uI (uI S 8 (fIx S (S.1 0 0 13)) 0 x1) 8 (fIx S (S.1 0 0 13)) 1 (0 : Int32)) 8 (fIx S (S.1 0 0 13)) 2 (S.1 0 0 11)) 0 (show (0 : Nat) < 3 from by decide) x1) (cwV 1 hts gX4_launch_X2_indexFor rfl rfl rfl (by decide +kernel) ⟨Nat.le_of_ble_eq_true rfl, Nat.le_of_ble_eq_true rfl⟩) (k_recv hK hw (kC_1 (show (0 : Nat) < 3 from by decide)) rfl rfl) hK hN hZ hA hw (Nat.zero_le _) (Nat.zero_le _) rfl hl.1 rfl (Nat.le_of_ble_eq_true rfl) dX4_launch_33 (fun H locs hw => ?_)
  refine W.eq (g2 := F0 m 36 ls [.int (x1 &&& (((uI (uI (uI S 8 (fIx S (S.1 0 0 13)) 0 x1) 8 (fIx S (S.1 0 0 13)) 1 (0 : Int32)) 8 (fIx S (S.1 0 0 13)) 2 (S.1 0 0 11)).1 1 0 1) - (1 : Int32))), .ref (G.2.2 (8, (fIx S (S.1 0 0 13))))]) rfl ?_
  refine k_topi (z := x1 &&& (((S.1 1 0 1)) - (1 : Int32))) (by simp [uI, uL, uF]) ?_
  refine p_8_3 (v := x1 &&& (((S.1 1 0 1)) - (1 : Int32))) hx hb hts hiX1 hown hK hw (kC_8 (fIx_lt S (S.1 0 0 13))) (hts (.fieldLink RX4 216 "BranchPredictor$Branch" "plainIndex" "I") (by decide +kernel)) dX4_launch_36 (fun H locs hw => ?_)
  refine lv_aload_n hx hb dX4_launch_39 rfl (lv_at hl 0 rfl) ?_
  refine lv_aload_n hx hb dX4_launch_40 rfl (lv_at hl 1 rfl) ?_
  refine g_0_1 hx hb hts hiX4 hown hK hw kC_0 (hts (.fieldLink RX4 16 "BranchPredictor" "globalTable" "LBranchPredictor$CounterTable;") (by decide +kernel)) dX4_launch_41 ?_
  refine lv_iload_n hx hb dX4_launch_44 rfl (lv_at hl 2 rfl) ?_
  refine lv_aload_n hx hb dX4_launch_45 rfl (lv_at hl 1 rfl) ?_
  refine g_0_11 hx hb hts hiX4 hown hK hw kC_0 (hts (.fieldLink RX4 119 "BranchPredictor" "outcomes" "I") (by decide +kernel)) dX4_launch_46 ?_
  refine k_topi (z := S.1 0 0 11) (by simp [uI, uL, uF]) ?_
  refine lv_ixor hx hb dX4_launch_49 ?_
  refine k_callV (C := RX2) (n := 1) (rest := [.ref (G.2.2 (8, (fIx S (S.1 0 0 13))))]) ⟨hx, hb, hml, hown, hts⟩ (cX2c_indexFor l G Z (uI (uI (uI (uI S 8 (fIx S (S.1 0 0 13)) 0 x1) 8 (fIx S (S.1 0 0 13)) 1 (0 : Int32)) 8 (fIx S (S.1 0 0 13)) 2 (S.1 0 0 11)) 8 (fIx S (S.1 0 0 13)) 3 (x1 &&& (((S.1 1 0 1)) - (1 : Int32)))) 1 (show (1 : Nat) < 3 from by decide) (x1 ^^^ (S.1 0 0 11))) (cwV 1 hts gX4_launch_X2_indexFor rfl rfl rfl (by decide +kernel) ⟨Nat.le_of_ble_eq_true rfl, Nat.le_of_ble_eq_true rfl⟩) (k_recv hK hw (kC_1 (show (1 : Nat) < 3 from by decide)) rfl rfl) hK hN hZ hA hw (Nat.zero_le _) (Nat.zero_le _) rfl hl.1 rfl (Nat.le_of_ble_eq_true rfl) dX4_launch_50 (fun H locs hw => ?_)
  refine W.eq (g2 := F0 m 53 ls [.int ((x1 ^^^ (S.1 0 0 11)) &&& (((uI (uI (uI (uI S 8 (fIx S (S.1 0 0 13)) 0 x1) 8 (fIx S (S.1 0 0 13)) 1 (0 : Int32)) 8 (fIx S (S.1 0 0 13)) 2 (S.1 0 0 11)) 8 (fIx S (S.1 0 0 13)) 3 (x1 &&& (((S.1 1 0 1)) - (1 : Int32)))).1 1 1 1) - (1 : Int32))), .ref (G.2.2 (8, (fIx S (S.1 0 0 13))))]) rfl ?_
  refine k_topi (z := (x1 ^^^ (S.1 0 0 11)) &&& (((S.1 1 1 1)) - (1 : Int32))) (by simp [uI, uL, uF]) ?_
  refine p_8_4 (v := (x1 ^^^ (S.1 0 0 11)) &&& (((S.1 1 1 1)) - (1 : Int32))) hx hb hts hiX1 hown hK hw (kC_8 (fIx_lt S (S.1 0 0 13))) (hts (.fieldLink RX4 219 "BranchPredictor$Branch" "globalIndex" "I") (by decide +kernel)) dX4_launch_53 (fun H locs hw => ?_)
  refine lv_aload_n hx hb dX4_launch_56 rfl (lv_at hl 0 rfl) ?_
  refine lv_aload_n hx hb dX4_launch_57 rfl (lv_at hl 1 rfl) ?_
  refine g_0_0 hx hb hts hiX4 hown hK hw kC_0 (hts (.fieldLink RX4 12 "BranchPredictor" "plainTable" "LBranchPredictor$CounterTable;") (by decide +kernel)) dX4_launch_58 ?_
  refine lv_aload_n hx hb dX4_launch_61 rfl (lv_at hl 0 rfl) ?_
  refine g_8_3 hx hb hts hiX1 hown hK hw (kC_8 (fIx_lt S (S.1 0 0 13))) (hts (.fieldLink RX4 216 "BranchPredictor$Branch" "plainIndex" "I") (by decide +kernel)) dX4_launch_62 ?_
  refine k_topi (z := x1 &&& (((S.1 1 0 1)) - (1 : Int32))) (by simp [uI, uL, uF]) ?_
  refine k_callV (C := RX2) (n := 1) (rest := [.ref (G.2.2 (8, (fIx S (S.1 0 0 13))))]) ⟨hx, hb, hml, hown, hts⟩ (cX2c_saysTaken l G Z (uI (uI (uI (uI (uI S 8 (fIx S (S.1 0 0 13)) 0 x1) 8 (fIx S (S.1 0 0 13)) 1 (0 : Int32)) 8 (fIx S (S.1 0 0 13)) 2 (S.1 0 0 11)) 8 (fIx S (S.1 0 0 13)) 3 (x1 &&& (((S.1 1 0 1)) - (1 : Int32)))) 8 (fIx S (S.1 0 0 13)) 4 ((x1 ^^^ (S.1 0 0 11)) &&& (((S.1 1 1 1)) - (1 : Int32)))) 0 (show (0 : Nat) < 3 from by decide) (x1 &&& (((S.1 1 0 1)) - (1 : Int32)))) (cwV 1 hts gX4_launch_X2_saysTaken rfl rfl rfl (by decide +kernel) ⟨Nat.le_of_ble_eq_true rfl, Nat.le_of_ble_eq_true rfl⟩) (k_recv hK hw (kC_1 (show (0 : Nat) < 3 from by decide)) rfl rfl) hK hN hZ hA hw (Nat.zero_le _) (Nat.zero_le _) rfl hl.1 rfl (Nat.le_of_ble_eq_true rfl) dX4_launch_65 (fun H locs hw => ?_)
  refine W.eq (g2 := F0 m 68 ls [.int (bI ((fX2_saysTaken (uI (uI (uI (uI (uI S 8 (fIx S (S.1 0 0 13)) 0 x1) 8 (fIx S (S.1 0 0 13)) 1 (0 : Int32)) 8 (fIx S (S.1 0 0 13)) 2 (S.1 0 0 11)) 8 (fIx S (S.1 0 0 13)) 3 (x1 &&& (((S.1 1 0 1)) - (1 : Int32)))) 8 (fIx S (S.1 0 0 13)) 4 ((x1 ^^^ (S.1 0 0 11)) &&& (((S.1 1 1 1)) - (1 : Int32)))) 0 (x1 &&& (((S.1 1 0 1)) - (1 : Int32)))))), .ref (G.2.2 (8, (fIx S (S.1 0 0 13))))]) rfl ?_
  refine k_topz (z := (fX2_saysTaken S 0 (x1 &&& (((S.1 1 0 1)) - (1 : Int32))))) (by simp [uI, uL, uF, fX2_saysTaken]) ?_
  refine p_8_5 (v := (fX2_saysTaken S 0 (x1 &&& (((S.1 1 0 1)) - (1 : Int32))))) hx hb hts hiX1 hown hK hw (kC_8 (fIx_lt S (S.1 0 0 13))) (hts (.fieldLink RX4 225 "BranchPredictor$Branch" "isPlainTaken" "Z") (by decide +kernel)) dX4_launch_68 (fun H locs hw => ?_)
  refine lv_aload_n hx hb dX4_launch_71 rfl (lv_at hl 0 rfl) ?_
  refine lv_aload_n hx hb dX4_launch_72 rfl (lv_at hl 1 rfl) ?_
  refine g_0_1 hx hb hts hiX4 hown hK hw kC_0 (hts (.fieldLink RX4 16 "BranchPredictor" "globalTable" "LBranchPredictor$CounterTable;") (by decide +kernel)) dX4_launch_73 ?_
  refine lv_aload_n hx hb dX4_launch_76 rfl (lv_at hl 0 rfl) ?_
  refine g_8_4 hx hb hts hiX1 hown hK hw (kC_8 (fIx_lt S (S.1 0 0 13))) (hts (.fieldLink RX4 219 "BranchPredictor$Branch" "globalIndex" "I") (by decide +kernel)) dX4_launch_77 ?_
  refine k_topi (z := (x1 ^^^ (S.1 0 0 11)) &&& (((S.1 1 1 1)) - (1 : Int32))) (by simp [uI, uL, uF]) ?_
  refine k_callV (C := RX2) (n := 1) (rest := [.ref (G.2.2 (8, (fIx S (S.1 0 0 13))))]) ⟨hx, hb, hml, hown, hts⟩ (cX2c_saysTaken l G Z (uF (uI (uI (uI (uI (uI S 8 (fIx S (S.1 0 0 13)) 0 x1) 8 (fIx S (S.1 0 0 13)) 1 (0 : Int32)) 8 (fIx S (S.1 0 0 13)) 2 (S.1 0 0 11)) 8 (fIx S (S.1 0 0 13)) 3 (x1 &&& (((S.1 1 0 1)) - (1 : Int32)))) 8 (fIx S (S.1 0 0 13)) 4 ((x1 ^^^ (S.1 0 0 11)) &&& (((S.1 1 1 1)) - (1 : Int32)))) 8 (fIx S (S.1 0 0 13)) 5 (fX2_saysTaken S 0 (x1 &&& (((S.1 1 0 1)) - (1 : Int32))))) 1 (show (1 : Nat) < 3 from by decide) ((x1 ^^^ (S.1 0 0 11)) &&& (((S.1 1 1 1)) - (1 : Int32)))) (cwV 1 hts gX4_launch_X2_saysTaken rfl rfl rfl (by decide +kernel) ⟨Nat.le_of_ble_eq_true rfl, Nat.le_of_ble_eq_true rfl⟩) (k_recv hK hw (kC_1 (show (1 : Nat) < 3 from by decide)) rfl rfl) hK hN hZ hA hw (Nat.zero_le _) (Nat.zero_le _) rfl hl.1 rfl (Nat.le_of_ble_eq_true rfl) dX4_launch_80 (fun H locs hw => ?_)
  refine W.eq (g2 := F0 m 83 ls [.int (bI ((fX2_saysTaken (uF (uI (uI (uI (uI (uI S 8 (fIx S (S.1 0 0 13)) 0 x1) 8 (fIx S (S.1 0 0 13)) 1 (0 : Int32)) 8 (fIx S (S.1 0 0 13)) 2 (S.1 0 0 11)) 8 (fIx S (S.1 0 0 13)) 3 (x1 &&& (((S.1 1 0 1)) - (1 : Int32)))) 8 (fIx S (S.1 0 0 13)) 4 ((x1 ^^^ (S.1 0 0 11)) &&& (((S.1 1 1 1)) - (1 : Int32)))) 8 (fIx S (S.1 0 0 13)) 5 (fX2_saysTaken S 0 (x1 &&& (((S.1 1 0 1)) - (1 : Int32))))) 1 ((x1 ^^^ (S.1 0 0 11)) &&& (((S.1 1 1 1)) - (1 : Int32)))))), .ref (G.2.2 (8, (fIx S (S.1 0 0 13))))]) rfl ?_
  refine k_topz (z := (fX2_saysTaken S 1 ((x1 ^^^ (S.1 0 0 11)) &&& (((S.1 1 1 1)) - (1 : Int32))))) (by simp [uI, uL, uF, fX2_saysTaken]) ?_
  refine p_8_6 (v := (fX2_saysTaken S 1 ((x1 ^^^ (S.1 0 0 11)) &&& (((S.1 1 1 1)) - (1 : Int32))))) hx hb hts hiX1 hown hK hw (kC_8 (fIx_lt S (S.1 0 0 13))) (hts (.fieldLink RX4 229 "BranchPredictor$Branch" "isGlobalTaken" "Z") (by decide +kernel)) dX4_launch_83 (fun H locs hw => ?_)
  refine lv_aload_n hx hb dX4_launch_86 rfl (lv_at hl 0 rfl) ?_
  refine lv_aload_n hx hb dX4_launch_87 rfl (lv_at hl 1 rfl) ?_
  refine g_0_2 hx hb hts hiX4 hown hK hw kC_0 (hts (.fieldLink RX4 19 "BranchPredictor" "choiceTable" "LBranchPredictor$CounterTable;") (by decide +kernel)) dX4_launch_88 ?_
  refine lv_aload_n hx hb dX4_launch_91 rfl (lv_at hl 0 rfl) ?_
  refine g_8_3 hx hb hts hiX1 hown hK hw (kC_8 (fIx_lt S (S.1 0 0 13))) (hts (.fieldLink RX4 216 "BranchPredictor$Branch" "plainIndex" "I") (by decide +kernel)) dX4_launch_92 ?_
  refine k_topi (z := x1 &&& (((S.1 1 0 1)) - (1 : Int32))) (by simp [uI, uL, uF]) ?_
  refine k_callV (C := RX2) (n := 1) (rest := [.ref (G.2.2 (8, (fIx S (S.1 0 0 13))))]) ⟨hx, hb, hml, hown, hts⟩ (cX2c_saysTaken l G Z (uF (uF (uI (uI (uI (uI (uI S 8 (fIx S (S.1 0 0 13)) 0 x1) 8 (fIx S (S.1 0 0 13)) 1 (0 : Int32)) 8 (fIx S (S.1 0 0 13)) 2 (S.1 0 0 11)) 8 (fIx S (S.1 0 0 13)) 3 (x1 &&& (((S.1 1 0 1)) - (1 : Int32)))) 8 (fIx S (S.1 0 0 13)) 4 ((x1 ^^^ (S.1 0 0 11)) &&& (((S.1 1 1 1)) - (1 : Int32)))) 8 (fIx S (S.1 0 0 13)) 5 (fX2_saysTaken S 0 (x1 &&& (((S.1 1 0 1)) - (1 : Int32))))) 8 (fIx S (S.1 0 0 13)) 6 (fX2_saysTaken S 1 ((x1 ^^^ (S.1 0 0 11)) &&& (((S.1 1 1 1)) - (1 : Int32))))) 2 (show (2 : Nat) < 3 from by decide) (x1 &&& (((S.1 1 0 1)) - (1 : Int32)))) (cwV 1 hts gX4_launch_X2_saysTaken rfl rfl rfl (by decide +kernel) ⟨Nat.le_of_ble_eq_true rfl, Nat.le_of_ble_eq_true rfl⟩) (k_recv hK hw (kC_1 (show (2 : Nat) < 3 from by decide)) rfl rfl) hK hN hZ hA hw (Nat.zero_le _) (Nat.zero_le _) rfl hl.1 rfl (Nat.le_of_ble_eq_true rfl) dX4_launch_95 (fun H locs hw => ?_)
  refine W.eq (g2 := F0 m 98 ls [.int (bI ((fX2_saysTaken (uF (uF (uI (uI (uI (uI (uI S 8 (fIx S (S.1 0 0 13)) 0 x1) 8 (fIx S (S.1 0 0 13)) 1 (0 : Int32)) 8 (fIx S (S.1 0 0 13)) 2 (S.1 0 0 11)) 8 (fIx S (S.1 0 0 13)) 3 (x1 &&& (((S.1 1 0 1)) - (1 : Int32)))) 8 (fIx S (S.1 0 0 13)) 4 ((x1 ^^^ (S.1 0 0 11)) &&& (((S.1 1 1 1)) - (1 : Int32)))) 8 (fIx S (S.1 0 0 13)) 5 (fX2_saysTaken S 0 (x1 &&& (((S.1 1 0 1)) - (1 : Int32))))) 8 (fIx S (S.1 0 0 13)) 6 (fX2_saysTaken S 1 ((x1 ^^^ (S.1 0 0 11)) &&& (((S.1 1 1 1)) - (1 : Int32))))) 2 (x1 &&& (((S.1 1 0 1)) - (1 : Int32)))))), .ref (G.2.2 (8, (fIx S (S.1 0 0 13))))]) rfl ?_
  refine k_topz (z := (fX2_saysTaken S 2 (x1 &&& (((S.1 1 0 1)) - (1 : Int32))))) (by simp [uI, uL, uF, fX2_saysTaken]) ?_
  refine k_join (P := fun x9 : Bool => W p l e rmX4_launch s m [.ref (G.2.2 (0, 0)), .int (x1)].toArray below meth c H locs 0 0 (MQ below (kQ G kC Z A (some (.int (bI ((fX4_launch S N1 x1).1)))) ((fX4_launch S N1 x1).2)) [.ref (G.2.2 (0, 0)), .int (x1)].toArray s 0 0 A) (F0 m 112 ls [.int (bI (x9)), .ref (G.2.2 (8, (fIx S (S.1 0 0 13))))])) (C := (fX2_saysTaken S 2 (x1 &&& (((S.1 1 0 1)) - (1 : Int32)))) = false) (a := (fX2_saysTaken S 0 (x1 &&& (((S.1 1 0 1)) - (1 : Int32))))) (b := (fX2_saysTaken S 1 ((x1 ^^^ (S.1 0 0 11)) &&& (((S.1 1 1 1)) - (1 : Int32))))) ?_ (fun ka kb => ?_)
  rotate_left
  · refine k_if_eq (b := (fX2_saysTaken S 2 (x1 &&& (((S.1 1 0 1)) - (1 : Int32))))) (tgt := 108) hx hb dX4_launch_98 (by decide) (fun c_1 => ?_) (fun c_1 => ?_)
    · skip
      refine lv_aload_n hx hb dX4_launch_108 rfl (lv_at hl 0 rfl) ?_
      refine g_8_5 hx hb hts hiX1 hown hK hw (kC_8 (fIx_lt S (S.1 0 0 13))) (hts (.fieldLink RX4 225 "BranchPredictor$Branch" "isPlainTaken" "Z") (by decide +kernel)) dX4_launch_109 ?_
      refine k_topz (z := (fX2_saysTaken S 0 (x1 &&& (((S.1 1 0 1)) - (1 : Int32))))) (by simp [uI, uL, uF]) ?_
      exact ka c_1
    · skip
      refine lv_aload_n hx hb dX4_launch_101 rfl (lv_at hl 0 rfl) ?_
      refine g_8_6 hx hb hts hiX1 hown hK hw (kC_8 (fIx_lt S (S.1 0 0 13))) (hts (.fieldLink RX4 229 "BranchPredictor$Branch" "isGlobalTaken" "Z") (by decide +kernel)) dX4_launch_102 ?_
      refine k_topz (z := (fX2_saysTaken S 1 ((x1 ^^^ (S.1 0 0 11)) &&& (((S.1 1 1 1)) - (1 : Int32))))) (by simp [uI, uL, uF]) ?_
      refine lv_goto (tgt := 112) hx hb dX4_launch_105 (by decide) ?_
      exact kb c_1
  show W p l e rmX4_launch s m [.ref (G.2.2 (0, 0)), .int (x1)].toArray below meth c H locs 0 0 (MQ below (kQ G kC Z A (some (.int (bI ((fX4_launch S N1 x1).1)))) ((fX4_launch S N1 x1).2)) [.ref (G.2.2 (0, 0)), .int (x1)].toArray s 0 0 A) (F0 m 112 ls [.int (bI (if (fX2_saysTaken S 2 (x1 &&& (((S.1 1 0 1)) - (1 : Int32)))) = false then (fX2_saysTaken S 0 (x1 &&& (((S.1 1 0 1)) - (1 : Int32)))) else (fX2_saysTaken S 1 ((x1 ^^^ (S.1 0 0 11)) &&& (((S.1 1 1 1)) - (1 : Int32)))))), .ref (G.2.2 (8, (fIx S (S.1 0 0 13))))])
  refine p_8_7 (v := if (fX2_saysTaken S 2 (x1 &&& (((S.1 1 0 1)) - (1 : Int32)))) = false then (fX2_saysTaken S 0 (x1 &&& (((S.1 1 0 1)) - (1 : Int32)))) else (fX2_saysTaken S 1 ((x1 ^^^ (S.1 0 0 11)) &&& (((S.1 1 1 1)) - (1 : Int32))))) hx hb hts hiX1 hown hK hw (kC_8 (fIx_lt S (S.1 0 0 13))) (hts (.fieldLink RX4 232 "BranchPredictor$Branch" "isChoiceTaken" "Z") (by decide +kernel)) dX4_launch_112 (fun H locs hw => ?_)
  refine lv_aload_n hx hb dX4_launch_115 rfl (lv_at hl 0 rfl) ?_
  refine lv_aload_n hx hb dX4_launch_116 rfl (lv_at hl 1 rfl) ?_
  refine lv_iload_n hx hb dX4_launch_117 rfl (lv_at hl 2 rfl) ?_
  refine lv_aload_n hx hb dX4_launch_118 rfl (lv_at hl 0 rfl) ?_
  refine g_8_7 hx hb hts hiX1 hown hK hw (kC_8 (fIx_lt S (S.1 0 0 13))) (hts (.fieldLink RX4 232 "BranchPredictor$Branch" "isChoiceTaken" "Z") (by decide +kernel)) dX4_launch_119 ?_
  refine k_topz (z := if (fX2_saysTaken S 2 (x1 &&& (((S.1 1 0 1)) - (1 : Int32)))) = false then (fX2_saysTaken S 0 (x1 &&& (((S.1 1 0 1)) - (1 : Int32)))) else (fX2_saysTaken S 1 ((x1 ^^^ (S.1 0 0 11)) &&& (((S.1 1 1 1)) - (1 : Int32))))) (by simp [uI, uL, uF]) ?_
  refine k_callV (C := RX4) (n := 2) (rest := [.ref (G.2.2 (8, (fIx S (S.1 0 0 13))))]) ⟨hx, hb, hml, hown, hts⟩ (cX4c_loopPrediction l G Z (uF (uF (uF (uI (uI (uI (uI (uI S 8 (fIx S (S.1 0 0 13)) 0 x1) 8 (fIx S (S.1 0 0 13)) 1 (0 : Int32)) 8 (fIx S (S.1 0 0 13)) 2 (S.1 0 0 11)) 8 (fIx S (S.1 0 0 13)) 3 (x1 &&& (((S.1 1 0 1)) - (1 : Int32)))) 8 (fIx S (S.1 0 0 13)) 4 ((x1 ^^^ (S.1 0 0 11)) &&& (((S.1 1 1 1)) - (1 : Int32)))) 8 (fIx S (S.1 0 0 13)) 5 (fX2_saysTaken S 0 (x1 &&& (((S.1 1 0 1)) - (1 : Int32))))) 8 (fIx S (S.1 0 0 13)) 6 (fX2_saysTaken S 1 ((x1 ^^^ (S.1 0 0 11)) &&& (((S.1 1 1 1)) - (1 : Int32))))) 8 (fIx S (S.1 0 0 13)) 7 (if (fX2_saysTaken S 2 (x1 &&& (((S.1 1 0 1)) - (1 : Int32)))) = false then (fX2_saysTaken S 0 (x1 &&& (((S.1 1 0 1)) - (1 : Int32)))) else (fX2_saysTaken S 1 ((x1 ^^^ (S.1 0 0 11)) &&& (((S.1 1 1 1)) - (1 : Int32)))))) N1 (by simp [uI, uL, uF, h_N1]) h_N1b x1 (if (fX2_saysTaken S 2 (x1 &&& (((S.1 1 0 1)) - (1 : Int32)))) = false then (fX2_saysTaken S 0 (x1 &&& (((S.1 1 0 1)) - (1 : Int32)))) else (fX2_saysTaken S 1 ((x1 ^^^ (S.1 0 0 11)) &&& (((S.1 1 1 1)) - (1 : Int32)))))) (cwV 2 hts gX4_launch_X4_loopPrediction rfl rfl rfl (by decide +kernel) ⟨Nat.le_of_ble_eq_true rfl, Nat.le_of_ble_eq_true rfl⟩) (k_recv hK hw kC_0 rfl rfl) hK hN hZ hA hw (Nat.zero_le _) (Nat.zero_le _) rfl hl.1 rfl (Nat.le_of_ble_eq_true rfl) dX4_launch_122 (fun H locs hw => ?_)
  refine W.eq (g2 := F0 m 125 ls [.int (bI ((fX4_loopPrediction (uF (uF (uF (uI (uI (uI (uI (uI S 8 (fIx S (S.1 0 0 13)) 0 x1) 8 (fIx S (S.1 0 0 13)) 1 (0 : Int32)) 8 (fIx S (S.1 0 0 13)) 2 (S.1 0 0 11)) 8 (fIx S (S.1 0 0 13)) 3 (x1 &&& (((S.1 1 0 1)) - (1 : Int32)))) 8 (fIx S (S.1 0 0 13)) 4 ((x1 ^^^ (S.1 0 0 11)) &&& (((S.1 1 1 1)) - (1 : Int32)))) 8 (fIx S (S.1 0 0 13)) 5 (fX2_saysTaken S 0 (x1 &&& (((S.1 1 0 1)) - (1 : Int32))))) 8 (fIx S (S.1 0 0 13)) 6 (fX2_saysTaken S 1 ((x1 ^^^ (S.1 0 0 11)) &&& (((S.1 1 1 1)) - (1 : Int32))))) 8 (fIx S (S.1 0 0 13)) 7 (if (fX2_saysTaken S 2 (x1 &&& (((S.1 1 0 1)) - (1 : Int32)))) = false then (fX2_saysTaken S 0 (x1 &&& (((S.1 1 0 1)) - (1 : Int32)))) else (fX2_saysTaken S 1 ((x1 ^^^ (S.1 0 0 11)) &&& (((S.1 1 1 1)) - (1 : Int32)))))) N1 x1 (if (fX2_saysTaken S 2 (x1 &&& (((S.1 1 0 1)) - (1 : Int32)))) = false then (fX2_saysTaken S 0 (x1 &&& (((S.1 1 0 1)) - (1 : Int32)))) else (fX2_saysTaken S 1 ((x1 ^^^ (S.1 0 0 11)) &&& (((S.1 1 1 1)) - (1 : Int32)))))))), .ref (G.2.2 (8, (fIx S (S.1 0 0 13))))]) rfl ?_
  refine p_8_8 (v := (fX4_loopPrediction (uF (uF (uF (uI (uI (uI (uI (uI S 8 (fIx S (S.1 0 0 13)) 0 x1) 8 (fIx S (S.1 0 0 13)) 1 (0 : Int32)) 8 (fIx S (S.1 0 0 13)) 2 (S.1 0 0 11)) 8 (fIx S (S.1 0 0 13)) 3 (x1 &&& (((S.1 1 0 1)) - (1 : Int32)))) 8 (fIx S (S.1 0 0 13)) 4 ((x1 ^^^ (S.1 0 0 11)) &&& (((S.1 1 1 1)) - (1 : Int32)))) 8 (fIx S (S.1 0 0 13)) 5 (fX2_saysTaken S 0 (x1 &&& (((S.1 1 0 1)) - (1 : Int32))))) 8 (fIx S (S.1 0 0 13)) 6 (fX2_saysTaken S 1 ((x1 ^^^ (S.1 0 0 11)) &&& (((S.1 1 1 1)) - (1 : Int32))))) 8 (fIx S (S.1 0 0 13)) 7 (if (fX2_saysTaken S 2 (x1 &&& (((S.1 1 0 1)) - (1 : Int32)))) = false then (fX2_saysTaken S 0 (x1 &&& (((S.1 1 0 1)) - (1 : Int32)))) else (fX2_saysTaken S 1 ((x1 ^^^ (S.1 0 0 11)) &&& (((S.1 1 1 1)) - (1 : Int32)))))) N1 x1 (if (fX2_saysTaken S 2 (x1 &&& (((S.1 1 0 1)) - (1 : Int32)))) = false then (fX2_saysTaken S 0 (x1 &&& (((S.1 1 0 1)) - (1 : Int32)))) else (fX2_saysTaken S 1 ((x1 ^^^ (S.1 0 0 11)) &&& (((S.1 1 1 1)) - (1 : Int32))))))) hx hb hts hiX1 hown hK hw (kC_8 (fIx_lt S (S.1 0 0 13))) (hts (.fieldLink RX4 239 "BranchPredictor$Branch" "isPredictedTaken" "Z") (by decide +kernel)) dX4_launch_125 (fun H locs hw => ?_)
  refine lv_aload_n hx hb dX4_launch_128 rfl (lv_at hl 1 rfl) ?_
  refine lv_dup hx hb dX4_launch_129 rfl ?_
  refine g_0_13 hx hb hts hiX4 hown hK hw kC_0 (hts (.fieldLink RX4 79 "BranchPredictor" "flying" "I") (by decide +kernel)) dX4_launch_130 ?_
  refine k_topi (z := S.1 0 0 13) (by simp [uI, uL, uF]) ?_
  refine lv_iconst (v := 1) hx hb dX4_launch_133 (by decide) ?_
  refine lv_iadd hx hb dX4_launch_134 ?_
  refine p_0_13 (v := (S.1 0 0 13) + (1 : Int32)) hx hb hts hiX4 hown hK hw kC_0 (hts (.fieldLink RX4 79 "BranchPredictor" "flying" "I") (by decide +kernel)) dX4_launch_135 (fun H locs hw => ?_)
  refine lv_aload_n hx hb dX4_launch_138 rfl (lv_at hl 1 rfl) ?_
  refine lv_aload_n hx hb dX4_launch_139 rfl (lv_at hl 1 rfl) ?_
  refine lv_aload_n hx hb dX4_launch_140 rfl (lv_at hl 1 rfl) ?_
  refine g_0_11 hx hb hts hiX4 hown hK hw kC_0 (hts (.fieldLink RX4 119 "BranchPredictor" "outcomes" "I") (by decide +kernel)) dX4_launch_141 ?_
  refine k_topi (z := S.1 0 0 11) (by simp [uI, uL, uF]) ?_
  refine lv_aload_n hx hb dX4_launch_144 rfl (lv_at hl 0 rfl) ?_
  refine g_8_8 hx hb hts hiX1 hown hK hw (kC_8 (fIx_lt S (S.1 0 0 13))) (hts (.fieldLink RX4 239 "BranchPredictor$Branch" "isPredictedTaken" "Z") (by decide +kernel)) dX4_launch_145 ?_
  refine k_topz (z := (fX4_loopPrediction (uF (uF (uF (uI (uI (uI (uI (uI S 8 (fIx S (S.1 0 0 13)) 0 x1) 8 (fIx S (S.1 0 0 13)) 1 (0 : Int32)) 8 (fIx S (S.1 0 0 13)) 2 (S.1 0 0 11)) 8 (fIx S (S.1 0 0 13)) 3 (x1 &&& (((S.1 1 0 1)) - (1 : Int32)))) 8 (fIx S (S.1 0 0 13)) 4 ((x1 ^^^ (S.1 0 0 11)) &&& (((S.1 1 1 1)) - (1 : Int32)))) 8 (fIx S (S.1 0 0 13)) 5 (fX2_saysTaken S 0 (x1 &&& (((S.1 1 0 1)) - (1 : Int32))))) 8 (fIx S (S.1 0 0 13)) 6 (fX2_saysTaken S 1 ((x1 ^^^ (S.1 0 0 11)) &&& (((S.1 1 1 1)) - (1 : Int32))))) 8 (fIx S (S.1 0 0 13)) 7 (if (fX2_saysTaken S 2 (x1 &&& (((S.1 1 0 1)) - (1 : Int32)))) = false then (fX2_saysTaken S 0 (x1 &&& (((S.1 1 0 1)) - (1 : Int32)))) else (fX2_saysTaken S 1 ((x1 ^^^ (S.1 0 0 11)) &&& (((S.1 1 1 1)) - (1 : Int32)))))) N1 x1 (if (fX2_saysTaken S 2 (x1 &&& (((S.1 1 0 1)) - (1 : Int32)))) = false then (fX2_saysTaken S 0 (x1 &&& (((S.1 1 0 1)) - (1 : Int32)))) else (fX2_saysTaken S 1 ((x1 ^^^ (S.1 0 0 11)) &&& (((S.1 1 1 1)) - (1 : Int32))))))) (by simp [uI, uL, uF]) ?_
  refine k_callV (C := RX4) (n := 2) (rest := [.ref (G.2.2 (0, 0))]) ⟨hx, hb, hml, hown, hts⟩ (cX4c_appended l G Z (uI (uF (uF (uF (uF (uI (uI (uI (uI (uI S 8 (fIx S (S.1 0 0 13)) 0 x1) 8 (fIx S (S.1 0 0 13)) 1 (0 : Int32)) 8 (fIx S (S.1 0 0 13)) 2 (S.1 0 0 11)) 8 (fIx S (S.1 0 0 13)) 3 (x1 &&& (((S.1 1 0 1)) - (1 : Int32)))) 8 (fIx S (S.1 0 0 13)) 4 ((x1 ^^^ (S.1 0 0 11)) &&& (((S.1 1 1 1)) - (1 : Int32)))) 8 (fIx S (S.1 0 0 13)) 5 (fX2_saysTaken S 0 (x1 &&& (((S.1 1 0 1)) - (1 : Int32))))) 8 (fIx S (S.1 0 0 13)) 6 (fX2_saysTaken S 1 ((x1 ^^^ (S.1 0 0 11)) &&& (((S.1 1 1 1)) - (1 : Int32))))) 8 (fIx S (S.1 0 0 13)) 7 (if (fX2_saysTaken S 2 (x1 &&& (((S.1 1 0 1)) - (1 : Int32)))) = false then (fX2_saysTaken S 0 (x1 &&& (((S.1 1 0 1)) - (1 : Int32)))) else (fX2_saysTaken S 1 ((x1 ^^^ (S.1 0 0 11)) &&& (((S.1 1 1 1)) - (1 : Int32)))))) 8 (fIx S (S.1 0 0 13)) 8 (fX4_loopPrediction (uF (uF (uF (uI (uI (uI (uI (uI S 8 (fIx S (S.1 0 0 13)) 0 x1) 8 (fIx S (S.1 0 0 13)) 1 (0 : Int32)) 8 (fIx S (S.1 0 0 13)) 2 (S.1 0 0 11)) 8 (fIx S (S.1 0 0 13)) 3 (x1 &&& (((S.1 1 0 1)) - (1 : Int32)))) 8 (fIx S (S.1 0 0 13)) 4 ((x1 ^^^ (S.1 0 0 11)) &&& (((S.1 1 1 1)) - (1 : Int32)))) 8 (fIx S (S.1 0 0 13)) 5 (fX2_saysTaken S 0 (x1 &&& (((S.1 1 0 1)) - (1 : Int32))))) 8 (fIx S (S.1 0 0 13)) 6 (fX2_saysTaken S 1 ((x1 ^^^ (S.1 0 0 11)) &&& (((S.1 1 1 1)) - (1 : Int32))))) 8 (fIx S (S.1 0 0 13)) 7 (if (fX2_saysTaken S 2 (x1 &&& (((S.1 1 0 1)) - (1 : Int32)))) = false then (fX2_saysTaken S 0 (x1 &&& (((S.1 1 0 1)) - (1 : Int32)))) else (fX2_saysTaken S 1 ((x1 ^^^ (S.1 0 0 11)) &&& (((S.1 1 1 1)) - (1 : Int32)))))) N1 x1 (if (fX2_saysTaken S 2 (x1 &&& (((S.1 1 0 1)) - (1 : Int32)))) = false then (fX2_saysTaken S 0 (x1 &&& (((S.1 1 0 1)) - (1 : Int32)))) else (fX2_saysTaken S 1 ((x1 ^^^ (S.1 0 0 11)) &&& (((S.1 1 1 1)) - (1 : Int32))))))) 0 0 13 ((S.1 0 0 13) + (1 : Int32))) (S.1 0 0 11) (fX4_loopPrediction (uF (uF (uF (uI (uI (uI (uI (uI S 8 (fIx S (S.1 0 0 13)) 0 x1) 8 (fIx S (S.1 0 0 13)) 1 (0 : Int32)) 8 (fIx S (S.1 0 0 13)) 2 (S.1 0 0 11)) 8 (fIx S (S.1 0 0 13)) 3 (x1 &&& (((S.1 1 0 1)) - (1 : Int32)))) 8 (fIx S (S.1 0 0 13)) 4 ((x1 ^^^ (S.1 0 0 11)) &&& (((S.1 1 1 1)) - (1 : Int32)))) 8 (fIx S (S.1 0 0 13)) 5 (fX2_saysTaken S 0 (x1 &&& (((S.1 1 0 1)) - (1 : Int32))))) 8 (fIx S (S.1 0 0 13)) 6 (fX2_saysTaken S 1 ((x1 ^^^ (S.1 0 0 11)) &&& (((S.1 1 1 1)) - (1 : Int32))))) 8 (fIx S (S.1 0 0 13)) 7 (if (fX2_saysTaken S 2 (x1 &&& (((S.1 1 0 1)) - (1 : Int32)))) = false then (fX2_saysTaken S 0 (x1 &&& (((S.1 1 0 1)) - (1 : Int32)))) else (fX2_saysTaken S 1 ((x1 ^^^ (S.1 0 0 11)) &&& (((S.1 1 1 1)) - (1 : Int32)))))) N1 x1 (if (fX2_saysTaken S 2 (x1 &&& (((S.1 1 0 1)) - (1 : Int32)))) = false then (fX2_saysTaken S 0 (x1 &&& (((S.1 1 0 1)) - (1 : Int32)))) else (fX2_saysTaken S 1 ((x1 ^^^ (S.1 0 0 11)) &&& (((S.1 1 1 1)) - (1 : Int32))))))) (cwV 2 hts gX4_launch_X4_appended rfl rfl rfl (by decide +kernel) ⟨Nat.le_of_ble_eq_true rfl, Nat.le_of_ble_eq_true rfl⟩) (k_recv hK hw kC_0 rfl rfl) hK hN hZ hA hw (Nat.zero_le _) (Nat.zero_le _) rfl hl.1 rfl (Nat.le_of_ble_eq_true rfl) dX4_launch_148 (fun H locs hw => ?_)
  refine W.eq (g2 := F0 m 151 ls [.int ((((2 : Int32) * (S.1 0 0 11)) + (if (fX4_loopPrediction (uF (uF (uF (uI (uI (uI (uI (uI S 8 (fIx S (S.1 0 0 13)) 0 x1) 8 (fIx S (S.1 0 0 13)) 1 (0 : Int32)) 8 (fIx S (S.1 0 0 13)) 2 (S.1 0 0 11)) 8 (fIx S (S.1 0 0 13)) 3 (x1 &&& (((S.1 1 0 1)) - (1 : Int32)))) 8 (fIx S (S.1 0 0 13)) 4 ((x1 ^^^ (S.1 0 0 11)) &&& (((S.1 1 1 1)) - (1 : Int32)))) 8 (fIx S (S.1 0 0 13)) 5 (fX2_saysTaken S 0 (x1 &&& (((S.1 1 0 1)) - (1 : Int32))))) 8 (fIx S (S.1 0 0 13)) 6 (fX2_saysTaken S 1 ((x1 ^^^ (S.1 0 0 11)) &&& (((S.1 1 1 1)) - (1 : Int32))))) 8 (fIx S (S.1 0 0 13)) 7 (if (fX2_saysTaken S 2 (x1 &&& (((S.1 1 0 1)) - (1 : Int32)))) = false then (fX2_saysTaken S 0 (x1 &&& (((S.1 1 0 1)) - (1 : Int32)))) else (fX2_saysTaken S 1 ((x1 ^^^ (S.1 0 0 11)) &&& (((S.1 1 1 1)) - (1 : Int32)))))) N1 x1 (if (fX2_saysTaken S 2 (x1 &&& (((S.1 1 0 1)) - (1 : Int32)))) = false then (fX2_saysTaken S 0 (x1 &&& (((S.1 1 0 1)) - (1 : Int32)))) else (fX2_saysTaken S 1 ((x1 ^^^ (S.1 0 0 11)) &&& (((S.1 1 1 1)) - (1 : Int32)))))) = false then (0 : Int32) else (1 : Int32))) &&& (((1 : Int32) <<< (((uI (uF (uF (uF (uF (uI (uI (uI (uI (uI S 8 (fIx S (S.1 0 0 13)) 0 x1) 8 (fIx S (S.1 0 0 13)) 1 (0 : Int32)) 8 (fIx S (S.1 0 0 13)) 2 (S.1 0 0 11)) 8 (fIx S (S.1 0 0 13)) 3 (x1 &&& (((S.1 1 0 1)) - (1 : Int32)))) 8 (fIx S (S.1 0 0 13)) 4 ((x1 ^^^ (S.1 0 0 11)) &&& (((S.1 1 1 1)) - (1 : Int32)))) 8 (fIx S (S.1 0 0 13)) 5 (fX2_saysTaken S 0 (x1 &&& (((S.1 1 0 1)) - (1 : Int32))))) 8 (fIx S (S.1 0 0 13)) 6 (fX2_saysTaken S 1 ((x1 ^^^ (S.1 0 0 11)) &&& (((S.1 1 1 1)) - (1 : Int32))))) 8 (fIx S (S.1 0 0 13)) 7 (if (fX2_saysTaken S 2 (x1 &&& (((S.1 1 0 1)) - (1 : Int32)))) = false then (fX2_saysTaken S 0 (x1 &&& (((S.1 1 0 1)) - (1 : Int32)))) else (fX2_saysTaken S 1 ((x1 ^^^ (S.1 0 0 11)) &&& (((S.1 1 1 1)) - (1 : Int32)))))) 8 (fIx S (S.1 0 0 13)) 8 (fX4_loopPrediction (uF (uF (uF (uI (uI (uI (uI (uI S 8 (fIx S (S.1 0 0 13)) 0 x1) 8 (fIx S (S.1 0 0 13)) 1 (0 : Int32)) 8 (fIx S (S.1 0 0 13)) 2 (S.1 0 0 11)) 8 (fIx S (S.1 0 0 13)) 3 (x1 &&& (((S.1 1 0 1)) - (1 : Int32)))) 8 (fIx S (S.1 0 0 13)) 4 ((x1 ^^^ (S.1 0 0 11)) &&& (((S.1 1 1 1)) - (1 : Int32)))) 8 (fIx S (S.1 0 0 13)) 5 (fX2_saysTaken S 0 (x1 &&& (((S.1 1 0 1)) - (1 : Int32))))) 8 (fIx S (S.1 0 0 13)) 6 (fX2_saysTaken S 1 ((x1 ^^^ (S.1 0 0 11)) &&& (((S.1 1 1 1)) - (1 : Int32))))) 8 (fIx S (S.1 0 0 13)) 7 (if (fX2_saysTaken S 2 (x1 &&& (((S.1 1 0 1)) - (1 : Int32)))) = false then (fX2_saysTaken S 0 (x1 &&& (((S.1 1 0 1)) - (1 : Int32)))) else (fX2_saysTaken S 1 ((x1 ^^^ (S.1 0 0 11)) &&& (((S.1 1 1 1)) - (1 : Int32)))))) N1 x1 (if (fX2_saysTaken S 2 (x1 &&& (((S.1 1 0 1)) - (1 : Int32)))) = false then (fX2_saysTaken S 0 (x1 &&& (((S.1 1 0 1)) - (1 : Int32)))) else (fX2_saysTaken S 1 ((x1 ^^^ (S.1 0 0 11)) &&& (((S.1 1 1 1)) - (1 : Int32))))))) 0 0 13 ((S.1 0 0 13) + (1 : Int32))).1 0 0 10) &&& 31)) - (1 : Int32))), .ref (G.2.2 (0, 0))]) rfl ?_
  refine k_topi (z := (((2 : Int32) * (S.1 0 0 11)) + (if (fX4_loopPrediction (uF (uF (uF (uI (uI (uI (uI (uI S 8 (fIx S (S.1 0 0 13)) 0 x1) 8 (fIx S (S.1 0 0 13)) 1 (0 : Int32)) 8 (fIx S (S.1 0 0 13)) 2 (S.1 0 0 11)) 8 (fIx S (S.1 0 0 13)) 3 (x1 &&& (((S.1 1 0 1)) - (1 : Int32)))) 8 (fIx S (S.1 0 0 13)) 4 ((x1 ^^^ (S.1 0 0 11)) &&& (((S.1 1 1 1)) - (1 : Int32)))) 8 (fIx S (S.1 0 0 13)) 5 (fX2_saysTaken S 0 (x1 &&& (((S.1 1 0 1)) - (1 : Int32))))) 8 (fIx S (S.1 0 0 13)) 6 (fX2_saysTaken S 1 ((x1 ^^^ (S.1 0 0 11)) &&& (((S.1 1 1 1)) - (1 : Int32))))) 8 (fIx S (S.1 0 0 13)) 7 (if (fX2_saysTaken S 2 (x1 &&& (((S.1 1 0 1)) - (1 : Int32)))) = false then (fX2_saysTaken S 0 (x1 &&& (((S.1 1 0 1)) - (1 : Int32)))) else (fX2_saysTaken S 1 ((x1 ^^^ (S.1 0 0 11)) &&& (((S.1 1 1 1)) - (1 : Int32)))))) N1 x1 (if (fX2_saysTaken S 2 (x1 &&& (((S.1 1 0 1)) - (1 : Int32)))) = false then (fX2_saysTaken S 0 (x1 &&& (((S.1 1 0 1)) - (1 : Int32)))) else (fX2_saysTaken S 1 ((x1 ^^^ (S.1 0 0 11)) &&& (((S.1 1 1 1)) - (1 : Int32)))))) = false then (0 : Int32) else (1 : Int32))) &&& (((1 : Int32) <<< (((S.1 0 0 10)) &&& 31)) - (1 : Int32))) (by simp [uI, uL, uF]) ?_
  refine p_0_11 (v := (((2 : Int32) * (S.1 0 0 11)) + (if (fX4_loopPrediction (uF (uF (uF (uI (uI (uI (uI (uI S 8 (fIx S (S.1 0 0 13)) 0 x1) 8 (fIx S (S.1 0 0 13)) 1 (0 : Int32)) 8 (fIx S (S.1 0 0 13)) 2 (S.1 0 0 11)) 8 (fIx S (S.1 0 0 13)) 3 (x1 &&& (((S.1 1 0 1)) - (1 : Int32)))) 8 (fIx S (S.1 0 0 13)) 4 ((x1 ^^^ (S.1 0 0 11)) &&& (((S.1 1 1 1)) - (1 : Int32)))) 8 (fIx S (S.1 0 0 13)) 5 (fX2_saysTaken S 0 (x1 &&& (((S.1 1 0 1)) - (1 : Int32))))) 8 (fIx S (S.1 0 0 13)) 6 (fX2_saysTaken S 1 ((x1 ^^^ (S.1 0 0 11)) &&& (((S.1 1 1 1)) - (1 : Int32))))) 8 (fIx S (S.1 0 0 13)) 7 (if (fX2_saysTaken S 2 (x1 &&& (((S.1 1 0 1)) - (1 : Int32)))) = false then (fX2_saysTaken S 0 (x1 &&& (((S.1 1 0 1)) - (1 : Int32)))) else (fX2_saysTaken S 1 ((x1 ^^^ (S.1 0 0 11)) &&& (((S.1 1 1 1)) - (1 : Int32)))))) N1 x1 (if (fX2_saysTaken S 2 (x1 &&& (((S.1 1 0 1)) - (1 : Int32)))) = false then (fX2_saysTaken S 0 (x1 &&& (((S.1 1 0 1)) - (1 : Int32)))) else (fX2_saysTaken S 1 ((x1 ^^^ (S.1 0 0 11)) &&& (((S.1 1 1 1)) - (1 : Int32)))))) = false then (0 : Int32) else (1 : Int32))) &&& (((1 : Int32) <<< (((S.1 0 0 10)) &&& 31)) - (1 : Int32))) hx hb hts hiX4 hown hK hw kC_0 (hts (.fieldLink RX4 119 "BranchPredictor" "outcomes" "I") (by decide +kernel)) dX4_launch_151 (fun H locs hw => ?_)
  refine lv_aload_n hx hb dX4_launch_154 rfl (lv_at hl 0 rfl) ?_
  refine g_8_8 hx hb hts hiX1 hown hK hw (kC_8 (fIx_lt S (S.1 0 0 13))) (hts (.fieldLink RX4 239 "BranchPredictor$Branch" "isPredictedTaken" "Z") (by decide +kernel)) dX4_launch_155 ?_
  refine k_topz (z := (fX4_loopPrediction (uF (uF (uF (uI (uI (uI (uI (uI S 8 (fIx S (S.1 0 0 13)) 0 x1) 8 (fIx S (S.1 0 0 13)) 1 (0 : Int32)) 8 (fIx S (S.1 0 0 13)) 2 (S.1 0 0 11)) 8 (fIx S (S.1 0 0 13)) 3 (x1 &&& (((S.1 1 0 1)) - (1 : Int32)))) 8 (fIx S (S.1 0 0 13)) 4 ((x1 ^^^ (S.1 0 0 11)) &&& (((S.1 1 1 1)) - (1 : Int32)))) 8 (fIx S (S.1 0 0 13)) 5 (fX2_saysTaken S 0 (x1 &&& (((S.1 1 0 1)) - (1 : Int32))))) 8 (fIx S (S.1 0 0 13)) 6 (fX2_saysTaken S 1 ((x1 ^^^ (S.1 0 0 11)) &&& (((S.1 1 1 1)) - (1 : Int32))))) 8 (fIx S (S.1 0 0 13)) 7 (if (fX2_saysTaken S 2 (x1 &&& (((S.1 1 0 1)) - (1 : Int32)))) = false then (fX2_saysTaken S 0 (x1 &&& (((S.1 1 0 1)) - (1 : Int32)))) else (fX2_saysTaken S 1 ((x1 ^^^ (S.1 0 0 11)) &&& (((S.1 1 1 1)) - (1 : Int32)))))) N1 x1 (if (fX2_saysTaken S 2 (x1 &&& (((S.1 1 0 1)) - (1 : Int32)))) = false then (fX2_saysTaken S 0 (x1 &&& (((S.1 1 0 1)) - (1 : Int32)))) else (fX2_saysTaken S 1 ((x1 ^^^ (S.1 0 0 11)) &&& (((S.1 1 1 1)) - (1 : Int32))))))) (by simp [uI, uL, uF]) ?_
  exact k_zret (r := (fX4_loopPrediction (uF (uF (uF (uI (uI (uI (uI (uI S 8 (fIx S (S.1 0 0 13)) 0 x1) 8 (fIx S (S.1 0 0 13)) 1 (0 : Int32)) 8 (fIx S (S.1 0 0 13)) 2 (S.1 0 0 11)) 8 (fIx S (S.1 0 0 13)) 3 (x1 &&& (((S.1 1 0 1)) - (1 : Int32)))) 8 (fIx S (S.1 0 0 13)) 4 ((x1 ^^^ (S.1 0 0 11)) &&& (((S.1 1 1 1)) - (1 : Int32)))) 8 (fIx S (S.1 0 0 13)) 5 (fX2_saysTaken S 0 (x1 &&& (((S.1 1 0 1)) - (1 : Int32))))) 8 (fIx S (S.1 0 0 13)) 6 (fX2_saysTaken S 1 ((x1 ^^^ (S.1 0 0 11)) &&& (((S.1 1 1 1)) - (1 : Int32))))) 8 (fIx S (S.1 0 0 13)) 7 (if (fX2_saysTaken S 2 (x1 &&& (((S.1 1 0 1)) - (1 : Int32)))) = false then (fX2_saysTaken S 0 (x1 &&& (((S.1 1 0 1)) - (1 : Int32)))) else (fX2_saysTaken S 1 ((x1 ^^^ (S.1 0 0 11)) &&& (((S.1 1 1 1)) - (1 : Int32)))))) N1 x1 (if (fX2_saysTaken S 2 (x1 &&& (((S.1 1 0 1)) - (1 : Int32)))) = false then (fX2_saysTaken S 0 (x1 &&& (((S.1 1 0 1)) - (1 : Int32)))) else (fX2_saysTaken S 1 ((x1 ^^^ (S.1 0 0 11)) &&& (((S.1 1 1 1)) - (1 : Int32))))))) hx hb hr hlocks hK hw (congrArg (fun z : Bool × uS => some (Value.int (bI (z.1)))) (show (fX4_launch S N1 x1) = ((fX4_loopPrediction (uF (uF (uF (uI (uI (uI (uI (uI S 8 (fIx S (S.1 0 0 13)) 0 x1) 8 (fIx S (S.1 0 0 13)) 1 (0 : Int32)) 8 (fIx S (S.1 0 0 13)) 2 (S.1 0 0 11)) 8 (fIx S (S.1 0 0 13)) 3 (x1 &&& (((S.1 1 0 1)) - (1 : Int32)))) 8 (fIx S (S.1 0 0 13)) 4 ((x1 ^^^ (S.1 0 0 11)) &&& (((S.1 1 1 1)) - (1 : Int32)))) 8 (fIx S (S.1 0 0 13)) 5 (fX2_saysTaken S 0 (x1 &&& (((S.1 1 0 1)) - (1 : Int32))))) 8 (fIx S (S.1 0 0 13)) 6 (fX2_saysTaken S 1 ((x1 ^^^ (S.1 0 0 11)) &&& (((S.1 1 1 1)) - (1 : Int32))))) 8 (fIx S (S.1 0 0 13)) 7 (if (fX2_saysTaken S 2 (x1 &&& (((S.1 1 0 1)) - (1 : Int32)))) = false then (fX2_saysTaken S 0 (x1 &&& (((S.1 1 0 1)) - (1 : Int32)))) else (fX2_saysTaken S 1 ((x1 ^^^ (S.1 0 0 11)) &&& (((S.1 1 1 1)) - (1 : Int32)))))) N1 x1 (if (fX2_saysTaken S 2 (x1 &&& (((S.1 1 0 1)) - (1 : Int32)))) = false then (fX2_saysTaken S 0 (x1 &&& (((S.1 1 0 1)) - (1 : Int32)))) else (fX2_saysTaken S 1 ((x1 ^^^ (S.1 0 0 11)) &&& (((S.1 1 1 1)) - (1 : Int32)))))), (uI (uI (uF (uF (uF (uF (uI (uI (uI (uI (uI S 8 (fIx S (S.1 0 0 13)) 0 x1) 8 (fIx S (S.1 0 0 13)) 1 (0 : Int32)) 8 (fIx S (S.1 0 0 13)) 2 (S.1 0 0 11)) 8 (fIx S (S.1 0 0 13)) 3 (x1 &&& (((S.1 1 0 1)) - (1 : Int32)))) 8 (fIx S (S.1 0 0 13)) 4 ((x1 ^^^ (S.1 0 0 11)) &&& (((S.1 1 1 1)) - (1 : Int32)))) 8 (fIx S (S.1 0 0 13)) 5 (fX2_saysTaken S 0 (x1 &&& (((S.1 1 0 1)) - (1 : Int32))))) 8 (fIx S (S.1 0 0 13)) 6 (fX2_saysTaken S 1 ((x1 ^^^ (S.1 0 0 11)) &&& (((S.1 1 1 1)) - (1 : Int32))))) 8 (fIx S (S.1 0 0 13)) 7 (if (fX2_saysTaken S 2 (x1 &&& (((S.1 1 0 1)) - (1 : Int32)))) = false then (fX2_saysTaken S 0 (x1 &&& (((S.1 1 0 1)) - (1 : Int32)))) else (fX2_saysTaken S 1 ((x1 ^^^ (S.1 0 0 11)) &&& (((S.1 1 1 1)) - (1 : Int32)))))) 8 (fIx S (S.1 0 0 13)) 8 (fX4_loopPrediction (uF (uF (uF (uI (uI (uI (uI (uI S 8 (fIx S (S.1 0 0 13)) 0 x1) 8 (fIx S (S.1 0 0 13)) 1 (0 : Int32)) 8 (fIx S (S.1 0 0 13)) 2 (S.1 0 0 11)) 8 (fIx S (S.1 0 0 13)) 3 (x1 &&& (((S.1 1 0 1)) - (1 : Int32)))) 8 (fIx S (S.1 0 0 13)) 4 ((x1 ^^^ (S.1 0 0 11)) &&& (((S.1 1 1 1)) - (1 : Int32)))) 8 (fIx S (S.1 0 0 13)) 5 (fX2_saysTaken S 0 (x1 &&& (((S.1 1 0 1)) - (1 : Int32))))) 8 (fIx S (S.1 0 0 13)) 6 (fX2_saysTaken S 1 ((x1 ^^^ (S.1 0 0 11)) &&& (((S.1 1 1 1)) - (1 : Int32))))) 8 (fIx S (S.1 0 0 13)) 7 (if (fX2_saysTaken S 2 (x1 &&& (((S.1 1 0 1)) - (1 : Int32)))) = false then (fX2_saysTaken S 0 (x1 &&& (((S.1 1 0 1)) - (1 : Int32)))) else (fX2_saysTaken S 1 ((x1 ^^^ (S.1 0 0 11)) &&& (((S.1 1 1 1)) - (1 : Int32)))))) N1 x1 (if (fX2_saysTaken S 2 (x1 &&& (((S.1 1 0 1)) - (1 : Int32)))) = false then (fX2_saysTaken S 0 (x1 &&& (((S.1 1 0 1)) - (1 : Int32)))) else (fX2_saysTaken S 1 ((x1 ^^^ (S.1 0 0 11)) &&& (((S.1 1 1 1)) - (1 : Int32))))))) 0 0 13 ((S.1 0 0 13) + (1 : Int32))) 0 0 11 ((((2 : Int32) * (S.1 0 0 11)) + (if (fX4_loopPrediction (uF (uF (uF (uI (uI (uI (uI (uI S 8 (fIx S (S.1 0 0 13)) 0 x1) 8 (fIx S (S.1 0 0 13)) 1 (0 : Int32)) 8 (fIx S (S.1 0 0 13)) 2 (S.1 0 0 11)) 8 (fIx S (S.1 0 0 13)) 3 (x1 &&& (((S.1 1 0 1)) - (1 : Int32)))) 8 (fIx S (S.1 0 0 13)) 4 ((x1 ^^^ (S.1 0 0 11)) &&& (((S.1 1 1 1)) - (1 : Int32)))) 8 (fIx S (S.1 0 0 13)) 5 (fX2_saysTaken S 0 (x1 &&& (((S.1 1 0 1)) - (1 : Int32))))) 8 (fIx S (S.1 0 0 13)) 6 (fX2_saysTaken S 1 ((x1 ^^^ (S.1 0 0 11)) &&& (((S.1 1 1 1)) - (1 : Int32))))) 8 (fIx S (S.1 0 0 13)) 7 (if (fX2_saysTaken S 2 (x1 &&& (((S.1 1 0 1)) - (1 : Int32)))) = false then (fX2_saysTaken S 0 (x1 &&& (((S.1 1 0 1)) - (1 : Int32)))) else (fX2_saysTaken S 1 ((x1 ^^^ (S.1 0 0 11)) &&& (((S.1 1 1 1)) - (1 : Int32)))))) N1 x1 (if (fX2_saysTaken S 2 (x1 &&& (((S.1 1 0 1)) - (1 : Int32)))) = false then (fX2_saysTaken S 0 (x1 &&& (((S.1 1 0 1)) - (1 : Int32)))) else (fX2_saysTaken S 1 ((x1 ^^^ (S.1 0 0 11)) &&& (((S.1 1 1 1)) - (1 : Int32)))))) = false then (0 : Int32) else (1 : Int32))) &&& (((1 : Int32) <<< (((S.1 0 0 10)) &&& 31)) - (1 : Int32))))) from by unfold fX4_launch; rfl)) (congrArg (fun z : Bool × uS => z.2) (show (fX4_launch S N1 x1) = ((fX4_loopPrediction (uF (uF (uF (uI (uI (uI (uI (uI S 8 (fIx S (S.1 0 0 13)) 0 x1) 8 (fIx S (S.1 0 0 13)) 1 (0 : Int32)) 8 (fIx S (S.1 0 0 13)) 2 (S.1 0 0 11)) 8 (fIx S (S.1 0 0 13)) 3 (x1 &&& (((S.1 1 0 1)) - (1 : Int32)))) 8 (fIx S (S.1 0 0 13)) 4 ((x1 ^^^ (S.1 0 0 11)) &&& (((S.1 1 1 1)) - (1 : Int32)))) 8 (fIx S (S.1 0 0 13)) 5 (fX2_saysTaken S 0 (x1 &&& (((S.1 1 0 1)) - (1 : Int32))))) 8 (fIx S (S.1 0 0 13)) 6 (fX2_saysTaken S 1 ((x1 ^^^ (S.1 0 0 11)) &&& (((S.1 1 1 1)) - (1 : Int32))))) 8 (fIx S (S.1 0 0 13)) 7 (if (fX2_saysTaken S 2 (x1 &&& (((S.1 1 0 1)) - (1 : Int32)))) = false then (fX2_saysTaken S 0 (x1 &&& (((S.1 1 0 1)) - (1 : Int32)))) else (fX2_saysTaken S 1 ((x1 ^^^ (S.1 0 0 11)) &&& (((S.1 1 1 1)) - (1 : Int32)))))) N1 x1 (if (fX2_saysTaken S 2 (x1 &&& (((S.1 1 0 1)) - (1 : Int32)))) = false then (fX2_saysTaken S 0 (x1 &&& (((S.1 1 0 1)) - (1 : Int32)))) else (fX2_saysTaken S 1 ((x1 ^^^ (S.1 0 0 11)) &&& (((S.1 1 1 1)) - (1 : Int32)))))), (uI (uI (uF (uF (uF (uF (uI (uI (uI (uI (uI S 8 (fIx S (S.1 0 0 13)) 0 x1) 8 (fIx S (S.1 0 0 13)) 1 (0 : Int32)) 8 (fIx S (S.1 0 0 13)) 2 (S.1 0 0 11)) 8 (fIx S (S.1 0 0 13)) 3 (x1 &&& (((S.1 1 0 1)) - (1 : Int32)))) 8 (fIx S (S.1 0 0 13)) 4 ((x1 ^^^ (S.1 0 0 11)) &&& (((S.1 1 1 1)) - (1 : Int32)))) 8 (fIx S (S.1 0 0 13)) 5 (fX2_saysTaken S 0 (x1 &&& (((S.1 1 0 1)) - (1 : Int32))))) 8 (fIx S (S.1 0 0 13)) 6 (fX2_saysTaken S 1 ((x1 ^^^ (S.1 0 0 11)) &&& (((S.1 1 1 1)) - (1 : Int32))))) 8 (fIx S (S.1 0 0 13)) 7 (if (fX2_saysTaken S 2 (x1 &&& (((S.1 1 0 1)) - (1 : Int32)))) = false then (fX2_saysTaken S 0 (x1 &&& (((S.1 1 0 1)) - (1 : Int32)))) else (fX2_saysTaken S 1 ((x1 ^^^ (S.1 0 0 11)) &&& (((S.1 1 1 1)) - (1 : Int32)))))) 8 (fIx S (S.1 0 0 13)) 8 (fX4_loopPrediction (uF (uF (uF (uI (uI (uI (uI (uI S 8 (fIx S (S.1 0 0 13)) 0 x1) 8 (fIx S (S.1 0 0 13)) 1 (0 : Int32)) 8 (fIx S (S.1 0 0 13)) 2 (S.1 0 0 11)) 8 (fIx S (S.1 0 0 13)) 3 (x1 &&& (((S.1 1 0 1)) - (1 : Int32)))) 8 (fIx S (S.1 0 0 13)) 4 ((x1 ^^^ (S.1 0 0 11)) &&& (((S.1 1 1 1)) - (1 : Int32)))) 8 (fIx S (S.1 0 0 13)) 5 (fX2_saysTaken S 0 (x1 &&& (((S.1 1 0 1)) - (1 : Int32))))) 8 (fIx S (S.1 0 0 13)) 6 (fX2_saysTaken S 1 ((x1 ^^^ (S.1 0 0 11)) &&& (((S.1 1 1 1)) - (1 : Int32))))) 8 (fIx S (S.1 0 0 13)) 7 (if (fX2_saysTaken S 2 (x1 &&& (((S.1 1 0 1)) - (1 : Int32)))) = false then (fX2_saysTaken S 0 (x1 &&& (((S.1 1 0 1)) - (1 : Int32)))) else (fX2_saysTaken S 1 ((x1 ^^^ (S.1 0 0 11)) &&& (((S.1 1 1 1)) - (1 : Int32)))))) N1 x1 (if (fX2_saysTaken S 2 (x1 &&& (((S.1 1 0 1)) - (1 : Int32)))) = false then (fX2_saysTaken S 0 (x1 &&& (((S.1 1 0 1)) - (1 : Int32)))) else (fX2_saysTaken S 1 ((x1 ^^^ (S.1 0 0 11)) &&& (((S.1 1 1 1)) - (1 : Int32))))))) 0 0 13 ((S.1 0 0 13) + (1 : Int32))) 0 0 11 ((((2 : Int32) * (S.1 0 0 11)) + (if (fX4_loopPrediction (uF (uF (uF (uI (uI (uI (uI (uI S 8 (fIx S (S.1 0 0 13)) 0 x1) 8 (fIx S (S.1 0 0 13)) 1 (0 : Int32)) 8 (fIx S (S.1 0 0 13)) 2 (S.1 0 0 11)) 8 (fIx S (S.1 0 0 13)) 3 (x1 &&& (((S.1 1 0 1)) - (1 : Int32)))) 8 (fIx S (S.1 0 0 13)) 4 ((x1 ^^^ (S.1 0 0 11)) &&& (((S.1 1 1 1)) - (1 : Int32)))) 8 (fIx S (S.1 0 0 13)) 5 (fX2_saysTaken S 0 (x1 &&& (((S.1 1 0 1)) - (1 : Int32))))) 8 (fIx S (S.1 0 0 13)) 6 (fX2_saysTaken S 1 ((x1 ^^^ (S.1 0 0 11)) &&& (((S.1 1 1 1)) - (1 : Int32))))) 8 (fIx S (S.1 0 0 13)) 7 (if (fX2_saysTaken S 2 (x1 &&& (((S.1 1 0 1)) - (1 : Int32)))) = false then (fX2_saysTaken S 0 (x1 &&& (((S.1 1 0 1)) - (1 : Int32)))) else (fX2_saysTaken S 1 ((x1 ^^^ (S.1 0 0 11)) &&& (((S.1 1 1 1)) - (1 : Int32)))))) N1 x1 (if (fX2_saysTaken S 2 (x1 &&& (((S.1 1 0 1)) - (1 : Int32)))) = false then (fX2_saysTaken S 0 (x1 &&& (((S.1 1 0 1)) - (1 : Int32)))) else (fX2_saysTaken S 1 ((x1 ^^^ (S.1 0 0 11)) &&& (((S.1 1 1 1)) - (1 : Int32)))))) = false then (0 : Int32) else (1 : Int32))) &&& (((1 : Int32) <<< (((S.1 0 0 10)) &&& 31)) - (1 : Int32))))) from by unfold fX4_launch; rfl)) dX4_launch_158
def fX4_settle (S : uS) (x1 : Int32) (b1 : Bool) : Int32 × uS :=
  if (S.2.2 8 (fIx S x1) 8) = b1 then ((-1 : Int32), (uI S 8 (fIx S x1) 1 (1 : Int32)))
  else ((fX4_dropFrom (uI (uI S 8 (fIx S x1) 1 (2 : Int32)) 0 0 11 ((((2 : Int32) * (S.1 8 (fIx S x1) 2)) + (if b1 = false then (0 : Int32) else (1 : Int32))) &&& (((1 : Int32) <<< (((S.1 0 0 10)) &&& 31)) - (1 : Int32)))) (x1 + (1 : Int32))).1, ((fX4_dropFrom (uI (uI S 8 (fIx S x1) 1 (2 : Int32)) 0 0 11 ((((2 : Int32) * (S.1 8 (fIx S x1) 2)) + (if b1 = false then (0 : Int32) else (1 : Int32))) &&& (((1 : Int32) <<< (((S.1 0 0 10)) &&& 31)) - (1 : Int32)))) (x1 + (1 : Int32))).2))
abbrev rmX4_settle : Room := { frames := 1, cells := 0, slots := 0, locals := 23 }
set_option maxHeartbeats 4000000 in
set_option maxRecDepth 100000 in
theorem cX4c_settle (l : Launch) (G : gG) (Z : va_W) (S : uS) (x1 : Int32) (b1 : Bool) : kMet l yX4_settle wsX4_settle rmX4_settle G kC Z S [.ref (G.2.2 (0, 0)), .int (x1), .int (bI (b1))] (some (.int ((fX4_settle S x1 b1).1))) ((fX4_settle S x1 b1).2) := by
  refine kMet_of (cc := cX4_settle) (maxL := 4) (ret := (some .int)) (by decide) rfl (Nat.le_of_ble_eq_true rfl) ?_
  intro p e s m below meth c hx hb hr hml hlocks hts hown hK hN A hZ hA H locs hw ls hl
  have hl : lv_has ls 4 [(0, .ref (G.2.2 (0, 0))), (1, .int (x1)), (2, .int (bI (b1)))] := hl
  have hiX1 : ∀ w ∈ wsX10, w ∈ wsX4_settle := by decide +kernel
  have hiX4 : ∀ w ∈ wsX40, w ∈ wsX4_settle := by decide +kernel
  refine lv_aload_n hx hb dX4_settle_0 rfl (lv_at hl 0 rfl) ?_
  refine lv_iload_n hx hb dX4_settle_1 rfl (lv_at hl 1 rfl) ?_
  refine k_callV (C := RX4) (n := 1) (rest := []) ⟨hx, hb, hml, hown, hts⟩ (cX4c_branchAt l G Z S x1) (cwV 1 hts gX4_settle_X4_branchAt rfl rfl rfl (by decide +kernel) ⟨Nat.le_of_ble_eq_true rfl, Nat.le_of_ble_eq_true rfl⟩) (k_recv hK hw kC_0 rfl rfl) hK hN hZ hA hw (Nat.zero_le _) (Nat.zero_le _) rfl hl.1 rfl (Nat.le_of_ble_eq_true rfl) dX4_settle_2 (fun H locs hw => ?_)
  refine W.eq (g2 := F0 m 5 ls [.ref (G.2.2 (8, (fIx S x1)))]) rfl ?_
  refine lv_astore_n (lv' := [(3, .ref (G.2.2 (8, (fIx S x1)))), (0, .ref (G.2.2 (0, 0))), (1, .int (x1)), (2, .int (bI (b1)))]) hx hb dX4_settle_5 rfl hl (by decide) rfl (fun ls hl => ?_)
  refine lv_aload_n hx hb dX4_settle_6 rfl (lv_at hl 0 rfl) ?_
  refine g_8_8 hx hb hts hiX1 hown hK hw (kC_8 (fIx_lt S x1)) (hts (.fieldLink RX4 239 "BranchPredictor$Branch" "isPredictedTaken" "Z") (by decide +kernel)) dX4_settle_7 ?_
  refine lv_iload_n hx hb dX4_settle_10 rfl (lv_at hl 3 rfl) ?_
  refine k_icmp_ne (a := S.2.2 8 (fIx S x1) 8) (b := b1) (tgt := 21) hx hb dX4_settle_11 (by decide) (fun c_1 => ?_) (fun c_1 => ?_)
  · skip
    refine lv_aload_n hx hb dX4_settle_21 rfl (lv_at hl 0 rfl) ?_
    refine lv_iconst (v := 2) hx hb dX4_settle_22 (by decide) ?_
    refine p_8_1 (v := (2 : Int32)) hx hb hts hiX1 hown hK hw (kC_8 (fIx_lt S x1)) (hts (.fieldLink RX4 97 "BranchPredictor$Branch" "state" "I") (by decide +kernel)) dX4_settle_23 (fun H locs hw => ?_)
    refine lv_aload_n hx hb dX4_settle_26 rfl (lv_at hl 1 rfl) ?_
    refine lv_aload_n hx hb dX4_settle_27 rfl (lv_at hl 1 rfl) ?_
    refine lv_aload_n hx hb dX4_settle_28 rfl (lv_at hl 0 rfl) ?_
    refine g_8_2 hx hb hts hiX1 hown hK hw (kC_8 (fIx_lt S x1)) (hts (.fieldLink RX4 116 "BranchPredictor$Branch" "historyAhead" "I") (by decide +kernel)) dX4_settle_29 ?_
    refine k_topi (z := S.1 8 (fIx S x1) 2) (by simp [uI, uL, uF]) ?_
    refine lv_iload_n hx hb dX4_settle_32 rfl (lv_at hl 3 rfl) ?_
    refine k_callV (C := RX4) (n := 2) (rest := [.ref (G.2.2 (0, 0))]) ⟨hx, hb, hml, hown, hts⟩ (cX4c_appended l G Z (uI S 8 (fIx S x1) 1 (2 : Int32)) (S.1 8 (fIx S x1) 2) b1) (cwV 2 hts gX4_settle_X4_appended rfl rfl rfl (by decide +kernel) ⟨Nat.le_of_ble_eq_true rfl, Nat.le_of_ble_eq_true rfl⟩) (k_recv hK hw kC_0 rfl rfl) hK hN hZ hA hw (Nat.zero_le _) (Nat.zero_le _) rfl hl.1 rfl (Nat.le_of_ble_eq_true rfl) dX4_settle_33 (fun H locs hw => ?_)
    refine W.eq (g2 := F0 m 36 ls [.int ((((2 : Int32) * (S.1 8 (fIx S x1) 2)) + (if b1 = false then (0 : Int32) else (1 : Int32))) &&& (((1 : Int32) <<< (((uI S 8 (fIx S x1) 1 (2 : Int32)).1 0 0 10) &&& 31)) - (1 : Int32))), .ref (G.2.2 (0, 0))]) rfl ?_
    refine k_topi (z := (((2 : Int32) * (S.1 8 (fIx S x1) 2)) + (if b1 = false then (0 : Int32) else (1 : Int32))) &&& (((1 : Int32) <<< (((S.1 0 0 10)) &&& 31)) - (1 : Int32))) (by simp [uI, uL, uF]) ?_
    refine p_0_11 (v := (((2 : Int32) * (S.1 8 (fIx S x1) 2)) + (if b1 = false then (0 : Int32) else (1 : Int32))) &&& (((1 : Int32) <<< (((S.1 0 0 10)) &&& 31)) - (1 : Int32))) hx hb hts hiX4 hown hK hw kC_0 (hts (.fieldLink RX4 119 "BranchPredictor" "outcomes" "I") (by decide +kernel)) dX4_settle_36 (fun H locs hw => ?_)
    refine lv_aload_n hx hb dX4_settle_39 rfl (lv_at hl 1 rfl) ?_
    refine lv_iload_n hx hb dX4_settle_40 rfl (lv_at hl 2 rfl) ?_
    refine lv_iconst (v := 1) hx hb dX4_settle_41 (by decide) ?_
    refine lv_iadd hx hb dX4_settle_42 ?_
    refine k_callV (C := RX4) (n := 1) (rest := []) ⟨hx, hb, hml, hown, hts⟩ (cX4c_dropFrom l G Z (uI (uI S 8 (fIx S x1) 1 (2 : Int32)) 0 0 11 ((((2 : Int32) * (S.1 8 (fIx S x1) 2)) + (if b1 = false then (0 : Int32) else (1 : Int32))) &&& (((1 : Int32) <<< (((S.1 0 0 10)) &&& 31)) - (1 : Int32)))) (x1 + (1 : Int32))) (cwV 1 hts gX4_settle_X4_dropFrom rfl rfl rfl (by decide +kernel) ⟨Nat.le_of_ble_eq_true rfl, Nat.le_of_ble_eq_true rfl⟩) (k_recv hK hw kC_0 rfl rfl) hK hN hZ hA hw (Nat.zero_le _) (Nat.zero_le _) rfl hl.1 rfl (Nat.le_of_ble_eq_true rfl) dX4_settle_43 (fun H locs hw => ?_)
    refine W.eq (g2 := F0 m 46 ls [.int ((fX4_dropFrom (uI (uI S 8 (fIx S x1) 1 (2 : Int32)) 0 0 11 ((((2 : Int32) * (S.1 8 (fIx S x1) 2)) + (if b1 = false then (0 : Int32) else (1 : Int32))) &&& (((1 : Int32) <<< (((S.1 0 0 10)) &&& 31)) - (1 : Int32)))) (x1 + (1 : Int32))).1)]) rfl ?_
    exact k_iret hx hb hr hlocks hK hw (congrArg (fun z : Int32 × uS => some (Value.int (z.1))) (show (fX4_settle S x1 b1) = ((fX4_dropFrom (uI (uI S 8 (fIx S x1) 1 (2 : Int32)) 0 0 11 ((((2 : Int32) * (S.1 8 (fIx S x1) 2)) + (if b1 = false then (0 : Int32) else (1 : Int32))) &&& (((1 : Int32) <<< (((S.1 0 0 10)) &&& 31)) - (1 : Int32)))) (x1 + (1 : Int32))).1, ((fX4_dropFrom (uI (uI S 8 (fIx S x1) 1 (2 : Int32)) 0 0 11 ((((2 : Int32) * (S.1 8 (fIx S x1) 2)) + (if b1 = false then (0 : Int32) else (1 : Int32))) &&& (((1 : Int32) <<< (((S.1 0 0 10)) &&& 31)) - (1 : Int32)))) (x1 + (1 : Int32))).2)) from by unfold fX4_settle; rw [if_neg c_1])) (congrArg (fun z : Int32 × uS => z.2) (show (fX4_settle S x1 b1) = ((fX4_dropFrom (uI (uI S 8 (fIx S x1) 1 (2 : Int32)) 0 0 11 ((((2 : Int32) * (S.1 8 (fIx S x1) 2)) + (if b1 = false then (0 : Int32) else (1 : Int32))) &&& (((1 : Int32) <<< (((S.1 0 0 10)) &&& 31)) - (1 : Int32)))) (x1 + (1 : Int32))).1, ((fX4_dropFrom (uI (uI S 8 (fIx S x1) 1 (2 : Int32)) 0 0 11 ((((2 : Int32) * (S.1 8 (fIx S x1) 2)) + (if b1 = false then (0 : Int32) else (1 : Int32))) &&& (((1 : Int32) <<< (((S.1 0 0 10)) &&& 31)) - (1 : Int32)))) (x1 + (1 : Int32))).2)) from by unfold fX4_settle; rw [if_neg c_1])) dX4_settle_46
  · skip
    refine lv_aload_n hx hb dX4_settle_14 rfl (lv_at hl 0 rfl) ?_
    refine lv_iconst (v := 1) hx hb dX4_settle_15 (by decide) ?_
    refine p_8_1 (v := (1 : Int32)) hx hb hts hiX1 hown hK hw (kC_8 (fIx_lt S x1)) (hts (.fieldLink RX4 97 "BranchPredictor$Branch" "state" "I") (by decide +kernel)) dX4_settle_16 (fun H locs hw => ?_)
    refine lv_iconst (v := -1) hx hb dX4_settle_19 (by decide) ?_
    exact k_iret hx hb hr hlocks hK hw (congrArg (fun z : Int32 × uS => some (Value.int (z.1))) (show (fX4_settle S x1 b1) = ((-1 : Int32), (uI S 8 (fIx S x1) 1 (1 : Int32))) from by unfold fX4_settle; rw [if_pos c_1])) (congrArg (fun z : Int32 × uS => z.2) (show (fX4_settle S x1 b1) = ((-1 : Int32), (uI S 8 (fIx S x1) 1 (1 : Int32))) from by unfold fX4_settle; rw [if_pos c_1])) dX4_settle_20
def fX4_learnChoice (S : uS) (k3 : Nat) (b1 : Bool) : uS :=
  if (S.2.2 8 k3 5) = (S.2.2 8 k3 6) then S
  else (fX2_move S 2 (S.1 8 k3 3) (if (S.2.2 8 k3 6) = b1 then true else false))
abbrev rmX4_learnChoice : Room := { frames := 2, cells := 0, slots := 0, locals := 45 }
set_option maxHeartbeats 4000000 in
set_option maxRecDepth 100000 in
theorem cX4c_learnChoice (l : Launch) (G : gG) (Z : va_W) (S : uS) (k3 : Nat) (h_k3 : k3 < 16) (b1 : Bool) : kMet l yX4_learnChoice wsX4_learnChoice rmX4_learnChoice G kC Z S [.ref (G.2.2 (0, 0)), .ref (G.2.2 (8, k3)), .int (bI (b1))] none (fX4_learnChoice S k3 b1) := by
  refine kMet_of (cc := cX4_learnChoice) (maxL := 3) (ret := none) (by decide) rfl (Nat.le_of_ble_eq_true rfl) ?_
  intro p e s m below meth c hx hb hr hml hlocks hts hown hK hN A hZ hA H locs hw ls hl
  have hl : lv_has ls 3 [(0, .ref (G.2.2 (0, 0))), (1, .ref (G.2.2 (8, k3))), (2, .int (bI (b1)))] := hl
  have hiX1 : ∀ w ∈ wsX10, w ∈ wsX4_learnChoice := by decide +kernel
  have hiX4 : ∀ w ∈ wsX40, w ∈ wsX4_learnChoice := by decide +kernel
  refine lv_aload_n hx hb dX4_learnChoice_0 rfl (lv_at hl 1 rfl) ?_
  refine g_8_5 hx hb hts hiX1 hown hK hw (kC_8 h_k3) (hts (.fieldLink RX4 225 "BranchPredictor$Branch" "isPlainTaken" "Z") (by decide +kernel)) dX4_learnChoice_1 ?_
  refine lv_aload_n hx hb dX4_learnChoice_4 rfl (lv_at hl 1 rfl) ?_
  refine g_8_6 hx hb hts hiX1 hown hK hw (kC_8 h_k3) (hts (.fieldLink RX4 229 "BranchPredictor$Branch" "isGlobalTaken" "Z") (by decide +kernel)) dX4_learnChoice_5 ?_
  refine k_icmp_eq (a := S.2.2 8 k3 5) (b := S.2.2 8 k3 6) (tgt := 35) hx hb dX4_learnChoice_8 (by decide) (fun c_1 => ?_) (fun c_1 => ?_)
  · skip
    exact k_vret hx hb hr hlocks hK hw rfl (by unfold fX4_learnChoice; rw [if_pos c_1]) dX4_learnChoice_35
  · skip
    refine lv_aload_n hx hb dX4_learnChoice_11 rfl (lv_at hl 0 rfl) ?_
    refine g_0_2 hx hb hts hiX4 hown hK hw kC_0 (hts (.fieldLink RX4 19 "BranchPredictor" "choiceTable" "LBranchPredictor$CounterTable;") (by decide +kernel)) dX4_learnChoice_12 ?_
    refine lv_aload_n hx hb dX4_learnChoice_15 rfl (lv_at hl 1 rfl) ?_
    refine g_8_3 hx hb hts hiX1 hown hK hw (kC_8 h_k3) (hts (.fieldLink RX4 216 "BranchPredictor$Branch" "plainIndex" "I") (by decide +kernel)) dX4_learnChoice_16 ?_
    refine lv_aload_n hx hb dX4_learnChoice_19 rfl (lv_at hl 1 rfl) ?_
    refine g_8_6 hx hb hts hiX1 hown hK hw (kC_8 h_k3) (hts (.fieldLink RX4 229 "BranchPredictor$Branch" "isGlobalTaken" "Z") (by decide +kernel)) dX4_learnChoice_20 ?_
    refine lv_iload_n hx hb dX4_learnChoice_23 rfl (lv_at hl 2 rfl) ?_
    refine k_join (P := fun x9 : Bool => W p l e rmX4_learnChoice s m [.ref (G.2.2 (0, 0)), .ref (G.2.2 (8, k3)), .int (bI (b1))].toArray below meth c H locs 0 0 (MQ below (kQ G kC Z A none (fX4_learnChoice S k3 b1)) [.ref (G.2.2 (0, 0)), .ref (G.2.2 (8, k3)), .int (bI (b1))].toArray s 0 0 A) (F0 m 32 ls [.int (bI (x9)), .int (S.1 8 k3 3), .ref (G.2.2 (1, 2))])) (C := (S.2.2 8 k3 6) = b1) (a := true) (b := false) ?_ (fun ka kb => ?_)
    rotate_left
    · refine k_icmp_ne (a := S.2.2 8 k3 6) (b := b1) (tgt := 31) hx hb dX4_learnChoice_24 (by decide) (fun c_2 => ?_) (fun c_2 => ?_)
      · skip
        refine lv_iconst (v := 0) hx hb dX4_learnChoice_31 (by decide) ?_
        exact kb c_2
      · skip
        refine lv_iconst (v := 1) hx hb dX4_learnChoice_27 (by decide) ?_
        refine lv_goto (tgt := 32) hx hb dX4_learnChoice_28 (by decide) ?_
        exact ka c_2
    show W p l e rmX4_learnChoice s m [.ref (G.2.2 (0, 0)), .ref (G.2.2 (8, k3)), .int (bI (b1))].toArray below meth c H locs 0 0 (MQ below (kQ G kC Z A none (fX4_learnChoice S k3 b1)) [.ref (G.2.2 (0, 0)), .ref (G.2.2 (8, k3)), .int (bI (b1))].toArray s 0 0 A) (F0 m 32 ls [.int (bI (if (S.2.2 8 k3 6) = b1 then true else false)), .int (S.1 8 k3 3), .ref (G.2.2 (1, 2))])
    refine k_callV (C := RX2) (n := 2) (rest := []) ⟨hx, hb, hml, hown, hts⟩ (cX2c_move l G Z S 2 (show (2 : Nat) < 3 from by decide) (S.1 8 k3 3) (if (S.2.2 8 k3 6) = b1 then true else false)) (cwV 2 hts gX4_learnChoice_X2_move rfl rfl rfl (by decide +kernel) ⟨Nat.le_of_ble_eq_true rfl, Nat.le_of_ble_eq_true rfl⟩) (k_recv hK hw (kC_1 (show (2 : Nat) < 3 from by decide)) rfl rfl) hK hN hZ hA hw (Nat.zero_le _) (Nat.zero_le _) rfl hl.1 rfl (Nat.le_of_ble_eq_true rfl) dX4_learnChoice_32 (fun H locs hw => ?_)
    refine W.eq (g2 := F0 m 35 ls []) rfl ?_
    exact k_vret hx hb hr hlocks hK hw rfl (by unfold fX4_learnChoice; rw [if_neg c_1]) dX4_learnChoice_35
def fX4_learnOutcome (S : uS) (k1 : Nat) (k2 : Nat) (x1 : Int32) (x2 : Int32) (b1 : Bool) : uS :=
  (fX2_move (fX0_note S k2 x1 x2 (if (fX2_saysTaken S k1 x1) = b1 then false else true)) k1 x1 b1)
abbrev rmX4_learnOutcome : Room := { frames := 2, cells := 0, slots := 0, locals := 45 }
set_option maxHeartbeats 4000000 in
set_option maxRecDepth 100000 in
theorem cX4c_learnOutcome (l : Launch) (G : gG) (Z : va_W) (S : uS) (k1 : Nat) (h_k1 : k1 < 3) (k2 : Nat) (h_k2 : k2 < 2) (x1 : Int32) (x2 : Int32) (b1 : Bool) : kMet l yX4_learnOutcome wsX4_learnOutcome rmX4_learnOutcome G kC Z S [.ref (G.2.2 (1, k1)), .ref (G.2.2 (3, k2)), .int (x1), .int (x2), .int (bI (b1))] none (fX4_learnOutcome S k1 k2 x1 x2 b1) := by
  refine kMet_of (cc := cX4_learnOutcome) (maxL := 5) (ret := none) (by decide) rfl (Nat.le_of_ble_eq_true rfl) ?_
  intro p e s m below meth c hx hb hr hml hlocks hts hown hK hN A hZ hA H locs hw ls hl
  have hl : lv_has ls 5 [(0, .ref (G.2.2 (1, k1))), (1, .ref (G.2.2 (3, k2))), (2, .int (x1)), (3, .int (x2)), (4, .int (bI (b1)))] := hl
  refine lv_aload_n hx hb dX4_learnOutcome_0 rfl (lv_at hl 1 rfl) ?_
  refine lv_iload_n hx hb dX4_learnOutcome_1 rfl (lv_at hl 2 rfl) ?_
  refine lv_iload_n hx hb dX4_learnOutcome_2 rfl (lv_at hl 3 rfl) ?_
  refine lv_aload_n hx hb dX4_learnOutcome_3 rfl (lv_at hl 0 rfl) ?_
  refine lv_iload_n hx hb dX4_learnOutcome_4 rfl (lv_at hl 2 rfl) ?_
  refine k_callV (C := RX2) (n := 1) (rest := [.int (x2), .int (x1), .ref (G.2.2 (3, k2))]) ⟨hx, hb, hml, hown, hts⟩ (cX2c_saysTaken l G Z S k1 h_k1 x1) (cwV 1 hts gX4_learnOutcome_X2_saysTaken rfl rfl rfl (by decide +kernel) ⟨Nat.le_of_ble_eq_true rfl, Nat.le_of_ble_eq_true rfl⟩) (k_recv hK hw (kC_1 h_k1) rfl rfl) hK hN hZ hA hw (Nat.zero_le _) (Nat.zero_le _) rfl hl.1 rfl (Nat.le_of_ble_eq_true rfl) dX4_learnOutcome_5 (fun H locs hw => ?_)
  refine W.eq (g2 := F0 m 8 ls [.int (bI ((fX2_saysTaken S k1 x1))), .int (x2), .int (x1), .ref (G.2.2 (3, k2))]) rfl ?_
  refine lv_iload hx hb dX4_learnOutcome_8 (lv_at hl 4 rfl) ?_
  refine k_join (P := fun x9 : Bool => W p l e rmX4_learnOutcome s m [.ref (G.2.2 (1, k1)), .ref (G.2.2 (3, k2)), .int (x1), .int (x2), .int (bI (b1))].toArray below meth c H locs 0 0 (MQ below (kQ G kC Z A none (fX4_learnOutcome S k1 k2 x1 x2 b1)) [.ref (G.2.2 (1, k1)), .ref (G.2.2 (3, k2)), .int (x1), .int (x2), .int (bI (b1))].toArray s 0 0 A) (F0 m 18 ls [.int (bI (x9)), .int (x2), .int (x1), .ref (G.2.2 (3, k2))])) (C := (fX2_saysTaken S k1 x1) = b1) (a := false) (b := true) ?_ (fun ka kb => ?_)
  rotate_left
  · refine k_icmp_eq (a := (fX2_saysTaken S k1 x1)) (b := b1) (tgt := 17) hx hb dX4_learnOutcome_10 (by decide) (fun c_1 => ?_) (fun c_1 => ?_)
    · skip
      refine lv_iconst (v := 0) hx hb dX4_learnOutcome_17 (by decide) ?_
      exact ka c_1
    · skip
      refine lv_iconst (v := 1) hx hb dX4_learnOutcome_13 (by decide) ?_
      refine lv_goto (tgt := 18) hx hb dX4_learnOutcome_14 (by decide) ?_
      exact kb c_1
  show W p l e rmX4_learnOutcome s m [.ref (G.2.2 (1, k1)), .ref (G.2.2 (3, k2)), .int (x1), .int (x2), .int (bI (b1))].toArray below meth c H locs 0 0 (MQ below (kQ G kC Z A none (fX4_learnOutcome S k1 k2 x1 x2 b1)) [.ref (G.2.2 (1, k1)), .ref (G.2.2 (3, k2)), .int (x1), .int (x2), .int (bI (b1))].toArray s 0 0 A) (F0 m 18 ls [.int (bI (if (fX2_saysTaken S k1 x1) = b1 then false else true)), .int (x2), .int (x1), .ref (G.2.2 (3, k2))])
  refine k_callV (C := RX0) (n := 3) (rest := []) ⟨hx, hb, hml, hown, hts⟩ (cX0c_note l G Z S k2 h_k2 x1 x2 (if (fX2_saysTaken S k1 x1) = b1 then false else true)) (cwV 3 hts gX4_learnOutcome_X0_note rfl rfl rfl (by decide +kernel) ⟨Nat.le_of_ble_eq_true rfl, Nat.le_of_ble_eq_true rfl⟩) (k_recv hK hw (kC_3 h_k2) rfl rfl) hK hN hZ hA hw (Nat.zero_le _) (Nat.zero_le _) rfl hl.1 rfl (Nat.le_of_ble_eq_true rfl) dX4_learnOutcome_18 (fun H locs hw => ?_)
  refine W.eq (g2 := F0 m 21 ls []) rfl ?_
  refine lv_aload_n hx hb dX4_learnOutcome_21 rfl (lv_at hl 0 rfl) ?_
  refine lv_iload_n hx hb dX4_learnOutcome_22 rfl (lv_at hl 2 rfl) ?_
  refine lv_iload hx hb dX4_learnOutcome_23 (lv_at hl 4 rfl) ?_
  refine k_callV (C := RX2) (n := 2) (rest := []) ⟨hx, hb, hml, hown, hts⟩ (cX2c_move l G Z (fX0_note S k2 x1 x2 (if (fX2_saysTaken S k1 x1) = b1 then false else true)) k1 h_k1 x1 b1) (cwV 2 hts gX4_learnOutcome_X2_move rfl rfl rfl (by decide +kernel) ⟨Nat.le_of_ble_eq_true rfl, Nat.le_of_ble_eq_true rfl⟩) (k_recv hK hw (kC_1 h_k1) rfl rfl) hK hN hZ hA hw (Nat.zero_le _) (Nat.zero_le _) rfl hl.1 rfl (Nat.le_of_ble_eq_true rfl) dX4_learnOutcome_25 (fun H locs hw => ?_)
  refine W.eq (g2 := F0 m 28 ls []) rfl ?_
  exact k_vret hx hb hr hlocks hK hw rfl (by unfold fX4_learnOutcome; rfl) dX4_learnOutcome_28
def fX4_learnLoop (S : uS) (k3 : Nat) (b1 : Bool) : uS :=
  if (lX4_loopWith (S.1 8 k3 0) 8 0 S) < (0 : Int32) then if b1 = false then if (S.1 8 k3 1) = (2 : Int32) then (fX3_startAnew S ((lX4_number 8 0 0 S).toNatClampNeg) (S.1 8 k3 0))
      else S
    else S
  else (fX3_learn S ((lX4_loopWith (S.1 8 k3 0) 8 0 S).toNatClampNeg) b1)
abbrev rmX4_learnLoop : Room := { frames := 2, cells := 0, slots := 0, locals := 42 }
set_option maxHeartbeats 4000000 in
set_option maxRecDepth 100000 in
theorem cX4c_learnLoop (l : Launch) (G : gG) (Z : va_W) (S : uS) (k3 : Nat) (h_k3 : k3 < 16) (b1 : Bool) : kMet l yX4_learnLoop wsX4_learnLoop rmX4_learnLoop G kC Z S [.ref (G.2.2 (0, 0)), .ref (G.2.2 (8, k3)), .int (bI (b1))] none (fX4_learnLoop S k3 b1) := by
  refine kMet_of (cc := cX4_learnLoop) (maxL := 4) (ret := none) (by decide) rfl (Nat.le_of_ble_eq_true rfl) ?_
  intro p e s m below meth c hx hb hr hml hlocks hts hown hK hN A hZ hA H locs hw ls hl
  have hl : lv_has ls 4 [(0, .ref (G.2.2 (0, 0))), (1, .ref (G.2.2 (8, k3))), (2, .int (bI (b1)))] := hl
  have hiX1 : ∀ w ∈ wsX10, w ∈ wsX4_learnLoop := by decide +kernel
  have hiX4 : ∀ w ∈ wsX40, w ∈ wsX4_learnLoop := by decide +kernel
  refine lv_aload_n hx hb dX4_learnLoop_0 rfl (lv_at hl 0 rfl) ?_
  refine lv_aload_n hx hb dX4_learnLoop_1 rfl (lv_at hl 1 rfl) ?_
  refine g_8_0 hx hb hts hiX1 hown hK hw (kC_8 h_k3) (hts (.fieldLink RX4 126 "BranchPredictor$Branch" "place" "I") (by decide +kernel)) dX4_learnLoop_2 ?_
  refine k_callV (C := RX4) (n := 1) (rest := []) ⟨hx, hb, hml, hown, hts⟩ (cX4c_loopWith l G Z S (S.1 8 k3 0)) (cwV 1 hts gX4_learnLoop_X4_loopWith rfl rfl rfl (by decide +kernel) ⟨Nat.le_of_ble_eq_true rfl, Nat.le_of_ble_eq_true rfl⟩) (k_recv hK hw kC_0 rfl rfl) hK hN hZ hA hw (Nat.zero_le _) (Nat.zero_le _) rfl hl.1 rfl (Nat.le_of_ble_eq_true rfl) dX4_learnLoop_5 (fun H locs hw => ?_)
  refine W.eq (g2 := F0 m 8 ls [.int ((lX4_loopWith (S.1 8 k3 0) 8 0 S))]) rfl ?_
  refine lv_istore_n (lv' := [(3, .int ((lX4_loopWith (S.1 8 k3 0) 8 0 S))), (0, .ref (G.2.2 (0, 0))), (1, .ref (G.2.2 (8, k3))), (2, .int (bI (b1)))]) hx hb dX4_learnLoop_8 rfl hl (by decide) rfl (fun ls hl => ?_)
  refine lv_iload_n hx hb dX4_learnLoop_9 rfl (lv_at hl 0 rfl) ?_
  refine lv_if_lt (x := (lX4_loopWith (S.1 8 k3 0) 8 0 S)) (tgt := 26) hx hb dX4_learnLoop_10 (by decide) (fun c_1 => ?_) (fun c_1 => ?_)
  · skip
    refine lv_iload_n hx hb dX4_learnLoop_26 rfl (lv_at hl 3 rfl) ?_
    refine k_if_ne (b := b1) (tgt := 54) hx hb dX4_learnLoop_27 (by decide) (fun c_2 => ?_) (fun c_2 => ?_)
    · skip
      exact k_vret hx hb hr hlocks hK hw rfl (by unfold fX4_learnLoop; rw [if_pos c_1, if_neg c_2]) dX4_learnLoop_54
    · skip
      refine lv_aload_n hx hb dX4_learnLoop_30 rfl (lv_at hl 2 rfl) ?_
      refine g_8_1 hx hb hts hiX1 hown hK hw (kC_8 h_k3) (hts (.fieldLink RX4 97 "BranchPredictor$Branch" "state" "I") (by decide +kernel)) dX4_learnLoop_31 ?_
      refine lv_iconst (v := 2) hx hb dX4_learnLoop_34 (by decide) ?_
      refine lv_icmp_ne (tgt := 54) hx hb dX4_learnLoop_35 (by decide) (fun c_3 => ?_) (fun c_3 => ?_)
      · skip
        exact k_vret hx hb hr hlocks hK hw rfl (by unfold fX4_learnLoop; rw [if_pos c_1, if_pos c_2, if_neg c_3]) dX4_learnLoop_54
      · skip
        refine lv_aload_n hx hb dX4_learnLoop_38 rfl (lv_at hl 1 rfl) ?_
        refine g_0_6 hx hb hts hiX4 hown hK hw kC_0 (hts (.fieldLink RX4 40 "BranchPredictor" "loops" "[LBranchPredictor$Loop;") (by decide +kernel)) dX4_learnLoop_39 ?_
        refine lv_aload_n hx hb dX4_learnLoop_42 rfl (lv_at hl 1 rfl) ?_
        refine k_callV (C := RX4) (n := 0) (rest := [.ref (G.2.2 (6, 0))]) ⟨hx, hb, hml, hown, hts⟩ (cX4c_numberForNewLoop l G Z S) (cwV 0 hts gX4_learnLoop_X4_numberForNewLoop rfl rfl rfl (by decide +kernel) ⟨Nat.le_of_ble_eq_true rfl, Nat.le_of_ble_eq_true rfl⟩) (k_recv hK hw kC_0 rfl rfl) hK hN hZ hA hw (Nat.zero_le _) (Nat.zero_le _) rfl hl.1 rfl (Nat.le_of_ble_eq_true rfl) dX4_learnLoop_43 (fun H locs hw => ?_)
        refine W.eq (g2 := F0 m 46 ls [.int ((lX4_number 8 0 0 S)), .ref (G.2.2 (6, 0))]) rfl ?_
        refine ald_6 hx hb hK hw kC_6 (lN_in S) dX4_learnLoop_46 ?_
        refine lv_aload_n hx hb dX4_learnLoop_47 rfl (lv_at hl 2 rfl) ?_
        refine g_8_0 hx hb hts hiX1 hown hK hw (kC_8 h_k3) (hts (.fieldLink RX4 126 "BranchPredictor$Branch" "place" "I") (by decide +kernel)) dX4_learnLoop_48 ?_
        refine k_callV (C := RX3) (n := 1) (rest := []) ⟨hx, hb, hml, hown, hts⟩ (cX3c_startAnew l G Z S ((lX4_number 8 0 0 S).toNatClampNeg) (vp_lt (lN_in S)) (S.1 8 k3 0)) (cwV 1 hts gX4_learnLoop_X3_startAnew rfl rfl rfl (by decide +kernel) ⟨Nat.le_of_ble_eq_true rfl, Nat.le_of_ble_eq_true rfl⟩) (k_recv hK hw (kC_9 (vp_lt (lN_in S))) rfl rfl) hK hN hZ hA hw (Nat.zero_le _) (Nat.zero_le _) rfl hl.1 rfl (Nat.le_of_ble_eq_true rfl) dX4_learnLoop_51 (fun H locs hw => ?_)
        refine W.eq (g2 := F0 m 54 ls []) rfl ?_
        exact k_vret hx hb hr hlocks hK hw rfl (by unfold fX4_learnLoop; rw [if_pos c_1, if_pos c_2, if_pos c_3]) dX4_learnLoop_54
  · skip
    refine lv_aload_n hx hb dX4_learnLoop_13 rfl (lv_at hl 1 rfl) ?_
    refine g_0_6 hx hb hts hiX4 hown hK hw kC_0 (hts (.fieldLink RX4 40 "BranchPredictor" "loops" "[LBranchPredictor$Loop;") (by decide +kernel)) dX4_learnLoop_14 ?_
    refine lv_iload_n hx hb dX4_learnLoop_17 rfl (lv_at hl 0 rfl) ?_
    refine ald_6 hx hb hK hw kC_6 (lW_in c_1) dX4_learnLoop_18 ?_
    refine lv_iload_n hx hb dX4_learnLoop_19 rfl (lv_at hl 3 rfl) ?_
    refine k_callV (C := RX3) (n := 1) (rest := []) ⟨hx, hb, hml, hown, hts⟩ (cX3c_learn l G Z S ((lX4_loopWith (S.1 8 k3 0) 8 0 S).toNatClampNeg) (vp_lt (lW_in c_1)) b1) (cwV 1 hts gX4_learnLoop_X3_learn rfl rfl rfl (by decide +kernel) ⟨Nat.le_of_ble_eq_true rfl, Nat.le_of_ble_eq_true rfl⟩) (k_recv hK hw (kC_9 (vp_lt (lW_in c_1))) rfl rfl) hK hN hZ hA hw (Nat.zero_le _) (Nat.zero_le _) rfl hl.1 rfl (Nat.le_of_ble_eq_true rfl) dX4_learnLoop_20 (fun H locs hw => ?_)
    refine W.eq (g2 := F0 m 23 ls []) rfl ?_
    refine lv_goto (tgt := 54) hx hb dX4_learnLoop_23 (by decide) ?_
    exact k_vret hx hb hr hlocks hK hw rfl (by unfold fX4_learnLoop; rw [if_neg c_1]) dX4_learnLoop_54
end
