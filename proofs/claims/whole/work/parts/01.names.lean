-- ===== PART A: goes FIRST, ahead of the names: the tables' words, and 'selects' of the private methods out of them =====
/-- a private method of a class that the tables say can be made, by its rows of tables_1 -/
def lw_okq (q : MethodName × Nat) : Prop := (q.1.cls ≠ "java/lang/invoke/MethodHandle" ∧ q.1.cls ≠ "java/lang/invoke/VarHandle") ∧ Cond.instantiable q.1.cls q.2 ∈ tables_1 ∧ Cond.privateMethod q.1 ∈ tables_1 ∧ Cond.instanceMethod q.1 ∈ tables_1
theorem lw_p0 : lw_okq (⟨"BranchPredictor", "startAnew", "(III)V"⟩, 16) := ⟨⟨by decide +kernel, by decide +kernel⟩, List.mem_of_getElem? (i := 15) (by decide +kernel), List.mem_of_getElem? (i := 121) (by decide +kernel), List.mem_of_getElem? (i := 122) (by decide +kernel)⟩
theorem lw_p1 : lw_okq (⟨"BranchPredictor", "branchAt", "(I)LBranchPredictor$Branch;"⟩, 16) := ⟨⟨by decide +kernel, by decide +kernel⟩, List.mem_of_getElem? (i := 15) (by decide +kernel), List.mem_of_getElem? (i := 226) (by decide +kernel), List.mem_of_getElem? (i := 227) (by decide +kernel)⟩
theorem lw_p2 : lw_okq (⟨"java/lang/Throwable", "fillInStackTrace", "(I)Ljava/lang/Throwable;"⟩, 6) := ⟨⟨by decide +kernel, by decide +kernel⟩, List.mem_of_getElem? (i := 279) (by decide +kernel), List.mem_of_getElem? (i := 277) (by decide +kernel), List.mem_of_getElem? (i := 278) (by decide +kernel)⟩
theorem lw_p3 : lw_okq (⟨"BranchPredictor", "launch", "(I)Z"⟩, 16) := ⟨⟨by decide +kernel, by decide +kernel⟩, List.mem_of_getElem? (i := 15) (by decide +kernel), List.mem_of_getElem? (i := 338) (by decide +kernel), List.mem_of_getElem? (i := 339) (by decide +kernel)⟩
theorem lw_p4 : lw_okq (⟨"BranchPredictor", "loopPrediction", "(IZ)Z"⟩, 16) := ⟨⟨by decide +kernel, by decide +kernel⟩, List.mem_of_getElem? (i := 15) (by decide +kernel), List.mem_of_getElem? (i := 354) (by decide +kernel), List.mem_of_getElem? (i := 355) (by decide +kernel)⟩
theorem lw_p5 : lw_okq (⟨"BranchPredictor", "loopWith", "(I)I"⟩, 16) := ⟨⟨by decide +kernel, by decide +kernel⟩, List.mem_of_getElem? (i := 15) (by decide +kernel), List.mem_of_getElem? (i := 358) (by decide +kernel), List.mem_of_getElem? (i := 359) (by decide +kernel)⟩
theorem lw_p6 : lw_okq (⟨"BranchPredictor", "presumedCount", "(LBranchPredictor$Loop;)I"⟩, 16) := ⟨⟨by decide +kernel, by decide +kernel⟩, List.mem_of_getElem? (i := 15) (by decide +kernel), List.mem_of_getElem? (i := 362) (by decide +kernel), List.mem_of_getElem? (i := 363) (by decide +kernel)⟩
theorem lw_p7 : lw_okq (⟨"BranchPredictor", "appended", "(IZ)I"⟩, 16) := ⟨⟨by decide +kernel, by decide +kernel⟩, List.mem_of_getElem? (i := 15) (by decide +kernel), List.mem_of_getElem? (i := 370) (by decide +kernel), List.mem_of_getElem? (i := 371) (by decide +kernel)⟩
theorem lw_p8 : lw_okq (⟨"BranchPredictor", "requireInFlight", "(I)V"⟩, 16) := ⟨⟨by decide +kernel, by decide +kernel⟩, List.mem_of_getElem? (i := 15) (by decide +kernel), List.mem_of_getElem? (i := 382) (by decide +kernel), List.mem_of_getElem? (i := 383) (by decide +kernel)⟩
theorem lw_p9 : lw_okq (⟨"BranchPredictor", "settle", "(IZ)I"⟩, 16) := ⟨⟨by decide +kernel, by decide +kernel⟩, List.mem_of_getElem? (i := 15) (by decide +kernel), List.mem_of_getElem? (i := 403) (by decide +kernel), List.mem_of_getElem? (i := 404) (by decide +kernel)⟩
theorem lw_p10 : lw_okq (⟨"BranchPredictor", "dropFrom", "(I)I"⟩, 16) := ⟨⟨by decide +kernel, by decide +kernel⟩, List.mem_of_getElem? (i := 15) (by decide +kernel), List.mem_of_getElem? (i := 407) (by decide +kernel), List.mem_of_getElem? (i := 408) (by decide +kernel)⟩
theorem lw_p11 : lw_okq (⟨"BranchPredictor", "retire", "()Z"⟩, 16) := ⟨⟨by decide +kernel, by decide +kernel⟩, List.mem_of_getElem? (i := 15) (by decide +kernel), List.mem_of_getElem? (i := 419) (by decide +kernel), List.mem_of_getElem? (i := 420) (by decide +kernel)⟩
theorem lw_p12 : lw_okq (⟨"BranchPredictor", "countMisses", "(LBranchPredictor$Branch;Z)V"⟩, 16) := ⟨⟨by decide +kernel, by decide +kernel⟩, List.mem_of_getElem? (i := 15) (by decide +kernel), List.mem_of_getElem? (i := 423) (by decide +kernel), List.mem_of_getElem? (i := 424) (by decide +kernel)⟩
theorem lw_p13 : lw_okq (⟨"BranchPredictor", "learnChoice", "(LBranchPredictor$Branch;Z)V"⟩, 16) := ⟨⟨by decide +kernel, by decide +kernel⟩, List.mem_of_getElem? (i := 15) (by decide +kernel), List.mem_of_getElem? (i := 431) (by decide +kernel), List.mem_of_getElem? (i := 432) (by decide +kernel)⟩
theorem lw_p14 : lw_okq (⟨"BranchPredictor", "learnLoop", "(LBranchPredictor$Branch;Z)V"⟩, 16) := ⟨⟨by decide +kernel, by decide +kernel⟩, List.mem_of_getElem? (i := 15) (by decide +kernel), List.mem_of_getElem? (i := 452) (by decide +kernel), List.mem_of_getElem? (i := 453) (by decide +kernel)⟩
theorem lw_p15 : lw_okq (⟨"BranchPredictor", "numberForNewLoop", "()I"⟩, 16) := ⟨⟨by decide +kernel, by decide +kernel⟩, List.mem_of_getElem? (i := 15) (by decide +kernel), List.mem_of_getElem? (i := 461) (by decide +kernel), List.mem_of_getElem? (i := 462) (by decide +kernel)⟩
def lw_privs_1 : List (MethodName × Nat) := [(⟨"BranchPredictor", "startAnew", "(III)V"⟩, 16), (⟨"BranchPredictor", "branchAt", "(I)LBranchPredictor$Branch;"⟩, 16), (⟨"java/lang/Throwable", "fillInStackTrace", "(I)Ljava/lang/Throwable;"⟩, 6), (⟨"BranchPredictor", "launch", "(I)Z"⟩, 16), (⟨"BranchPredictor", "loopPrediction", "(IZ)Z"⟩, 16), (⟨"BranchPredictor", "loopWith", "(I)I"⟩, 16), (⟨"BranchPredictor", "presumedCount", "(LBranchPredictor$Loop;)I"⟩, 16), (⟨"BranchPredictor", "appended", "(IZ)I"⟩, 16), (⟨"BranchPredictor", "requireInFlight", "(I)V"⟩, 16), (⟨"BranchPredictor", "settle", "(IZ)I"⟩, 16), (⟨"BranchPredictor", "dropFrom", "(I)I"⟩, 16), (⟨"BranchPredictor", "retire", "()Z"⟩, 16), (⟨"BranchPredictor", "countMisses", "(LBranchPredictor$Branch;Z)V"⟩, 16), (⟨"BranchPredictor", "learnChoice", "(LBranchPredictor$Branch;Z)V"⟩, 16), (⟨"BranchPredictor", "learnLoop", "(LBranchPredictor$Branch;Z)V"⟩, 16), (⟨"BranchPredictor", "numberForNewLoop", "()I"⟩, 16)]
theorem lw_r1 : ∀ q ∈ lw_privs_1, lw_okq q := List.forall_mem_cons.mpr ⟨lw_p0, List.forall_mem_cons.mpr ⟨lw_p1, List.forall_mem_cons.mpr ⟨lw_p2, List.forall_mem_cons.mpr ⟨lw_p3, List.forall_mem_cons.mpr ⟨lw_p4, List.forall_mem_cons.mpr ⟨lw_p5, List.forall_mem_cons.mpr ⟨lw_p6, List.forall_mem_cons.mpr ⟨lw_p7, List.forall_mem_cons.mpr ⟨lw_p8, List.forall_mem_cons.mpr ⟨lw_p9, List.forall_mem_cons.mpr ⟨lw_p10, List.forall_mem_cons.mpr ⟨lw_p11, List.forall_mem_cons.mpr ⟨lw_p12, List.forall_mem_cons.mpr ⟨lw_p13, List.forall_mem_cons.mpr ⟨lw_p14, List.forall_mem_cons.mpr ⟨lw_p15, fun _ h => absurd h List.not_mem_nil⟩⟩⟩⟩⟩⟩⟩⟩⟩⟩⟩⟩⟩⟩⟩⟩
theorem lw_p16 : lw_okq (⟨"BranchPredictor", "tableWith", "(I)LBranchPredictor$CounterTable;"⟩, 16) := ⟨⟨by decide +kernel, by decide +kernel⟩, List.mem_of_getElem? (i := 15) (by decide +kernel), List.mem_of_getElem? (i := 519) (by decide +kernel), List.mem_of_getElem? (i := 520) (by decide +kernel)⟩
theorem lw_p17 : lw_okq (⟨"BranchPredictorModel", "begin", "(III)V"⟩, 22) := ⟨⟨by decide +kernel, by decide +kernel⟩, List.mem_of_getElem? (i := 548) (by decide +kernel), List.mem_of_getElem? (i := 554) (by decide +kernel), List.mem_of_getElem? (i := 555) (by decide +kernel)⟩
theorem lw_p18 : lw_okq (⟨"BranchPredictorModel", "failed", "(I)Z"⟩, 22) := ⟨⟨by decide +kernel, by decide +kernel⟩, List.mem_of_getElem? (i := 548) (by decide +kernel), List.mem_of_getElem? (i := 634) (by decide +kernel), List.mem_of_getElem? (i := 635) (by decide +kernel)⟩
theorem lw_p19 : lw_okq (⟨"BranchPredictorModel", "add", "(I)Z"⟩, 22) := ⟨⟨by decide +kernel, by decide +kernel⟩, List.mem_of_getElem? (i := 548) (by decide +kernel), List.mem_of_getElem? (i := 643) (by decide +kernel), List.mem_of_getElem? (i := 644) (by decide +kernel)⟩
theorem lw_p20 : lw_okq (⟨"BranchPredictorModel", "plainIndex", "(I)I"⟩, 22) := ⟨⟨by decide +kernel, by decide +kernel⟩, List.mem_of_getElem? (i := 548) (by decide +kernel), List.mem_of_getElem? (i := 647) (by decide +kernel), List.mem_of_getElem? (i := 648) (by decide +kernel)⟩
theorem lw_p21 : lw_okq (⟨"BranchPredictorModel", "says", "(I)Z"⟩, 22) := ⟨⟨by decide +kernel, by decide +kernel⟩, List.mem_of_getElem? (i := 548) (by decide +kernel), List.mem_of_getElem? (i := 651) (by decide +kernel), List.mem_of_getElem? (i := 652) (by decide +kernel)⟩
theorem lw_p22 : lw_okq (⟨"BranchPredictorModel", "globalIndex", "(II)I"⟩, 22) := ⟨⟨by decide +kernel, by decide +kernel⟩, List.mem_of_getElem? (i := 548) (by decide +kernel), List.mem_of_getElem? (i := 655) (by decide +kernel), List.mem_of_getElem? (i := 656) (by decide +kernel)⟩
theorem lw_p23 : lw_okq (⟨"BranchPredictorModel", "choiceIndex", "(I)I"⟩, 22) := ⟨⟨by decide +kernel, by decide +kernel⟩, List.mem_of_getElem? (i := 548) (by decide +kernel), List.mem_of_getElem? (i := 659) (by decide +kernel), List.mem_of_getElem? (i := 660) (by decide +kernel)⟩
theorem lw_p24 : lw_okq (⟨"BranchPredictorModel", "loopOf", "(I)I"⟩, 22) := ⟨⟨by decide +kernel, by decide +kernel⟩, List.mem_of_getElem? (i := 548) (by decide +kernel), List.mem_of_getElem? (i := 663) (by decide +kernel), List.mem_of_getElem? (i := 664) (by decide +kernel)⟩
theorem lw_p25 : lw_okq (⟨"BranchPredictorModel", "presumed", "(I)I"⟩, 22) := ⟨⟨by decide +kernel, by decide +kernel⟩, List.mem_of_getElem? (i := 548) (by decide +kernel), List.mem_of_getElem? (i := 667) (by decide +kernel), List.mem_of_getElem? (i := 668) (by decide +kernel)⟩
theorem lw_p26 : lw_okq (⟨"BranchPredictorModel", "isTaken", "(I)Z"⟩, 22) := ⟨⟨by decide +kernel, by decide +kernel⟩, List.mem_of_getElem? (i := 548) (by decide +kernel), List.mem_of_getElem? (i := 671) (by decide +kernel), List.mem_of_getElem? (i := 672) (by decide +kernel)⟩
theorem lw_p27 : lw_okq (⟨"BranchPredictorModel", "appended", "(IZ)I"⟩, 22) := ⟨⟨by decide +kernel, by decide +kernel⟩, List.mem_of_getElem? (i := 548) (by decide +kernel), List.mem_of_getElem? (i := 675) (by decide +kernel), List.mem_of_getElem? (i := 676) (by decide +kernel)⟩
theorem lw_p28 : lw_okq (⟨"BranchPredictorModel", "isFlying", "(I)Z"⟩, 22) := ⟨⟨by decide +kernel, by decide +kernel⟩, List.mem_of_getElem? (i := 548) (by decide +kernel), List.mem_of_getElem? (i := 683) (by decide +kernel), List.mem_of_getElem? (i := 684) (by decide +kernel)⟩
theorem lw_p29 : lw_okq (⟨"BranchPredictorModel", "fail", "(I)I"⟩, 22) := ⟨⟨by decide +kernel, by decide +kernel⟩, List.mem_of_getElem? (i := 548) (by decide +kernel), List.mem_of_getElem? (i := 687) (by decide +kernel), List.mem_of_getElem? (i := 688) (by decide +kernel)⟩
theorem lw_p30 : lw_okq (⟨"BranchPredictorModel", "settle", "(IZ)I"⟩, 22) := ⟨⟨by decide +kernel, by decide +kernel⟩, List.mem_of_getElem? (i := 548) (by decide +kernel), List.mem_of_getElem? (i := 691) (by decide +kernel), List.mem_of_getElem? (i := 692) (by decide +kernel)⟩
theorem lw_p31 : lw_okq (⟨"BranchPredictorModel", "isWrong", "(I)Z"⟩, 22) := ⟨⟨by decide +kernel, by decide +kernel⟩, List.mem_of_getElem? (i := 548) (by decide +kernel), List.mem_of_getElem? (i := 695) (by decide +kernel), List.mem_of_getElem? (i := 696) (by decide +kernel)⟩
def lw_privs_2 : List (MethodName × Nat) := [(⟨"BranchPredictor", "tableWith", "(I)LBranchPredictor$CounterTable;"⟩, 16), (⟨"BranchPredictorModel", "begin", "(III)V"⟩, 22), (⟨"BranchPredictorModel", "failed", "(I)Z"⟩, 22), (⟨"BranchPredictorModel", "add", "(I)Z"⟩, 22), (⟨"BranchPredictorModel", "plainIndex", "(I)I"⟩, 22), (⟨"BranchPredictorModel", "says", "(I)Z"⟩, 22), (⟨"BranchPredictorModel", "globalIndex", "(II)I"⟩, 22), (⟨"BranchPredictorModel", "choiceIndex", "(I)I"⟩, 22), (⟨"BranchPredictorModel", "loopOf", "(I)I"⟩, 22), (⟨"BranchPredictorModel", "presumed", "(I)I"⟩, 22), (⟨"BranchPredictorModel", "isTaken", "(I)Z"⟩, 22), (⟨"BranchPredictorModel", "appended", "(IZ)I"⟩, 22), (⟨"BranchPredictorModel", "isFlying", "(I)Z"⟩, 22), (⟨"BranchPredictorModel", "fail", "(I)I"⟩, 22), (⟨"BranchPredictorModel", "settle", "(IZ)I"⟩, 22), (⟨"BranchPredictorModel", "isWrong", "(I)Z"⟩, 22)]
theorem lw_r2 : ∀ q ∈ lw_privs_2, lw_okq q := List.forall_mem_cons.mpr ⟨lw_p16, List.forall_mem_cons.mpr ⟨lw_p17, List.forall_mem_cons.mpr ⟨lw_p18, List.forall_mem_cons.mpr ⟨lw_p19, List.forall_mem_cons.mpr ⟨lw_p20, List.forall_mem_cons.mpr ⟨lw_p21, List.forall_mem_cons.mpr ⟨lw_p22, List.forall_mem_cons.mpr ⟨lw_p23, List.forall_mem_cons.mpr ⟨lw_p24, List.forall_mem_cons.mpr ⟨lw_p25, List.forall_mem_cons.mpr ⟨lw_p26, List.forall_mem_cons.mpr ⟨lw_p27, List.forall_mem_cons.mpr ⟨lw_p28, List.forall_mem_cons.mpr ⟨lw_p29, List.forall_mem_cons.mpr ⟨lw_p30, List.forall_mem_cons.mpr ⟨lw_p31, fun _ h => absurd h List.not_mem_nil⟩⟩⟩⟩⟩⟩⟩⟩⟩⟩⟩⟩⟩⟩⟩⟩
theorem lw_p32 : lw_okq (⟨"BranchPredictorModel", "learn", "()Z"⟩, 22) := ⟨⟨by decide +kernel, by decide +kernel⟩, List.mem_of_getElem? (i := 548) (by decide +kernel), List.mem_of_getElem? (i := 703) (by decide +kernel), List.mem_of_getElem? (i := 704) (by decide +kernel)⟩
theorem lw_p33 : lw_okq (⟨"BranchPredictorModel", "change", "(IZ)V"⟩, 22) := ⟨⟨by decide +kernel, by decide +kernel⟩, List.mem_of_getElem? (i := 548) (by decide +kernel), List.mem_of_getElem? (i := 707) (by decide +kernel), List.mem_of_getElem? (i := 708) (by decide +kernel)⟩
theorem lw_p34 : lw_okq (⟨"BranchPredictorModel", "audit", "(IIIZ)V"⟩, 22) := ⟨⟨by decide +kernel, by decide +kernel⟩, List.mem_of_getElem? (i := 548) (by decide +kernel), List.mem_of_getElem? (i := 713) (by decide +kernel), List.mem_of_getElem? (i := 714) (by decide +kernel)⟩
theorem lw_p35 : lw_okq (⟨"BranchPredictorModel", "learnLoop", "(IZZ)V"⟩, 22) := ⟨⟨by decide +kernel, by decide +kernel⟩, List.mem_of_getElem? (i := 548) (by decide +kernel), List.mem_of_getElem? (i := 717) (by decide +kernel), List.mem_of_getElem? (i := 718) (by decide +kernel)⟩
theorem lw_p36 : lw_okq (⟨"BranchPredictorModel", "makeLoop", "(I)V"⟩, 22) := ⟨⟨by decide +kernel, by decide +kernel⟩, List.mem_of_getElem? (i := 548) (by decide +kernel), List.mem_of_getElem? (i := 721) (by decide +kernel), List.mem_of_getElem? (i := 722) (by decide +kernel)⟩
theorem lw_p37 : lw_okq (⟨"BranchPredictorModel", "stateOf", "(I)I"⟩, 22) := ⟨⟨by decide +kernel, by decide +kernel⟩, List.mem_of_getElem? (i := 548) (by decide +kernel), List.mem_of_getElem? (i := 745) (by decide +kernel), List.mem_of_getElem? (i := 746) (by decide +kernel)⟩
theorem lw_p38 : lw_okq (⟨"BranchPredictorModel", "sizeOf", "(I)I"⟩, 22) := ⟨⟨by decide +kernel, by decide +kernel⟩, List.mem_of_getElem? (i := 548) (by decide +kernel), List.mem_of_getElem? (i := 764) (by decide +kernel), List.mem_of_getElem? (i := 765) (by decide +kernel)⟩
theorem lw_p39 : lw_okq (⟨"BranchPredictorModel", "ofLoop", "(II)I"⟩, 22) := ⟨⟨by decide +kernel, by decide +kernel⟩, List.mem_of_getElem? (i := 548) (by decide +kernel), List.mem_of_getElem? (i := 772) (by decide +kernel), List.mem_of_getElem? (i := 773) (by decide +kernel)⟩
def lw_privs_3 : List (MethodName × Nat) := [(⟨"BranchPredictorModel", "learn", "()Z"⟩, 22), (⟨"BranchPredictorModel", "change", "(IZ)V"⟩, 22), (⟨"BranchPredictorModel", "audit", "(IIIZ)V"⟩, 22), (⟨"BranchPredictorModel", "learnLoop", "(IZZ)V"⟩, 22), (⟨"BranchPredictorModel", "makeLoop", "(I)V"⟩, 22), (⟨"BranchPredictorModel", "stateOf", "(I)I"⟩, 22), (⟨"BranchPredictorModel", "sizeOf", "(I)I"⟩, 22), (⟨"BranchPredictorModel", "ofLoop", "(II)I"⟩, 22)]
theorem lw_r3 : ∀ q ∈ lw_privs_3, lw_okq q := List.forall_mem_cons.mpr ⟨lw_p32, List.forall_mem_cons.mpr ⟨lw_p33, List.forall_mem_cons.mpr ⟨lw_p34, List.forall_mem_cons.mpr ⟨lw_p35, List.forall_mem_cons.mpr ⟨lw_p36, List.forall_mem_cons.mpr ⟨lw_p37, List.forall_mem_cons.mpr ⟨lw_p38, List.forall_mem_cons.mpr ⟨lw_p39, fun _ h => absurd h List.not_mem_nil⟩⟩⟩⟩⟩⟩⟩⟩
def lw_privs : List (MethodName × Nat) := lw_privs_1 ++ (lw_privs_2 ++ (lw_privs_3))
def lw_tbl : List Cond := k2_sels lw_privs ++ tables_1
theorem lw_privs_ok : ∀ q ∈ lw_privs, lw_okq q := by
  show ∀ q ∈ lw_privs_1 ++ (lw_privs_2 ++ (lw_privs_3)), lw_okq q
  exact List.forall_mem_append.mpr ⟨lw_r1, List.forall_mem_append.mpr ⟨lw_r2, lw_r3⟩⟩
/-- the streams that the claim lets the run draw from -/
abbrev lw_cs : List Choice := [Jvm.Choice.named "NaN.bits"]
theorem lw_bits : nanBits ∈ lw_cs := by first | decide | exact List.mem_cons_self | simp [lw_cs, nanBits]
-- ===== end of PART A; then your names; then what follows =====
/-! ===== BEGIN words of one list among another's, by their places ===== -/
theorem goodIn_r {big : List Cond} (ws : List Cond) (ps : List Nat) (hp : ws = ps.filterMap (fun i => big[i]?)) (h : ws.all goodWord = true) : GoodIn big ws := by
  intro w hw
  have h1 := List.all_eq_true.mp h w hw
  rw [hp] at hw
  obtain ⟨i, -, hi⟩ := List.mem_filterMap.mp hw
  have hm : w ∈ big := by first | exact List.mem_of_getElem? hi | exact List.getElem?_mem hi
  exact ⟨hm, good_of_word h1⟩
theorem goodIn_app {big a b : List Cond} (ha : GoodIn big a) (hb : GoodIn big b) : GoodIn big (a ++ b) := fun w h => (List.mem_append.mp h).elim (ha w) (hb w)
theorem goodIn_ca {big a b : List Cond} {c : Cond} (ha : GoodIn big (c :: a)) (hb : GoodIn big b) : GoodIn big (c :: (a ++ b)) := fun w h => (List.mem_cons.mp h).elim (fun e => ha w (List.mem_cons.mpr (Or.inl e))) (fun h => (List.mem_append.mp h).elim (fun h => ha w (List.mem_cons.mpr (Or.inr h))) (hb w))
theorem goodIn_sub {big ws : List Cond} (hm : ∀ w ∈ ws, w ∈ big) (h : ws.all goodWord = true) : GoodIn big ws := fun w hw => ⟨hm w hw, good_of_word (List.all_eq_true.mp h w hw)⟩
/-! ===== END ===== -/

/-! ===== BEGIN exceptions that leave a method, and their catching by the caller (launches without stack traces) ===== -/
section VXA
/-! The laws vx_back, vx_callV, vx_callS, vx_callSW, vx_throw0, vx_throwS follow proofs of the library, with one case more: JvmDerived/Free/Laws.lean (Back.of_free), Shelf42/LK1.lean (callV, callS), Shelf/KitTraced.lean (throwNew0V, throwNewS). -/
/-- where a method has thrown q: the class by its name, the cell, what was written, the world -/
def vx_T (XC : String → State → State → Prop) (st : State) (q : Addr) (t : State) (mc ms : Nat) (free : Addr → Prop) : Prop :=
  ∃ (E : String) (ce : Cell) (L : List Loc), XC E st t ∧ t.heap[q]? = some ce ∧ ce.vm = .none ∧ st.vm.findClass E = some ce.cls ∧ st.WarmedH t.vm ∧ st.sameButNew ({ t with vm := st.vm } : State) L mc ms ∧ ∀ z ∈ L, free z.base
def vx_Q (Qc : Array Value → State → Outcome → State → Prop) (XC : String → State → State → Prop) (mc ms : Nat) (free : Addr → Prop) : Array Value → State → Outcome → State → Prop := fun a st o t =>
  (Qc a st o t ∧ ∃ L, FrameEnd st o t L mc ms ∧ ∀ q ∈ L, free q.base) ∨ ∃ q, o = .threw q ∧ vx_T XC st q t mc ms free
/-- a callee that returns or throws -/
def vx_Met (l : Launch) (y : MethodName) (ws : List Cond) (rm : Room) (Pc : Array Value → State → Prop) (Qc : Array Value → State → Outcome → State → Prop) (XC : String → State → State → Prop) (mc ms : Nat) (free : Addr → Prop) : Prop :=
  MetFree l y (headSpec ws rm) Pc (fun _ _ _ _ _ => True) (vx_Q Qc XC mc ms free)
def vx_Post (XC : String → State → State → Prop) (mc ms : Nat) (free : Addr → Prop) : Pt → Array Value → Addr → Pt → Prop := fun A a q B =>
  ∃ (g : JFrame) (mk : MethodId) (t : State) (L : List Loc) (E : String) (ce : Cell), B.U.heap = t.heap ∧ B.U.vm = t.vm ∧ XC E (A.U.calling g mk a) t ∧ t.heap[q]? = some ce ∧ ce.vm = .none ∧ A.U.vm.findClass E = some ce.cls ∧ B.locs = A.locs ++ L ∧ (∀ z ∈ L, free z.base) ∧ B.cells = A.cells + mc ∧ B.slots = A.slots + ms
def vx_Back (l : Launch) (R : Room) (p : Program) (e : Env) (below : List Frame) (s : State) (sargs : Array Value) (y : MethodName) (len W9 : Nat)
    (Pre : Pt → Array Value → Prop) (Post : Pt → Array Value → Option Value → Pt → Prop) (PostX : Pt → Array Value → Addr → Pt → Prop) : Prop :=
  ∀ (m : MethodId) (meth : Method) (c : Code) (A : Pt) (g : JFrame) (ig : Instr) (mk : MethodId) (a : Array Value),
    Stand p l e R s m sargs below meth c A.U A.locs A.cells A.slots → g.method = m → g.locals.size = c.maxLocals → decode c.code g.pc = .ok (ig, len) →
    2 * g.monitorRoom + (g.stack.map fun v => v.category).sum ≤ W9 → A.U.methodNamed? y = some mk → Pre A a →
    (∃ (v : Option Value) (B : Pt), Stand p l e R s m sargs below meth c B.U B.locs B.cells B.slots ∧ Post A a v B ∧
      Steps p.tables e below (doInvoke e (A.U.setTop g) [] mk a).1 (B.U.setTop { g with pc := g.pc + len, stack := v.toList ++ g.stack })) ∨
    (∃ (q : Addr) (B : Pt), Stand p l e R s m sargs below meth c B.U B.locs B.cells B.slots ∧ PostX A a q B ∧
      Steps p.tables e below (doInvoke e (A.U.setTop g) [] mk a).1 ((B.U.setTop g).pushFrame (.throwing q)))
section Payer
variable {l : Launch} {R : Room} {p : Program} {e : Env} {below : List Frame} {s : State} {sargs : Array Value} {y : MethodName} {len W9 : Nat}
theorem vx_back {ws : List Cond} {rm : Room} {Pc : Array Value → State → Prop} {Qc : Array Value → State → Outcome → State → Prop} {XC : String → State → State → Prop} {mc ms : Nat} {free : Addr → Prop} {bytes : ByteArray} {maxL : Nat} {ret : Option FieldType}
    (hM : vx_Met l y ws rm Pc Qc XC mc ms free) (hblind : FrameBlind Pc) (hrc : rm.cells = mc) (hrs : rm.slots = ms)
    (hframes : rm.frames + 1 ≤ R.frames) (hlocals : W9 + (maxL + 11) + rm.locals ≤ R.locals)
    (hws : ∀ w ∈ ws, ∀ a' U, s.WarmedH U.vm → w.before a' U = true) (hcode : Cond.code y bytes maxL ret ∈ ws) (hinit : ∀ a' U, s.WarmedH U.vm → (Cond.initialized y.cls).before a' U = true) :
    vx_Back l R p e below s sargs y len W9 (PreOf R mc ms Pc) (PostOf Qc mc ms free) (vx_Post XC mc ms free) := by
  intro m meth c A g ig mk a X hg hsize hdg hW hn hp
  have h1 : (headSpec ws rm).pre.before a A.U = true := atoms_intro fun w hw => hws w hw _ _ X.warmed
  have h2 : (Cond.code y bytes maxL ret).before a A.U = true := hws _ hcode _ _ X.warmed
  have h3 : (Cond.initialized y.cls).before a A.U = true := hinit _ _ X.warmed
  have h4 : A.cells + (headSpec ws rm).room.cells ≤ R.cells := by rw [show (headSpec ws rm).room.cells = mc from hrc]; exact hp.1
  have h5 : A.slots + (headSpec ws rm).room.slots ≤ R.slots := by rw [show (headSpec ws rm).room.slots = ms from hrs]; exact hp.2.1
  have hPc : Pc a (A.U.calling g mk a) := hblind _ _ _ _ hp.2.2
  obtain ⟨U, Ls, c0, s0⟩ := A
  dsimp only [Pt.U, Pt.locs, Pt.cells, Pt.slots] at h1 h2 h3 h4 h5 X hn hPc ⊢
  obtain ⟨methY, cY, hmY, hcY, -, hlY, -, -, -, -⟩ := Cond.code_spec hn h2
  obtain ⟨kY, hkY, -⟩ := className_of_methodNamed hn
  have hinitY : kY.init = .initialized := Cond.initialized_spec (findClass_of_methodNamed hn) hkY h3
  have h : At U g.method c below := by rw [hg]; exact X.here
  have hlocals9 : W9 + (maxL + 11) + (headSpec ws rm).room.locals ≤ R.locals := hlocals
  have happ : (headSpec ws rm).appliesLoose y e.platform (U.calling g mk a) = true :=
    Spec.appliesLoose_calling (g := g) h hdg hn hkY hinitY
      (X.room_calling (g := g) (R' := (headSpec ws rm).room) hsize hmY hcY hframes (by rw [hlY]; omega) h4 h5) h1
  obtain ⟨mid, hmid⟩ := h.above
  have hfr : (U.setTop g).frames = (.java g :: mid) ++ below := by rw [State.frames_setTop' g h.top, hmid]; rfl
  obtain ⟨o, s₂, hsteps, -, hend, hq⟩ := Steps.callFree hM p X.admits X.cas X.clock (acts := []) hfr happ hPc trivial
  have hq' : vx_Q Qc XC mc ms free a (U.calling g mk a) o s₂ := hq
  rw [State.frames_setTop' g h.top] at hend
  obtain ⟨g₀, hg0⟩ := Option.isSome_iff_exists.mp h.top
  obtain ⟨r, hr⟩ := State.topJava?_eq_some.mp hg0
  have hr' : (({ U with heap := s₂.heap, slotsUsed := s₂.slotsUsed } : State).setVm s₂.vm).frames = .java g₀ :: r := hr
  rcases hq' with ⟨hqc, L, hfe, hL⟩ | ⟨q, rfl, E, ce, L, hx, hce, hcv, hcl, hW₂, hsm, hL⟩
  · obtain ⟨⟨v, rfl⟩, hW₂, e2, q2, q3, q4, q5, q6⟩ := id hfe
    have e3 : s₂ = ({ (U.calling g mk a).setFrames s₂.frames with heap := s₂.heap, slotsUsed := s₂.slotsUsed } : State).setVm s₂.vm := by
      have : s₂ = ({ s₂ with vm := (U.calling g mk a).vm } : State).setVm s₂.vm := rfl
      rw [e2] at this
      exact this
    obtain ⟨c₂, i₂, len₂, hc₂, hd₂, hf₂⟩ := hend
    have hW' : U.WarmedH s₂.vm := hW₂
    have hcc : c₂ = c := by
      have h1 : s₂.code? g.method = U.code? g.method := by
        rw [State.code?_eq, State.code?_eq, hW'.alike.method?]
      exact Option.some.inj (hc₂.symm.trans (h1.trans h.code))
    subst hcc
    have hlen : len₂ = len := by rw [hdg] at hd₂; cases hd₂; rfl
    subst hlen
    have hs₂ : s₂ = (({ U with heap := s₂.heap, slotsUsed := s₂.slotsUsed } : State).setVm s₂.vm).setTop { g with pc := g.pc + len₂, stack := v.toList ++ g.stack } := by
      refine e3.trans ?_
      rw [hf₂, State.calling_eq h.top, State.setFrames_setFrames, State.setTop_of_frames _ hr', hr]
      rfl
    have hsame : U.sameButNew ({ U with heap := s₂.heap, slotsUsed := s₂.slotsUsed } : State) L mc ms := by
      refine ⟨?_, q2, q3, q4, q5, q6⟩
      obtain ⟨t, ht, -⟩ := State.frames_cons hr
      show ({ U with heap := s₂.heap, slotsUsed := s₂.slotsUsed } : State) = { U.setFrames U.frames with heap := s₂.heap, slotsUsed := s₂.slotsUsed }
      rw [State.setFrames_self ht]
    subst hg
    refine Or.inl ⟨v, ⟨(({ U with heap := s₂.heap, slotsUsed := s₂.slotsUsed } : State).setVm s₂.vm), Ls ++ L, c0 + mc, s0 + ms⟩,
      ⟨X.admits, X.cas, X.clock, X.frames, X.room, X.hears, X.method, X.code, (X.here.setHeapUsed s₂.heap s₂.slotsUsed).setVm hW'.alike, X.tail, State.WarmedH.trans X.warmed hW', X.limits, X.bytes, X.same.trans (hsame.setVm s.vm)⟩,
      ⟨g, mk, s₂, L, rfl, rfl, hqc, rfl, hL, rfl, rfl⟩, ?_⟩
    show Steps p.tables e below _ ((({ U with heap := s₂.heap, slotsUsed := s₂.slotsUsed } : State).setVm s₂.vm).setTop { g with pc := g.pc + len₂, stack := v.toList ++ g.stack })
    rw [← hs₂]
    exact hsteps
  · obtain ⟨e2, q2, q3, q4, q5, q6⟩ := id hsm
    have e3 : s₂ = ({ (U.calling g mk a).setFrames s₂.frames with heap := s₂.heap, slotsUsed := s₂.slotsUsed } : State).setVm s₂.vm := by
      have : s₂ = ({ s₂ with vm := (U.calling g mk a).vm } : State).setVm s₂.vm := rfl
      rw [e2] at this
      exact this
    have hf₂ : s₂.frames = .throwing q :: .java g :: U.frames.tail := hend
    have hW' : U.WarmedH s₂.vm := hW₂
    have hs₂ : s₂ = ((({ U with heap := s₂.heap, slotsUsed := s₂.slotsUsed } : State).setVm s₂.vm).setTop g).pushFrame (.throwing q) := by
      refine e3.trans ?_
      rw [hf₂, State.calling_eq h.top, State.setFrames_setFrames, State.pushFrame, State.frames_setTop _ hr', State.setTop_of_frames _ hr', State.setFrames_setFrames, hr]
      rfl
    have hsame : U.sameButNew ({ U with heap := s₂.heap, slotsUsed := s₂.slotsUsed } : State) L mc ms := by
      refine ⟨?_, q2, q3, q4, q5, q6⟩
      obtain ⟨t, ht, -⟩ := State.frames_cons hr
      show ({ U with heap := s₂.heap, slotsUsed := s₂.slotsUsed } : State) = { U.setFrames U.frames with heap := s₂.heap, slotsUsed := s₂.slotsUsed }
      rw [State.setFrames_self ht]
    subst hg
    refine Or.inr ⟨q, ⟨(({ U with heap := s₂.heap, slotsUsed := s₂.slotsUsed } : State).setVm s₂.vm), Ls ++ L, c0 + mc, s0 + ms⟩,
      ⟨X.admits, X.cas, X.clock, X.frames, X.room, X.hears, X.method, X.code, (X.here.setHeapUsed s₂.heap s₂.slotsUsed).setVm hW'.alike, X.tail, State.WarmedH.trans X.warmed hW', X.limits, X.bytes, X.same.trans (hsame.setVm s.vm)⟩,
      ⟨g, mk, s₂, L, E, ce, rfl, rfl, hx, hce, hcv, hcl, rfl, hL, rfl, rfl⟩, ?_⟩
    show Steps p.tables e below _ (((({ U with heap := s₂.heap, slotsUsed := s₂.slotsUsed } : State).setVm s₂.vm).setTop g).pushFrame (.throwing q))
    rw [← hs₂]
    exact hsteps
end Payer
section Calls
variable {p : Program} {l : Launch} {e : Env} {R : Room} {s : State} {m : MethodId} {args : Array Value} {below : List Frame} {meth : Method} {c : Code} {T : State} {locs : List Loc} {cells slots : Nat}
theorem vx_callV (X : Stand p l e R s m args below meth c T locs cells slots) (hexec : p.tables.exec = Jvm.exec) {own C : String} {index : Nat} {y : MethodName} {bytes : ByteArray} {maxL : Nat} {ret : Option FieldType}
    (hown : s.vm.findClass own = some m.cls) (hlink : (Cond.methodLink own index y).before args s = true) (hinst : (Cond.instanceMethod y).before args s = true) (hsel : (Cond.selects C y y).before args s = true)
    (hcode : (Cond.code y bytes maxL ret).before args s = true) (hy : y.cls ≠ "java/lang/invoke/MethodHandle" ∧ y.cls ≠ "java/lang/invoke/VarHandle")
    {W9 : Nat} {Pre : Pt → Array Value → Prop} {Post : Pt → Array Value → Option Value → Pt → Prop} {PostX : Pt → Array Value → Addr → Pt → Prop} (hK : vx_Back l R p e below s args y 3 W9 Pre Post PostX)
    {b : Addr} {cellB : Cell} (hcell : T.heap[b]? = some cellB) (hobj : cellB.vm.isStatics = false) (hcls : s.vm.findClass C = some cellB.cls)
    {g : JFrame} (hg : g.method = m) (hsize : g.locals.size = c.maxLocals) {argsL rest : List Value} (hlen : ∀ sig, parseMethodDescriptor y.desc = some sig → argsL.length = sig.parameters.length)
    (hstack : g.stack = argsL.reverse ++ .ref b :: rest) (hW : 2 * g.monitorRoom + (rest.map fun v => v.category).sum ≤ W9) (hdg : decode c.code g.pc = .ok (.invokevirtual index, 3))
    (hpre : ∀ vm₁, s.WarmedH vm₁ → Pre ⟨T.setVm vm₁, locs, cells, slots⟩ (Value.ref b :: argsL).toArray) :
    (∃ (v : Option Value) (vm₁ : Vm) (B : Pt), s.WarmedH vm₁ ∧ Stand p l e R s m args below meth c B.U B.locs B.cells B.slots ∧ Post ⟨T.setVm vm₁, locs, cells, slots⟩ (Value.ref b :: argsL).toArray v B ∧
      ∀ target, Steps p.tables e below (B.U.setTop { g with pc := g.pc + 3, stack := v.toList ++ rest }) target → Steps p.tables e below (T.setTop g) target) ∨
    (∃ (q : Addr) (vm₁ : Vm) (B : Pt), s.WarmedH vm₁ ∧ Stand p l e R s m args below meth c B.U B.locs B.cells B.slots ∧ PostX ⟨T.setVm vm₁, locs, cells, slots⟩ (Value.ref b :: argsL).toArray q B ∧
      Steps p.tables e below (T.setTop g) ((B.U.setTop { g with stack := rest }).pushFrame (.throwing q))) := by
  obtain ⟨mk, methM, hnamed, hmethM, hstM, habM⟩ := Cond.instanceMethod_spec hinst
  obtain ⟨methM', cM, hmethM', -, -, -, -, -, -, hsigM⟩ := Cond.code_spec hnamed hcode
  cases hmethM.symm.trans hmethM'
  obtain ⟨c2, r2, m2, q1, q2, q3, q4, kP, hkP, hkPi⟩ := Cond.selects_spec hsel
  cases hcls.symm.trans q1
  cases (State.methodFound?_of_named hnamed hy).symm.trans q2
  cases hnamed.symm.trans q3
  have hselP : selectMethod e.platform s.vm cellB.cls mk = .method mk := by rw [Launch.admits_selectMethod X.admits]; exact q4
  obtain ⟨vm₁, X₁, hstep₁⟩ := X.invokevirtual hexec hown hlink hnamed hmethM hstM hkP hkPi hy (a := b) (cell := cellB) hcell
    (fun z h => by rw [h] at hobj; cases hobj) hselP hmethM habM hkP hkPi (g := g) hg (argsL := argsL) (rest := rest) (hlen _ hsigM) hstack hdg
  rcases hK m meth c ⟨T.setVm vm₁, locs, cells, slots⟩ { g with stack := rest } (.invokevirtual index) mk (Value.ref b :: argsL).toArray X₁ hg hsize hdg hW (X₁.named hnamed) (hpre vm₁ X₁.warmed) with ⟨v, B, X', hpost, hsteps⟩ | ⟨q, B, X', hpost, hsteps⟩
  · exact Or.inl ⟨v, vm₁, B, X₁.warmed, X', hpost, fun target h => hstep₁ _ fun acts => by rw [doInvoke_state]; exact hsteps.trans h⟩
  · exact Or.inr ⟨q, vm₁, B, X₁.warmed, X', hpost, hstep₁ _ fun acts => by rw [doInvoke_state]; exact hsteps⟩
theorem vx_callS (X : Stand p l e R s m args below meth c T locs cells slots) (hexec : p.tables.exec = Jvm.exec) {own : String} {index : Nat} {y : MethodName} {bytes : ByteArray} {maxL : Nat} {ret : Option FieldType}
    (hown : s.vm.findClass own = some m.cls) (hlink : (Cond.methodLink own index y).before args s = true) (hstat : (Cond.static y).before args s = true) (hinit : (Cond.initialized y.cls).before args s = true)
    (hcode : (Cond.code y bytes maxL ret).before args s = true) (hy : y.cls ≠ "java/lang/invoke/MethodHandle" ∧ y.cls ≠ "java/lang/invoke/VarHandle")
    {W9 : Nat} {Pre : Pt → Array Value → Prop} {Post : Pt → Array Value → Option Value → Pt → Prop} {PostX : Pt → Array Value → Addr → Pt → Prop} (hK : vx_Back l R p e below s args y 3 W9 Pre Post PostX)
    {g : JFrame} (hg : g.method = m) (hsize : g.locals.size = c.maxLocals) {argsL rest : List Value} (hlen : ∀ sig, parseMethodDescriptor y.desc = some sig → argsL.length = sig.parameters.length)
    (hstack : g.stack = argsL.reverse ++ rest) (hW : 2 * g.monitorRoom + (rest.map fun v => v.category).sum ≤ W9) (hdg : decode c.code g.pc = .ok (.invokestatic index, 3))
    (hpre : ∀ vm₁, s.WarmedH vm₁ → Pre ⟨T.setVm vm₁, locs, cells, slots⟩ argsL.toArray) :
    (∃ (v : Option Value) (vm₁ : Vm) (B : Pt), s.WarmedH vm₁ ∧ Stand p l e R s m args below meth c B.U B.locs B.cells B.slots ∧ Post ⟨T.setVm vm₁, locs, cells, slots⟩ argsL.toArray v B ∧
      ∀ target, Steps p.tables e below (B.U.setTop { g with pc := g.pc + 3, stack := v.toList ++ rest }) target → Steps p.tables e below (T.setTop g) target) ∨
    (∃ (q : Addr) (vm₁ : Vm) (B : Pt), s.WarmedH vm₁ ∧ Stand p l e R s m args below meth c B.U B.locs B.cells B.slots ∧ PostX ⟨T.setVm vm₁, locs, cells, slots⟩ argsL.toArray q B ∧
      Steps p.tables e below (T.setTop g) ((B.U.setTop { g with stack := rest }).pushFrame (.throwing q))) := by
  obtain ⟨mk, hnamed⟩ := Cond.code_named hcode
  obtain ⟨methM, cM, hmethM, -, -, -, -, -, -, hsigM⟩ := Cond.code_spec hnamed hcode
  have hstatic : methM.isStatic = true := Cond.static_spec hnamed hmethM hstat
  obtain ⟨kP, hkP, -⟩ := className_of_methodNamed hnamed
  have hinitP : kP.init = .initialized := Cond.initialized_spec (findClass_of_methodNamed hnamed) hkP hinit
  obtain ⟨vm₁, X₁, hstep₁⟩ := X.invokestatic hexec hown hlink hnamed hmethM hstatic hkP hinitP hy (g := g) hg (argsL := argsL) (rest := rest) (hlen _ hsigM) hstack hdg
  rcases hK m meth c ⟨T.setVm vm₁, locs, cells, slots⟩ { g with stack := rest } (.invokestatic index) mk argsL.toArray X₁ hg hsize hdg hW (X₁.named hnamed) (hpre vm₁ X₁.warmed) with ⟨v, B, X', hpost, hsteps⟩ | ⟨q, B, X', hpost, hsteps⟩
  · exact Or.inl ⟨v, vm₁, B, X₁.warmed, X', hpost, fun target h => hstep₁ _ fun acts => by rw [doInvoke_state]; exact hsteps.trans h⟩
  · exact Or.inr ⟨q, vm₁, B, X₁.warmed, X', hpost, hstep₁ _ fun acts => by rw [doInvoke_state]; exact hsteps⟩
end Calls
theorem vx_cls {s : State} {T : State} {vm₁ : Vm} {E : String} {k : ClassId} (hW : s.WarmedH vm₁) (h : (T.setVm vm₁).vm.findClass E = some k) : s.vm.findClass E = some k := by
  have h1 : vm₁.findClass E = some k := h
  rw [hW.alike.findClass] at h1
  exact h1
/-- the method's frame g, with q thrown over it -/
def vx_W (p : Program) (l : Launch) (e : Env) (R : Room) (s : State) (m : MethodId) (args : Array Value) (below : List Frame) (meth : Method) (c : Code) (H : Heap) (locs : List Loc) (cells slots : Nat) (Q : State → Prop) (g : JFrame) (q : Addr) : Prop :=
  ∀ T : State, T.heap = H → Stand p l e R s m args below meth c T locs cells slots → ∃ t, Steps p.tables e below ((T.setTop g).pushFrame (.throwing q)) t ∧ Q t
def vx_Run (p : Program) (l : Launch) (e : Env) (R : Room) (s : State) (m : MethodId) (args : Array Value) (below : List Frame) (meth : Method) (c : Code) (H : Heap) (locs : List Loc) (cells slots mc ms : Nat) (g : JFrame) (rest : List Value) (Qa : State → Outcome → State → Prop) (XC : String → State → State → Prop) (free : Addr → Prop) : Prop :=
  ∀ T : State, T.heap = H → Stand p l e R s m args below meth c T locs cells slots →
    (∃ (v : Option Value) (st₀ t T' : State) (L : List Loc), st₀.heap = H ∧ Stand p l e R s m args below meth c T' (locs ++ L) (cells + mc) (slots + ms) ∧ (∀ q ∈ L, free q.base) ∧ T'.heap = t.heap ∧ T'.vm = t.vm ∧ Qa st₀ (.returned v) t ∧
      Goes p e below T g T' { g with pc := g.pc + 3, stack := v.toList ++ rest }) ∨
    (∃ (q : Addr) (st₀ t T' : State) (L : List Loc) (E : String) (ce : Cell), st₀.heap = H ∧ Stand p l e R s m args below meth c T' (locs ++ L) (cells + mc) (slots + ms) ∧ (∀ z ∈ L, free z.base) ∧ T'.heap = t.heap ∧ T'.vm = t.vm ∧ XC E st₀ t ∧ t.heap[q]? = some ce ∧ ce.vm = .none ∧ s.vm.findClass E = some ce.cls ∧
      Steps p.tables e below (T.setTop g) ((T'.setTop { g with stack := rest }).pushFrame (.throwing q)))
def vx_X {S : Type} (px : S → Prop) (B : String → S → State → Prop) (A : Nat → Prop) : String → State → State → Prop := fun E st t => ∃ u : S, px u ∧ B E u t ∧ va_F A st t
section Runs
variable {p : Program} {l : Launch} {e : Env} {R : Room} {s : State} {m : MethodId} {args : Array Value} {below : List Frame} {meth : Method} {c : Code} {H : Heap} {locs : List Loc} {cells slots : Nat}
variable {y : MethodName} {bytes cc : ByteArray} {maxL nL mc ms n index : Nat} {ret : Option FieldType} {ws : List Cond} {rm : Room} {Pc : Array Value → State → Prop} {Qc : Array Value → State → Outcome → State → Prop} {XC : String → State → State → Prop} {free : Addr → Prop} {Ts : List Cond} {own C : String} {b : Addr} {As rest : List Value} {g : JFrame}
theorem vx_callBack (cb : CallB R s args own index y bytes maxL ret ws rm mc ms n) (hM : vx_Met l y ws rm Pc Qc XC mc ms free) (hbl : FrameBlind Pc) : vx_Back l R p e below s args y 3 8 (PreOf R mc ms Pc) (PostOf Qc mc ms free) (vx_Post XC mc ms free) := by
  obtain ⟨hrc, hrs, hfr, hlo, hws, hcw, -, hini, -⟩ := cb
  exact vx_back (bytes := bytes) (maxL := maxL) (ret := ret) hM hbl hrc hrs hfr hlo hws hcw (fun a' U hW => word_at hW (Or.inl (by first | rfl | simp [Cond.onTables, Cond.keeps, Cond.steady])) hini)
theorem vx_runV (S : CallFix p m c cc nL s args Ts own) (hM : vx_Met l y ws rm Pc Qc XC mc ms free) (cw : CallW R s args own C index y bytes maxL ret ws rm mc ms n) (hp : PreV s H C b Pc As)
    (hg : g.method = m) (hn : As.length = n) (hsize : g.locals.size = nL) (hstack : g.stack = As.reverse ++ .ref b :: rest) (hW : 2 * g.monitorRoom + (rest.map fun v => v.category).sum ≤ 8) (hdg : decode cc g.pc = .ok (.invokevirtual index, 3)) (hf : cells + mc ≤ R.cells ∧ slots + ms ≤ R.slots) :
    vx_Run p l e R s m args below meth c H locs cells slots mc ms g rest (Qc (Value.ref b :: As).toArray) XC free := by
  have hK : vx_Back l R p e below s args y 3 8 (PreOf R mc ms Pc) (PostOf Qc mc ms free) (vx_Post XC mc ms free) := vx_callBack cw.1 hM hp.1
  obtain ⟨⟨-, -, -, -, -, -, hcode, -, hy, hlen, hl⟩, hin, hse⟩ := cw
  obtain ⟨hx, hb, hml, ho, -⟩ := S
  obtain ⟨-, ⟨cellB, hcB, hoB, hclB⟩, hPc⟩ := hp
  intro T hT X
  rcases vx_callV X hx (C := C) (bytes := bytes) (maxL := maxL) (ret := ret) ho hl hin hse hcode hy hK (by rw [hT]; exact hcB) hoB hclB hg (hsize.trans hml.symm) (argsL := As) (rest := rest) (fun sig h => hn.trans (hlen sig h)) hstack hW (by rw [hb]; exact hdg)
    (fun vm₁ hW₁ => ⟨hf.1, hf.2, hPc (T.setVm vm₁) hT hW₁⟩) with ⟨v, vm₁, ⟨U', l2, c2, s2⟩, hW₁, X', ⟨g', mk, t, L, e1, e2, hq, h1, hL, h2, h3⟩, st⟩ | ⟨q, vm₁, ⟨U', l2, c2, s2⟩, hW₁, X', ⟨g', mk, t, L, E, ce, e1, e2, hq, hce, hcv, hcl, h1, hL, h2, h3⟩, st⟩
  · dsimp only [Pt.U, Pt.locs, Pt.cells, Pt.slots] at X' e1 e2 h1 h2 h3 st
    subst h1; subst h2; subst h3
    exact Or.inl ⟨v, (T.setVm vm₁).calling g' mk (Value.ref b :: As).toArray, t, U', L, hT, X', hL, e1, e2, hq, st⟩
  · dsimp only [Pt.U, Pt.locs, Pt.cells, Pt.slots] at X' e1 e2 h1 h2 h3 st hcl
    subst h1; subst h2; subst h3
    exact Or.inr ⟨q, (T.setVm vm₁).calling g' mk (Value.ref b :: As).toArray, t, U', L, E, ce, hT, X', hL, e1, e2, hq, hce, hcv, vx_cls hW₁ hcl, st⟩
theorem vx_runS (S : CallFix p m c cc nL s args Ts own) (hM : vx_Met l y ws rm Pc Qc XC mc ms free) (cw : CallB R s args own index y bytes maxL ret ws rm mc ms n ∧ (Cond.static y).before args s = true) (hp : PreS s H Pc As)
    (hg : g.method = m) (hn : As.length = n) (hsize : g.locals.size = nL) (hstack : g.stack = As.reverse ++ rest) (hW : 2 * g.monitorRoom + (rest.map fun v => v.category).sum ≤ 8) (hdg : decode cc g.pc = .ok (.invokestatic index, 3)) (hf : cells + mc ≤ R.cells ∧ slots + ms ≤ R.slots) :
    vx_Run p l e R s m args below meth c H locs cells slots mc ms g rest (Qc As.toArray) XC free := by
  have hK : vx_Back l R p e below s args y 3 8 (PreOf R mc ms Pc) (PostOf Qc mc ms free) (vx_Post XC mc ms free) := vx_callBack cw.1 hM hp.1
  obtain ⟨⟨-, -, -, -, -, -, hcode, hini, hy, hlen, hl⟩, hstt⟩ := cw
  obtain ⟨hx, hb, hml, ho, -⟩ := S
  intro T hT X
  rcases vx_callS X hx (bytes := bytes) (maxL := maxL) (ret := ret) ho hl hstt hini hcode hy hK hg (hsize.trans hml.symm) (argsL := As) (rest := rest) (fun sig h => hn.trans (hlen sig h)) hstack hW (by rw [hb]; exact hdg)
    (fun vm₁ hW₁ => ⟨hf.1, hf.2, hp.2 (T.setVm vm₁) hT hW₁⟩) with ⟨v, vm₁, ⟨U', l2, c2, s2⟩, hW₁, X', ⟨g', mk, t, L, e1, e2, hq, h1, hL, h2, h3⟩, st⟩ | ⟨q, vm₁, ⟨U', l2, c2, s2⟩, hW₁, X', ⟨g', mk, t, L, E, ce, e1, e2, hq, hce, hcv, hcl, h1, hL, h2, h3⟩, st⟩
  · dsimp only [Pt.U, Pt.locs, Pt.cells, Pt.slots] at X' e1 e2 h1 h2 h3 st
    subst h1; subst h2; subst h3
    exact Or.inl ⟨v, (T.setVm vm₁).calling g' mk As.toArray, t, U', L, hT, X', hL, e1, e2, hq, st⟩
  · dsimp only [Pt.U, Pt.locs, Pt.cells, Pt.slots] at X' e1 e2 h1 h2 h3 st hcl
    subst h1; subst h2; subst h3
    exact Or.inr ⟨q, (T.setVm vm₁).calling g' mk As.toArray, t, U', L, E, ce, hT, X', hL, e1, e2, hq, hce, hcv, vx_cls hW₁ hcl, st⟩
end Runs
section Rows
variable {p : Program} {l : Launch} {e : Env} {R : Room} {s : State} {m : MethodId} {args : Array Value} {below : List Frame} {meth : Method} {c : Code} {H : Heap} {locs : List Loc} {cells slots : Nat} {Q : State → Prop}
variable {mc ms : Nat} {free : Addr → Prop} {A0 A1 : Nat → Prop} {H0 : Heap} {a : Array Value} {pc : Nat} {ls : Array Slot} {st0 rest : List Value}
theorem vx_keep {st₀ t T' : State} {L : List Loc} (h0 : st₀.heap = H) (e1 : T'.heap = t.heap) (hS : va_S A0 H0 H locs) (hA : ∀ q, q < H.size → A1 q → A0 q) (hf : ∀ q, free q → A0 q) (hL : ∀ q ∈ L, free q.base) (hF : va_F A1 st₀ t) :
    H.size ≤ T'.heap.size ∧ (∀ q : Nat, q < H.size → ¬ A1 q → T'.heap[q]? = H[q]?) ∧ va_S A0 H0 T'.heap (locs ++ L) := by
  obtain ⟨hz, hk⟩ := hF
  rw [h0] at hz hk
  exact ⟨by rw [e1]; exact hz, fun q h1 h2 => by rw [e1]; exact hk q h1 h2,
    ⟨Nat.le_trans hS.1 (by rw [e1]; exact hz), fun q h1 h2 => by rw [e1, hk q (Nat.lt_of_lt_of_le h1 hS.1) (fun z => h2 (hA q (Nat.lt_of_lt_of_le h1 hS.1) z))]; exact hS.2.1 q h1 h2, fun q hq => by
      rcases List.mem_append.mp hq with h | h
      · exact hS.2.2 q h
      · exact hf _ (hL q h)⟩⟩
theorem vx_calli {S SX : Type} {post : Int32 → S → Prop} {px : SX → Prop} {B : S → State → Prop} {BX : String → SX → State → Prop} {AX : Nat → Prop} (hr : vx_Run p l e R s m args below meth c H locs cells slots mc ms (F0 m pc ls st0) rest (va_Qi post B A1 a) (vx_X px BX AX) free) (hS : va_S A0 H0 H locs) (hA : ∀ q, q < H.size → A1 q → A0 q) (hf : ∀ q, free q → A0 q) (hAX : ∀ q, q < H.size → AX q → A0 q)
    (kx : ∀ (E : String) (ce : Cell) (q9 : Addr) (u : SX) (t : State) (H1 : Heap) (locs1 : List Loc), t.heap = H1 → s.vm.Alike t.vm → px u → BX E u t → H.size ≤ H1.size → (∀ q : Nat, q < H.size → ¬ AX q → H1[q]? = H[q]?) → va_S A0 H0 H1 locs1 → H1[q9]? = some ce → ce.vm = .none → s.vm.findClass E = some ce.cls → vx_W p l e R s m args below meth c H1 locs1 (cells + mc) (slots + ms) Q (F0 m pc ls rest) q9)
    (kk : ∀ (r : Int32) (u : S) (t : State) (H1 : Heap) (locs1 : List Loc), t.heap = H1 → s.vm.Alike t.vm → post r u → B u t → H.size ≤ H1.size → (∀ q : Nat, q < H.size → ¬ A1 q → H1[q]? = H[q]?) → va_S A0 H0 H1 locs1 → W p l e R s m args below meth c H1 locs1 (cells + mc) (slots + ms) Q (F0 m (pc + 3) ls (.int r :: rest))) : W p l e R s m args below meth c H locs cells slots Q (F0 m pc ls st0) := by
  intro T hT X
  rcases hr T hT X with ⟨v, st₀, t, T', L, h0, X', hL, e1, e2, ⟨⟨r, u, hv, hp, hb⟩, hF⟩, st⟩ | ⟨q, st₀, t, T', L, E, ce, h0, X', hL, e1, e2, ⟨u, hp, hb, hF⟩, hce, hcv, hcl, st⟩
  · cases hv
    obtain ⟨k1, k2, k3⟩ := vx_keep h0 e1 hS hA hf hL hF
    obtain ⟨t2, a1, b1⟩ := kk r u t T'.heap (locs ++ L) e1.symm (by rw [← e2]; exact X'.warmed.alike) hp hb k1 k2 k3 T' rfl X'
    exact ⟨t2, st t2 a1, b1⟩
  · obtain ⟨k1, k2, k3⟩ := vx_keep h0 e1 hS hAX hf hL hF
    obtain ⟨t2, a1, b1⟩ := kx E ce q u t T'.heap (locs ++ L) e1.symm (by rw [← e2]; exact X'.warmed.alike) hp hb k1 k2 k3 (by rw [e1]; exact hce) hcv hcl T' rfl X'
    exact ⟨t2, st.trans a1, b1⟩
theorem vx_calll {S SX : Type} {post : Int64 → S → Prop} {px : SX → Prop} {B : S → State → Prop} {BX : String → SX → State → Prop} {AX : Nat → Prop} (hr : vx_Run p l e R s m args below meth c H locs cells slots mc ms (F0 m pc ls st0) rest (va_Ql post B A1 a) (vx_X px BX AX) free) (hS : va_S A0 H0 H locs) (hA : ∀ q, q < H.size → A1 q → A0 q) (hf : ∀ q, free q → A0 q) (hAX : ∀ q, q < H.size → AX q → A0 q)
    (kx : ∀ (E : String) (ce : Cell) (q9 : Addr) (u : SX) (t : State) (H1 : Heap) (locs1 : List Loc), t.heap = H1 → s.vm.Alike t.vm → px u → BX E u t → H.size ≤ H1.size → (∀ q : Nat, q < H.size → ¬ AX q → H1[q]? = H[q]?) → va_S A0 H0 H1 locs1 → H1[q9]? = some ce → ce.vm = .none → s.vm.findClass E = some ce.cls → vx_W p l e R s m args below meth c H1 locs1 (cells + mc) (slots + ms) Q (F0 m pc ls rest) q9)
    (kk : ∀ (r : Int64) (u : S) (t : State) (H1 : Heap) (locs1 : List Loc), t.heap = H1 → s.vm.Alike t.vm → post r u → B u t → H.size ≤ H1.size → (∀ q : Nat, q < H.size → ¬ A1 q → H1[q]? = H[q]?) → va_S A0 H0 H1 locs1 → W p l e R s m args below meth c H1 locs1 (cells + mc) (slots + ms) Q (F0 m (pc + 3) ls (.long r :: rest))) : W p l e R s m args below meth c H locs cells slots Q (F0 m pc ls st0) := by
  intro T hT X
  rcases hr T hT X with ⟨v, st₀, t, T', L, h0, X', hL, e1, e2, ⟨⟨r, u, hv, hp, hb⟩, hF⟩, st⟩ | ⟨q, st₀, t, T', L, E, ce, h0, X', hL, e1, e2, ⟨u, hp, hb, hF⟩, hce, hcv, hcl, st⟩
  · cases hv
    obtain ⟨k1, k2, k3⟩ := vx_keep h0 e1 hS hA hf hL hF
    obtain ⟨t2, a1, b1⟩ := kk r u t T'.heap (locs ++ L) e1.symm (by rw [← e2]; exact X'.warmed.alike) hp hb k1 k2 k3 T' rfl X'
    exact ⟨t2, st t2 a1, b1⟩
  · obtain ⟨k1, k2, k3⟩ := vx_keep h0 e1 hS hAX hf hL hF
    obtain ⟨t2, a1, b1⟩ := kx E ce q u t T'.heap (locs ++ L) e1.symm (by rw [← e2]; exact X'.warmed.alike) hp hb k1 k2 k3 (by rw [e1]; exact hce) hcv hcl T' rfl X'
    exact ⟨t2, st.trans a1, b1⟩
theorem vx_callf {S SX : Type} {post : UInt32 → S → Prop} {px : SX → Prop} {B : S → State → Prop} {BX : String → SX → State → Prop} {AX : Nat → Prop} (hr : vx_Run p l e R s m args below meth c H locs cells slots mc ms (F0 m pc ls st0) rest (va_Qf post B A1 a) (vx_X px BX AX) free) (hS : va_S A0 H0 H locs) (hA : ∀ q, q < H.size → A1 q → A0 q) (hf : ∀ q, free q → A0 q) (hAX : ∀ q, q < H.size → AX q → A0 q)
    (kx : ∀ (E : String) (ce : Cell) (q9 : Addr) (u : SX) (t : State) (H1 : Heap) (locs1 : List Loc), t.heap = H1 → s.vm.Alike t.vm → px u → BX E u t → H.size ≤ H1.size → (∀ q : Nat, q < H.size → ¬ AX q → H1[q]? = H[q]?) → va_S A0 H0 H1 locs1 → H1[q9]? = some ce → ce.vm = .none → s.vm.findClass E = some ce.cls → vx_W p l e R s m args below meth c H1 locs1 (cells + mc) (slots + ms) Q (F0 m pc ls rest) q9)
    (kk : ∀ (r : UInt32) (u : S) (t : State) (H1 : Heap) (locs1 : List Loc), t.heap = H1 → s.vm.Alike t.vm → post r u → B u t → H.size ≤ H1.size → (∀ q : Nat, q < H.size → ¬ A1 q → H1[q]? = H[q]?) → va_S A0 H0 H1 locs1 → W p l e R s m args below meth c H1 locs1 (cells + mc) (slots + ms) Q (F0 m (pc + 3) ls (.float r :: rest))) : W p l e R s m args below meth c H locs cells slots Q (F0 m pc ls st0) := by
  intro T hT X
  rcases hr T hT X with ⟨v, st₀, t, T', L, h0, X', hL, e1, e2, ⟨⟨r, u, hv, hp, hb⟩, hF⟩, st⟩ | ⟨q, st₀, t, T', L, E, ce, h0, X', hL, e1, e2, ⟨u, hp, hb, hF⟩, hce, hcv, hcl, st⟩
  · cases hv
    obtain ⟨k1, k2, k3⟩ := vx_keep h0 e1 hS hA hf hL hF
    obtain ⟨t2, a1, b1⟩ := kk r u t T'.heap (locs ++ L) e1.symm (by rw [← e2]; exact X'.warmed.alike) hp hb k1 k2 k3 T' rfl X'
    exact ⟨t2, st t2 a1, b1⟩
  · obtain ⟨k1, k2, k3⟩ := vx_keep h0 e1 hS hAX hf hL hF
    obtain ⟨t2, a1, b1⟩ := kx E ce q u t T'.heap (locs ++ L) e1.symm (by rw [← e2]; exact X'.warmed.alike) hp hb k1 k2 k3 (by rw [e1]; exact hce) hcv hcl T' rfl X'
    exact ⟨t2, st.trans a1, b1⟩
theorem vx_calld {S SX : Type} {post : UInt64 → S → Prop} {px : SX → Prop} {B : S → State → Prop} {BX : String → SX → State → Prop} {AX : Nat → Prop} (hr : vx_Run p l e R s m args below meth c H locs cells slots mc ms (F0 m pc ls st0) rest (va_Qd post B A1 a) (vx_X px BX AX) free) (hS : va_S A0 H0 H locs) (hA : ∀ q, q < H.size → A1 q → A0 q) (hf : ∀ q, free q → A0 q) (hAX : ∀ q, q < H.size → AX q → A0 q)
    (kx : ∀ (E : String) (ce : Cell) (q9 : Addr) (u : SX) (t : State) (H1 : Heap) (locs1 : List Loc), t.heap = H1 → s.vm.Alike t.vm → px u → BX E u t → H.size ≤ H1.size → (∀ q : Nat, q < H.size → ¬ AX q → H1[q]? = H[q]?) → va_S A0 H0 H1 locs1 → H1[q9]? = some ce → ce.vm = .none → s.vm.findClass E = some ce.cls → vx_W p l e R s m args below meth c H1 locs1 (cells + mc) (slots + ms) Q (F0 m pc ls rest) q9)
    (kk : ∀ (r : UInt64) (u : S) (t : State) (H1 : Heap) (locs1 : List Loc), t.heap = H1 → s.vm.Alike t.vm → post r u → B u t → H.size ≤ H1.size → (∀ q : Nat, q < H.size → ¬ A1 q → H1[q]? = H[q]?) → va_S A0 H0 H1 locs1 → W p l e R s m args below meth c H1 locs1 (cells + mc) (slots + ms) Q (F0 m (pc + 3) ls (.double r :: rest))) : W p l e R s m args below meth c H locs cells slots Q (F0 m pc ls st0) := by
  intro T hT X
  rcases hr T hT X with ⟨v, st₀, t, T', L, h0, X', hL, e1, e2, ⟨⟨r, u, hv, hp, hb⟩, hF⟩, st⟩ | ⟨q, st₀, t, T', L, E, ce, h0, X', hL, e1, e2, ⟨u, hp, hb, hF⟩, hce, hcv, hcl, st⟩
  · cases hv
    obtain ⟨k1, k2, k3⟩ := vx_keep h0 e1 hS hA hf hL hF
    obtain ⟨t2, a1, b1⟩ := kk r u t T'.heap (locs ++ L) e1.symm (by rw [← e2]; exact X'.warmed.alike) hp hb k1 k2 k3 T' rfl X'
    exact ⟨t2, st t2 a1, b1⟩
  · obtain ⟨k1, k2, k3⟩ := vx_keep h0 e1 hS hAX hf hL hF
    obtain ⟨t2, a1, b1⟩ := kx E ce q u t T'.heap (locs ++ L) e1.symm (by rw [← e2]; exact X'.warmed.alike) hp hb k1 k2 k3 (by rw [e1]; exact hce) hcv hcl T' rfl X'
    exact ⟨t2, st.trans a1, b1⟩
theorem vx_callv {S SX : Type} {post : S → Prop} {px : SX → Prop} {B : S → State → Prop} {BX : String → SX → State → Prop} {AX : Nat → Prop} (hr : vx_Run p l e R s m args below meth c H locs cells slots mc ms (F0 m pc ls st0) rest (va_Qv post B A1 a) (vx_X px BX AX) free) (hS : va_S A0 H0 H locs) (hA : ∀ q, q < H.size → A1 q → A0 q) (hf : ∀ q, free q → A0 q) (hAX : ∀ q, q < H.size → AX q → A0 q)
    (kx : ∀ (E : String) (ce : Cell) (q9 : Addr) (u : SX) (t : State) (H1 : Heap) (locs1 : List Loc), t.heap = H1 → s.vm.Alike t.vm → px u → BX E u t → H.size ≤ H1.size → (∀ q : Nat, q < H.size → ¬ AX q → H1[q]? = H[q]?) → va_S A0 H0 H1 locs1 → H1[q9]? = some ce → ce.vm = .none → s.vm.findClass E = some ce.cls → vx_W p l e R s m args below meth c H1 locs1 (cells + mc) (slots + ms) Q (F0 m pc ls rest) q9)
    (kk : ∀ (u : S) (t : State) (H1 : Heap) (locs1 : List Loc), t.heap = H1 → s.vm.Alike t.vm → post u → B u t → H.size ≤ H1.size → (∀ q : Nat, q < H.size → ¬ A1 q → H1[q]? = H[q]?) → va_S A0 H0 H1 locs1 → W p l e R s m args below meth c H1 locs1 (cells + mc) (slots + ms) Q (F0 m (pc + 3) ls (rest))) : W p l e R s m args below meth c H locs cells slots Q (F0 m pc ls st0) := by
  intro T hT X
  rcases hr T hT X with ⟨v, st₀, t, T', L, h0, X', hL, e1, e2, ⟨⟨u, hv, hp, hb⟩, hF⟩, st⟩ | ⟨q, st₀, t, T', L, E, ce, h0, X', hL, e1, e2, ⟨u, hp, hb, hF⟩, hce, hcv, hcl, st⟩
  · cases hv
    obtain ⟨k1, k2, k3⟩ := vx_keep h0 e1 hS hA hf hL hF
    obtain ⟨t2, a1, b1⟩ := kk u t T'.heap (locs ++ L) e1.symm (by rw [← e2]; exact X'.warmed.alike) hp hb k1 k2 k3 T' rfl X'
    exact ⟨t2, st t2 a1, b1⟩
  · obtain ⟨k1, k2, k3⟩ := vx_keep h0 e1 hS hAX hf hL hF
    obtain ⟨t2, a1, b1⟩ := kx E ce q u t T'.heap (locs ++ L) e1.symm (by rw [← e2]; exact X'.warmed.alike) hp hb k1 k2 k3 (by rw [e1]; exact hce) hcv hcl T' rfl X'
    exact ⟨t2, st.trans a1, b1⟩
/-- caught by the row x of this method's table; the rows ahead don't take it -/
theorem vx_catch {own name : String} {E : String} {ce : Cell} {q : Addr} (hown : s.vm.findClass own = some m.cls) (pre : List ExceptionTableEntry) (x : ExceptionTableEntry) (suf : List ExceptionTableEntry) (hsplit : c.exceptionTable.toList = pre ++ x :: suf)
    (hpass : ∀ z ∈ pre, covers z pc = false ∨ (z.catchType ≠ 0 ∧ ∃ nm : String, (Cond.classLink own z.catchType nm).before args s = true ∧ va_Nc E nm s)) (hx : covers x pc = true) (h0 : x.catchType ≠ 0)
    (hlink : (Cond.classLink own x.catchType name).before args s = true) (hcast : (Cond.castable E name).before args s = true) (hcell : H[q]? = some ce) (hv : ce.vm = .none) (hcl : s.vm.findClass E = some ce.cls)
    (kk : W p l e R s m args below meth c H locs cells slots Q (F0 m x.handlerPc ls [.ref q])) : vx_W p l e R s m args below meth c H locs cells slots Q (F0 m pc ls rest) q := by
  intro T hT X
  have hpl : e.platform.magicAccessors = ({} : Platform).magicAccessors := by rw [X.admits.platform]
  obtain ⟨c3, c4, hc3, hc4, hasg⟩ := Cond.castable_spec hcast
  cases Option.some.inj (hc3.symm.trans hcl)
  obtain ⟨c5, hc5, hcl5⟩ := Cond.classLink_spec hown hlink e.platform hpl
  cases Option.some.inj (hc4.symm.trans hc5)
  obtain ⟨vm', X', st⟩ := X.thenCaughtThrough q (g := F0 m pc ls rest) rfl (Steps.refl _) (by rw [hT]; exact hcell) (by rw [hv]; rfl) (by obtain ⟨k9, h9, -⟩ := Vm.findClass_spec hcl; exact ⟨k9, h9⟩) pre x suf hsplit
    (fun z hz => by
      rcases hpass z hz with h | ⟨hz0, nm, hl1, hn1⟩
      · exact Or.inl h
      · obtain ⟨c6, hc6, hcl6⟩ := Cond.classLink_spec hown hl1 e.platform hpl
        obtain ⟨a8, b8, h1, h2, h3⟩ := hn1
        cases Option.some.inj (h1.symm.trans hcl)
        cases Option.some.inj (h2.symm.trans hc6)
        exact Or.inr ⟨hz0, _, hcl6, h3⟩) hx (Or.inr ⟨h0, c4, hcl5, hasg⟩)
  obtain ⟨t, a1, b1⟩ := kk (T.setVm vm') hT X'
  exact ⟨t, st.trans a1, b1⟩
end Rows
section Ends
variable {p : Program} {l : Launch} {e : Env} {R : Room} {s : State} {m : MethodId} {args : Array Value} {below : List Frame} {meth : Method} {c : Code} {H : Heap} {locs : List Loc} {cells slots : Nat} {Q : State → Prop}
variable {mc ms : Nat} {free : Addr → Prop} {A0 A1 : Nat → Prop} {H0 : Heap} {a : Array Value} {ls : Array Slot} {st0 rest : List Value}
variable {Qc : Array Value → State → Outcome → State → Prop} {XC : String → State → State → Prop}
/-- what a body that may throw owes at its end -/
def vx_MQ (below : List Frame) (Qc : Array Value → State → Outcome → State → Prop) (XC : String → State → State → Prop) (a : Array Value) (s : State) (mc ms : Nat) (free : Addr → Prop) : State → Prop := fun t =>
  ∃ o, t.status = .running ∧ Ended t below o ∧ vx_Q Qc XC mc ms free a s o t
theorem vx_ret {g : JFrame} {mc ms : Nat} (k : W p l e R s m args below meth c H locs cells slots (MQ below Qc args s mc ms free) g) : W p l e R s m args below meth c H locs cells slots (vx_MQ below Qc XC args s mc ms free) g := by
  intro T hT X
  obtain ⟨t, a1, o, b1, b2, b3, b4⟩ := k T hT X
  exact ⟨t, a1, o, b1, b2, Or.inl ⟨b3, b4⟩⟩
/-- not caught here: it goes on to the caller -/
theorem vx_widen {g : JFrame} {q : Addr} {k n : Nat} (h1 : cells ≤ k) (h2 : slots ≤ n) (kk : vx_W p l e R s m args below meth c H locs k n Q g q) : vx_W p l e R s m args below meth c H locs cells slots Q g q := fun T hT X => kk T hT (stand_widen X h1 h2)
theorem vx_out {pc : Nat} {E : String} {ce : Cell} {q : Addr} {mc ms : Nat} (hout : ∀ x ∈ c.exceptionTable.toList, covers x pc = false) (hlocks : meth.locks = false) (hcell : H[q]? = some ce) (hv : ce.vm = .none) (hcl : s.vm.findClass E = some ce.cls)
    (hx : ∀ t : State, t.heap = H → s.vm.Alike t.vm → XC E s t) (hf : ∀ z ∈ locs, free z.base) (hc : cells ≤ mc) (hs : slots ≤ ms) :
    vx_W p l e R s m args below meth c H locs cells slots (vx_MQ below Qc XC args s mc ms free) (F0 m pc ls rest) q := by
  intro T hT X
  obtain ⟨st1, hrun, hend, hW, hsm⟩ := X.leaveThrown q (g := F0 m pc ls rest) rfl rfl rfl hout hlocks
  have hcell9 : (T.setFrames (.throwing q :: below)).heap[q]? = some ce := by
    show T.heap[q]? = some ce
    rw [hT]; exact hcell
  exact ⟨_, st1, .threw q, hrun, hend, Or.inr ⟨q, rfl, E, ce, locs, hx _ hT hW.alike, hcell9, hv, hcl, hW, hsm.mono hc hs, hf⟩⟩
theorem vx_frame {U : State} {k n : Nat} (h : s.sameButNew ({ U with vm := s.vm } : State) locs k n) : s.heap.size ≤ U.heap.size ∧ ∀ q : Nat, q < s.heap.size → (∀ z ∈ locs, z.base ≠ q) → U.heap[q]? = s.heap[q]? := by
  obtain ⟨-, h2, -, -, -, h6⟩ := h
  refine ⟨h2, fun q hq hz => ?_⟩
  obtain ⟨c9, e1, e2, e3, e4⟩ := h6 q _ (Array.getElem?_eq_getElem hq)
  have hs : c9.slots = (s.heap[q]).slots := Array.ext_getElem? fun i => e4 i fun hm => hz _ hm rfl
  have h9 : c9 = s.heap[q] := by
    rw [hs] at e2
    exact e2
  have e5 : U.heap[q]? = some c9 := e1
  rw [e5, h9, Array.getElem?_eq_getElem hq]
/-- the words of a throw but the four that speak of the heap -/
def vx_no (w : Cond) : Bool := decide (w ≠ .isRef (.static Bundle.tN "UNASSIGNED_STACK" Bundle.steD)) && decide (w ≠ .isRef (.static Bundle.tN "SUPPRESSED_SENTINEL" Bundle.listD)) && decide (w ≠ .laysStatic Bundle.tN "UNASSIGNED_STACK" Bundle.steD) && decide (w ≠ .laysStatic Bundle.tN "SUPPRESSED_SENTINEL" Bundle.listD)
def vx_at0 (own : String) (ic : Nat) (X : String) (names : List String) : List Cond := (Bundle.ownAtoms0 own ic X names).filter vx_no
def vx_atS (own : String) (ic : Nat) (X : String) (names : List String) : List Cond := (Bundle.ownAtoms own ic X names).filter vx_no
/-- a word that the tables alone decide, or a good one -/
def vx_ot (w : Cond) : Bool := w.onTables || goodWord w
theorem vx_ot_at {args a' : Array Value} {s U : State} {w : Cond} (hW : s.WarmedH U.vm) (hvm : s.vm = U.vm) (hg : vx_ot w = true) (h : w.before args s = true) : w.before a' U = true := by
  simp only [vx_ot, Bool.or_eq_true] at hg
  rcases hg with hg | hg
  · exact va_tabs hg hvm h
  · exact word_at hW (good_of_word hg) h
/-- a list's words: the good ones out of the method's own list, the others by premises of their own -/
theorem vx_hat {args : Array Value} {s : State} {L B : List Cond} (h1 : ∀ w ∈ L.filter goodWord, w.before args s = true) (h2 : ∀ w ∈ L.filter (fun w => !goodWord w), w ∈ B) (h3 : ∀ w ∈ B, w.before args s = true) : ∀ w ∈ L, w.before args s = true := by
  intro w hw
  by_cases g : goodWord w = true
  · exact h1 w (List.mem_filter.mpr ⟨hw, g⟩)
  · refine h3 w (h2 w (List.mem_filter.mpr ⟨hw, ?_⟩))
    show (!goodWord w) = true
    cases hgw : goodWord w
    · rfl
    · exact absurd hgw g
theorem vx_c {args : Array Value} {s : State} {w : Cond} {B : List Cond} (h : w.before args s = true) (t : ∀ w ∈ B, w.before args s = true) : ∀ w' ∈ w :: B, w'.before args s = true := fun w' h' => (List.mem_cons.mp h').elim (fun e => by rw [e]; exact h) (t w')
theorem vx_n {args : Array Value} {s : State} : ∀ w ∈ ([] : List Cond), w.before args s = true := fun _ h => nomatch h
theorem vx_own {args : Array Value} {s : State} {L : List Cond} (h1 : ∀ w ∈ L.filter vx_no, w.before args s = true)
    (hU : (Cond.isRef (.static Bundle.tN "UNASSIGNED_STACK" Bundle.steD)).before args s = true) (hN : (Cond.isRef (.static Bundle.tN "SUPPRESSED_SENTINEL" Bundle.listD)).before args s = true)
    (lU : (Cond.laysStatic Bundle.tN "UNASSIGNED_STACK" Bundle.steD).before args s = true) (lN : (Cond.laysStatic Bundle.tN "SUPPRESSED_SENTINEL" Bundle.listD).before args s = true) : ∀ w ∈ L, w.before args s = true := by
  intro w hw
  by_cases e1 : w = .isRef (.static Bundle.tN "UNASSIGNED_STACK" Bundle.steD)
  · rw [e1]; exact hU
  · by_cases e2 : w = .isRef (.static Bundle.tN "SUPPRESSED_SENTINEL" Bundle.listD)
    · rw [e2]; exact hN
    · by_cases e3 : w = .laysStatic Bundle.tN "UNASSIGNED_STACK" Bundle.steD
      · rw [e3]; exact lU
      · by_cases e4 : w = .laysStatic Bundle.tN "SUPPRESSED_SENTINEL" Bundle.listD
        · rw [e4]; exact lN
        · exact h1 w (List.mem_filter.mpr ⟨hw, by unfold vx_no; rw [decide_eq_true e1, decide_eq_true e2, decide_eq_true e3, decide_eq_true e4]; rfl⟩)
/-- where a static field lies, its class's statics cell in H -/
def vx_L (C n d : String) (A : Nat → Prop) (U : State) (H : Heap) : Prop := ∃ (c : ClassId) (k : Class) (i : Nat) (f : Field) (a : Nat) (cell : Cell), U.vm.findClass C = some c ∧ U.fieldFound? C n d = some (c, k, i, f) ∧ f.isStatic = true ∧ k.statics = some a ∧ H[a]? = some cell ∧ cell.vm.isStatics = true ∧ cell.cls = c ∧ f.slot < cell.slots.size ∧ k.staticTypes[f.slot]? = some f.type ∧ ¬ A a
theorem vx_L.moved {C n d : String} {A : Nat → Prop} {u U : State} {H : Heap} (hvm : u.vm.Alike U.vm) (h : vx_L C n d A u H) : vx_L C n d A U H := by
  obtain ⟨c, k, i, f, a, cell, h1, h2, h3, h4, h5, h6, h7, h8, h9, h10⟩ := h
  obtain ⟨k', hi', he⟩ := State.fieldFound?_setVm hvm h2
  exact ⟨c, k', i, f, a, cell, by rw [hvm.findClass]; exact h1, hi', h3, by rw [he]; exact h4, h5, h6, h7, h8, by rw [he]; exact h9, h10⟩
theorem vx_L.kept {C n d : String} {A : Nat → Prop} {U : State} {H H1 : Heap} (h : vx_L C n d A U H) (hq : ∀ a : Nat, a < H.size → ¬ A a → H1[a]? = H[a]?) : vx_L C n d A U H1 := by
  obtain ⟨c, k, i, f, a, cell, h1, h2, h3, h4, h5, h6, h7, h8, h9, h10⟩ := h
  exact ⟨c, k, i, f, a, cell, h1, h2, h3, h4, by rw [hq a (Array.getElem?_eq_some_iff.mp h5).1 h10]; exact h5, h6, h7, h8, h9, h10⟩
theorem vx_L.narrow {C n d : String} {A B : Nat → Prop} {U : State} {H : Heap} (h : vx_L C n d A U H) (hAB : ∀ q, B q → A q) : vx_L C n d B U H := by
  obtain ⟨c, k, i, f, a, cell, h1, h2, h3, h4, h5, h6, h7, h8, h9, h10⟩ := h
  exact ⟨c, k, i, f, a, cell, h1, h2, h3, h4, h5, h6, h7, h8, h9, fun z => h10 (hAB _ z)⟩
theorem vx_L.word {C n d : String} {A : Nat → Prop} {s : State} {args : Array Value} (h : vx_L C n d A s s.heap) : (Cond.laysStatic C n d).before args s = true := by
  obtain ⟨c, k, i, f, a, cell, h1, h2, h3, h4, h5, h6, h7, h8, h9, -⟩ := h
  show (Cond.laysStatic C n d).holds args s none s [] = true
  exact Cond.laysStatic_of h1 h2 h3 h4 h5 h6 h7 h8 h9
/-- .. and what it holds: null or some reference -/
def vx_Zq (C n d : String) (A : Nat → Prop) (U : State) (H : Heap) : Prop := va_Zq C n d A U H ∧ vx_L C n d A U H
theorem vx_Zq.moved {C n d : String} {A : Nat → Prop} {u U : State} {H : Heap} (hvm : u.vm.Alike U.vm) (h : vx_Zq C n d A u H) : vx_Zq C n d A U H := ⟨va_Zq.moved hvm h.1, vx_L.moved hvm h.2⟩
theorem vx_Zq.kept {C n d : String} {A : Nat → Prop} {U : State} {H H1 : Heap} (h : vx_Zq C n d A U H) (hq : ∀ a : Nat, a < H.size → ¬ A a → H1[a]? = H[a]?) : vx_Zq C n d A U H1 := ⟨va_Zq.kept h.1 hq, vx_L.kept h.2 hq⟩
theorem vx_Zq.narrow {C n d : String} {A B : Nat → Prop} {U : State} {H : Heap} (h : vx_Zq C n d A U H) (hAB : ∀ q, B q → A q) : vx_Zq C n d B U H := ⟨va_Zq.narrow h.1 hAB, vx_L.narrow h.2 hAB⟩
theorem vx_Zqof {args : Array Value} {s : State} {C n d : String} {A : Nat → Prop} (hl : (Cond.laysStatic C n d).before args s = true) (hini : (Cond.initialized C).before args s = true) (h : (Cond.isRef (.static C n d)).before args s = true) (hA : ∀ a : Nat, a < s.heap.size → ¬ A a) : vx_Zq C n d A s s.heap := by
  refine ⟨va_Zqof hl hini h hA, ?_⟩
  obtain ⟨c, k, i, f, a, cell, h1, h2, h3, h4, h5, h6, h7, h8, h9⟩ := Cond.laysStatic_spec hl
  exact ⟨c, k, i, f, a, cell, h1, h2, h3, h4, h5, h6, h7, h8, h9, hA a (Array.getElem?_eq_some_iff.mp h5).1⟩
theorem vx_isRef {C n d : String} {v : Value} {A : Nat → Prop} {s : State} {args : Array Value} (h : va_Z C n d v A s s.heap) (hv : v.isRef = true) : (Cond.isRef (.static C n d)).before args s = true := by
  obtain ⟨cf, kf, fi, f, a, cell, h1, h2, h3, h4, h5, h6, h7, -⟩ := h
  have he : (Term.static C n d).eval args s none [] s = some v := by
    simp [Term.eval, State.fieldNamed?, h1, h2, h4, h5, h6, h7]
  simp only [Cond.before, Cond.holds, Cond.value, he]
  cases v <;> simp_all [Value.isRef]
theorem vx_isRefq {C n d : String} {A : Nat → Prop} {s : State} {args : Array Value} (h : va_Zq C n d A s s.heap) : (Cond.isRef (.static C n d)).before args s = true := by
  rcases h with h | ⟨t, h⟩
  · exact vx_isRef h rfl
  · exact vx_isRef h rfl
/-- the same frame, seen from here: as if the method were called anew in this heap -/
theorem vx_rebase {T : State} (X : Stand p l e R s m args below meth c T locs cells slots) {R' : Room} (hf : R'.frames ≤ R.frames) (hl : R'.locals ≤ R.locals) (hc : cells + R'.cells ≤ R.cells) (hs : slots + R'.slots ≤ R.slots) :
    Stand p l e R' ((T.setVm s.vm).setFrames (.invoking m args :: below)) m args below meth c T [] 0 0 := by
  have htop : (T.setVm s.vm).topJava?.isSome := X.here.top
  have hF : ((T.setVm s.vm).setFrames (.invoking m args :: below)).frames = .invoking m args :: below := State.frames_setFrames _ (State.cur_lt_of_top htop)
  obtain ⟨g₀, hg0⟩ := Option.isSome_iff_exists.mp htop
  obtain ⟨r, hr⟩ := State.topJava?_eq_some.mp hg0
  have hl9 : e.platform.stackLimits (T.setVm s.vm).me = e.platform.stackLimits s.me := X.limits
  have hb9 : (T.setVm s.vm).me.stackBytes = s.me.stackBytes := X.bytes
  refine ⟨X.admits, X.cas, X.clock, hF, ?_, X.hears, X.method, X.code, X.here, X.tail, X.warmed, ?_, ?_, ?_⟩
  · have h := X.room
    have hU : ((T.setVm s.vm).setFrames (.invoking m args :: below)).localsInUse = s.localsInUse := by
      rw [State.localsInUse_invoking hF (meth := meth) (c := c) X.method X.code, State.localsInUse_invoking X.frames X.method X.code]
    simp only [State.hasRoom, Bool.and_eq_true, decide_eq_true_eq] at h ⊢
    obtain ⟨⟨⟨⟨h1, h2, h3, h4, h5, h6⟩, h7⟩, h8⟩, h9⟩ := h
    rw [X.frames, List.length_cons] at h2 h3
    have q1 := X.heapSize
    have q2 := X.used
    simp only [hF, hU, List.length_cons, State.stackLimits_setFrames, State.stackBytes_setFrames, hl9, hb9]
    refine ⟨⟨⟨⟨by omega, by omega, by omega, by omega, by omega, h6⟩, ?_⟩, ?_⟩, X.book⟩
    · show T.heap.size + R'.cells ≤ e.platform.maxCells
      omega
    · show T.slotsUsed + R'.slots ≤ e.platform.maxSlots
      omega
  · rw [State.stackLimits_setFrames]; rfl
  · rw [State.stackBytes_setFrames]; rfl
  · refine ⟨?_, Nat.le_refl _, Nat.le_refl _, ?_, ?_, fun a c9 h9 => ⟨c9, h9, rfl, rfl, fun _ _ => rfl⟩⟩
    · obtain ⟨t, ht, -⟩ := State.frames_cons hr
      show T.setVm s.vm = { ((T.setVm s.vm).setFrames (.invoking m args :: below)).setFrames (T.setVm s.vm).frames with heap := T.heap, slotsUsed := T.slotsUsed }
      rw [State.setFrames_setFrames, State.setFrames_self ht]
      rfl
    · show T.slotsUsed = T.slotsUsed + ((T.heap.toList.drop T.heap.size).map (·.slots.size)).sum
      rw [List.drop_eq_nil_of_le (Nat.le_of_eq Array.length_toList)]
      rfl
    · show ((T.heap.toList.drop T.heap.size).map (·.slots.size)).sum ≤ 0
      rw [List.drop_eq_nil_of_le (Nat.le_of_eq Array.length_toList)]
      exact Nat.le_refl _
/-- 'throw new E()': new; dup; invokespecial; athrow -/
theorem vx_throw0 {cc : ByteArray} {pc : Nat} (hexec : p.tables.exec = Jvm.exec) (hb : c.code = cc) (hl : l.stackTraces = false) {own cls : String} {names : List String} {ik ic mc ms : Nat} {A : Nat → Prop}
    (hown : s.vm.findClass own = some m.cls) (hcls : Bundle.fit cls = true) (hnames : ∀ n ∈ names, Bundle.fit n = true)
    (hk : (Cond.classLink own ik cls).before args s = true) (hini : (Cond.initialized cls).before args s = true) (hat : ∀ w ∈ vx_at0 own ic cls names, w.before args s = true)
    (hgood : ∀ w ∈ Cond.classLink own ik cls :: Cond.initialized cls :: vx_at0 own ic cls names, vx_ot w = true)
    (hU : vx_Zq Bundle.tN "UNASSIGNED_STACK" Bundle.steD A s s.heap) (hN : vx_Zq Bundle.tN "SUPPRESSED_SENTINEL" Bundle.listD A s s.heap) (hS : va_S A s.heap H locs) (hsize : ls.size = c.maxLocals)
    (d0 : decode cc pc = .ok (.new ik, 3)) (d3 : decode cc (pc + 3) = .ok (.dup, 1)) (d4 : decode cc (pc + 4) = .ok (.invokespecial ic, 3)) (d7 : decode cc (pc + 7) = .ok (.athrow, 1))
    (hout : ∀ x ∈ c.exceptionTable.toList, covers x (pc + 7) = false)
    (hRframes : names.length + 3 < R.frames) (hRlocals : (rest.map fun v => v.category).sum + (13 * (names.length + 1) + 42) ≤ R.locals) (hRcells : cells + 1 ≤ R.cells) (hRslots : slots + 6 ≤ R.slots) (hlocks : meth.locks = false)
    (hx : ∀ t : State, s.vm.Alike t.vm → H.size ≤ t.heap.size → (∀ q : Nat, q < H.size → t.heap[q]? = H[q]?) → XC cls s t)
    (hf : ∀ z ∈ locs, free z.base) (hc : cells + 1 ≤ mc) (hs : slots + 6 ≤ ms) :
    W p l e R s m args below meth c H locs cells slots (vx_MQ below Qc XC args s mc ms free) (F0 m pc ls rest) := by
  intro T hT X
  have htr : e.platform.stackTraces = false := (show e.platform.stackTraces = l.stackTraces by rw [X.admits.platform]).trans hl
  have Y := vx_rebase X (R' := { frames := R.frames, locals := R.locals, cells := 1, slots := 6 }) (Nat.le_refl _) (Nat.le_refl _) hRcells hRslots
  obtain ⟨s', hA⟩ : ∃ z, z = (T.setVm s.vm).setFrames (.invoking m args :: below) := ⟨_, rfl⟩
  rw [← hA] at Y
  have hvm : s'.vm = s.vm := by rw [hA]; rfl
  have hhp : s'.heap = H := by rw [hA]; exact hT
  have hW0 : s.WarmedH s'.vm := by rw [hvm]; exact State.WarmedH.refl s
  have hat' : ∀ w ∈ vx_at0 own ic cls names, w.before args s' = true := fun w hw => vx_ot_at hW0 hvm.symm (hgood w (List.mem_cons_of_mem _ (List.mem_cons_of_mem _ hw))) (hat w hw)
  have hk' : (Cond.classLink own ik cls).before args s' = true := vx_ot_at hW0 hvm.symm (hgood _ List.mem_cons_self) hk
  have hini' : (Cond.initialized cls).before args s' = true := vx_ot_at hW0 hvm.symm (hgood _ (List.mem_cons_of_mem _ List.mem_cons_self)) hini
  have hU' : vx_Zq Bundle.tN "UNASSIGNED_STACK" Bundle.steD A s' s'.heap := by rw [hhp]; exact vx_Zq.moved hW0.alike (hU.kept hS.2.1)
  have hN' : vx_Zq Bundle.tN "SUPPRESSED_SENTINEL" Bundle.listD A s' s'.heap := by rw [hhp]; exact vx_Zq.moved hW0.alike (hN.kept hS.2.1)
  have h : ∀ w ∈ Bundle.ownAtoms0 own ic cls names, w.before args s' = true := vx_own hat' (vx_isRefq hU'.1) (vx_isRefq hN'.1) hU'.2.word hN'.2.word
  have hown' : s'.vm.findClass own = some m.cls := by rw [hvm]; exact hown
  have hins : (Cond.instantiable cls 6).before args s' = true := h _ (by simp [Bundle.ownAtoms0])
  obtain ⟨vm₁, cX, kX, hfX, hkX, -, -, X₁, st1⟩ := Y.newCold hexec (own := own) (C := cls) (index := ik) (n := 6) hown' hk' hins hini'
    (g := F0 m pc ls rest) rfl (by rw [hb]; exact d0) (Nat.le_refl _) (Nat.le_refl _)
  generalize hT1 : (T.setVm vm₁).pushCell { cls := cX, slots := kX.instanceTypes.map defaultValue, vm := .none } = T1 at X₁ st1
  have hcat : (Value.ref T.heap.size).category = 1 := rfl
  have hcellA : T1.heap[T.heap.size]? = some (freshCell cX kX) := by rw [← hT1]; exact State.heap_pushCell_size _ _
  have d3' : decode c.code (pc + 3) = .ok (.dup, 1) := by rw [hb]; exact d3
  obtain ⟨U, hsteps, hrun, hend, hW, hsame, ce, hce, hO⟩ := X₁.ctorThrow0 hexec htr (own := own) (cls := cls) (names := names) (ic := ic) hown' hcls hnames h (fun x hx => nomatch hx) hfX hkX hcellA (by rw [hhp, hT]; exact Nat.le_refl _)
    (g := { method := m, pc := pc + 4, locals := ls, stack := .ref T.heap.size :: .ref T.heap.size :: rest, locked := none }) rfl hsize rfl rfl (rest := rest) rfl
    (by rw [hb]; exact d4) (by rw [hb]; exact d7) hout hRframes (by simp only [List.map_cons, List.sum_cons, hcat]; omega) hlocks
  obtain ⟨f1, f2⟩ := vx_frame hsame
  rw [hhp] at f1 f2
  have hWs : s.WarmedH U.vm := State.WarmedH.trans hW0 hW
  have hcl : s.vm.findClass cls = some ce.cls := by
    have h9 := hO.cls
    rw [hvm] at h9
    exact h9
  have hall : s.sameButNew ({ U with vm := s.vm } : State) locs mc ms := by
    subst hA
    obtain ⟨e1, e2⟩ := hsame
    rw [State.setFrames_setFrames] at e1
    have h2 : (T.setVm s.vm).sameButNew ({ U with vm := s.vm } : State) [] (0 + 1) (0 + 6) := ⟨e1, e2⟩
    have h3 := X.same.trans h2
    rw [List.append_nil] at h3
    exact h3.mono hc hs
  refine ⟨U, ?_, .threw T.heap.size, hrun, hend, Or.inr ⟨T.heap.size, rfl, cls, ce, locs, hx U hWs.alike f1 (fun q hq => f2 q hq (fun z hz => nomatch hz)), hce, hO.vm, hcl, hWs, hall, hf⟩⟩
  refine st1 _ ?_
  show Steps p.tables e below (T1.setTop { method := m, pc := pc + 3, locals := ls, stack := .ref T.heap.size :: rest, locked := none }) _
  jvm_step X₁.here [X₁.here.top, hexec, d3', Value.category]
  exact hsteps
/-- 'throw new E("text")': new; dup; ldc; invokespecial; athrow -/
theorem vx_throwS {cc : ByteArray} {pc : Nat} (hexec : p.tables.exec = Jvm.exec) (hb : c.code = cc) (hl : l.stackTraces = false) {own cls text : String} {names : List String} {ik is ic mc ms sa : Nat} {A : Nat → Prop}
    (hown : s.vm.findClass own = some m.cls) (hcls : Bundle.fit cls = true) (hnames : ∀ n ∈ names, Bundle.fit n = true)
    (hk : (Cond.classLink own ik cls).before args s = true) (hini : (Cond.initialized cls).before args s = true) (hstr : vk_R own is text sa s) (hat : ∀ w ∈ vx_atS own ic cls names, w.before args s = true)
    (hgood : ∀ w ∈ Cond.classLink own ik cls :: Cond.initialized cls :: vx_atS own ic cls names, vx_ot w = true)
    (hU : vx_Zq Bundle.tN "UNASSIGNED_STACK" Bundle.steD A s s.heap) (hN : vx_Zq Bundle.tN "SUPPRESSED_SENTINEL" Bundle.listD A s s.heap) (hS : va_S A s.heap H locs) (hsize : ls.size = c.maxLocals)
    (d0 : decode cc pc = .ok (.new ik, 3)) (d3 : decode cc (pc + 3) = .ok (.dup, 1)) (d4 : decode cc (pc + 4) = .ok (.ldc is, 2)) (d6 : decode cc (pc + 6) = .ok (.invokespecial ic, 3)) (d9 : decode cc (pc + 9) = .ok (.athrow, 1))
    (hout : ∀ x ∈ c.exceptionTable.toList, covers x (pc + 9) = false)
    (hRframes : names.length + 3 < R.frames) (hRlocals : (rest.map fun v => v.category).sum + (13 * (names.length + 1) + 43) ≤ R.locals) (hRcells : cells + 1 ≤ R.cells) (hRslots : slots + 6 ≤ R.slots) (hlocks : meth.locks = false)
    (hx : ∀ t : State, s.vm.Alike t.vm → H.size ≤ t.heap.size → (∀ q : Nat, q < H.size → t.heap[q]? = H[q]?) → XC cls s t)
    (hf : ∀ z ∈ locs, free z.base) (hc : cells + 1 ≤ mc) (hs : slots + 6 ≤ ms) :
    W p l e R s m args below meth c H locs cells slots (vx_MQ below Qc XC args s mc ms free) (F0 m pc ls rest) := by
  intro T hT X
  have htr : e.platform.stackTraces = false := (show e.platform.stackTraces = l.stackTraces by rw [X.admits.platform]).trans hl
  have Y := vx_rebase X (R' := { frames := R.frames, locals := R.locals, cells := 1, slots := 6 }) (Nat.le_refl _) (Nat.le_refl _) hRcells hRslots
  obtain ⟨s', hA⟩ : ∃ z, z = (T.setVm s.vm).setFrames (.invoking m args :: below) := ⟨_, rfl⟩
  rw [← hA] at Y
  have hvm : s'.vm = s.vm := by rw [hA]; rfl
  have hhp : s'.heap = H := by rw [hA]; exact hT
  have hW0 : s.WarmedH s'.vm := by rw [hvm]; exact State.WarmedH.refl s
  have hat' : ∀ w ∈ vx_atS own ic cls names, w.before args s' = true := fun w hw => vx_ot_at hW0 hvm.symm (hgood w (List.mem_cons_of_mem _ (List.mem_cons_of_mem _ hw))) (hat w hw)
  have hk' : (Cond.classLink own ik cls).before args s' = true := vx_ot_at hW0 hvm.symm (hgood _ List.mem_cons_self) hk
  have hini' : (Cond.initialized cls).before args s' = true := vx_ot_at hW0 hvm.symm (hgood _ (List.mem_cons_of_mem _ List.mem_cons_self)) hini
  have hU' : vx_Zq Bundle.tN "UNASSIGNED_STACK" Bundle.steD A s' s'.heap := by rw [hhp]; exact vx_Zq.moved hW0.alike (hU.kept hS.2.1)
  have hN' : vx_Zq Bundle.tN "SUPPRESSED_SENTINEL" Bundle.listD A s' s'.heap := by rw [hhp]; exact vx_Zq.moved hW0.alike (hN.kept hS.2.1)
  have h : ∀ w ∈ Bundle.ownAtoms own ic cls names, w.before args s' = true := vx_own hat' (vx_isRefq hU'.1) (vx_isRefq hN'.1) hU'.2.word hN'.2.word
  have hown' : s'.vm.findClass own = some m.cls := by rw [hvm]; exact hown
  have hins : (Cond.instantiable cls 6).before args s' = true := h _ (by simp [Bundle.ownAtoms])
  obtain ⟨vm₁, cX, kX, hfX, hkX, -, -, X₁, st1⟩ := Y.newCold hexec (own := own) (C := cls) (index := ik) (n := 6) hown' hk' hins hini'
    (g := F0 m pc ls rest) rfl (by rw [hb]; exact d0) (Nat.le_refl _) (Nat.le_refl _)
  generalize hT1 : (T.setVm vm₁).pushCell { cls := cX, slots := kX.instanceTypes.map defaultValue, vm := .none } = T1 at X₁ st1
  have hcat : (Value.ref T.heap.size).category = 1 := rfl
  have hcellA : T1.heap[T.heap.size]? = some (freshCell cX kX) := by rw [← hT1]; exact State.heap_pushCell_size _ _
  have d3' : decode c.code (pc + 3) = .ok (.dup, 1) := by rw [hb]; exact d3
  have d4' : decode c.code (pc + 4) = .ok (.ldc is, 2) := by rw [hb]; exact d4
  have hstr' : vk_R own is text sa s' := vk_R.warm hW0 hstr
  obtain ⟨U, hsteps, hrun, hend, hW, hsame, ce, hce, hO⟩ := X₁.ctorThrowS hexec htr (own := own) (cls := cls) (names := names) (ic := ic) hown' hcls hnames h (fun x hx => nomatch hx) hfX hkX hcellA (by rw [hhp, hT]; exact Nat.le_refl _) (msg := .ref sa) rfl
    (g := { method := m, pc := pc + 6, locals := ls, stack := .ref sa :: .ref T.heap.size :: .ref T.heap.size :: rest, locked := none }) rfl hsize rfl rfl (rest := rest) rfl
    (by rw [hb]; exact d6) (by rw [hb]; exact d9) hout hRframes (by simp only [List.map_cons, List.sum_cons, hcat]; omega) hlocks
  obtain ⟨f1, f2⟩ := vx_frame hsame
  rw [hhp] at f1 f2
  have hWs : s.WarmedH U.vm := State.WarmedH.trans hW0 hW
  have hcl : s.vm.findClass cls = some ce.cls := by
    have h9 := hO.cls
    rw [hvm] at h9
    exact h9
  have hall : s.sameButNew ({ U with vm := s.vm } : State) locs mc ms := by
    subst hA
    obtain ⟨e1, e2⟩ := hsame
    rw [State.setFrames_setFrames] at e1
    have h2 : (T.setVm s.vm).sameButNew ({ U with vm := s.vm } : State) [] (0 + 1) (0 + 6) := ⟨e1, e2⟩
    have h3 := X.same.trans h2
    rw [List.append_nil] at h3
    exact h3.mono hc hs
  refine ⟨U, ?_, .threw T.heap.size, hrun, hend, Or.inr ⟨T.heap.size, rfl, cls, ce, locs, hx U hWs.alike f1 (fun q hq => f2 q hq (fun z hz => nomatch hz)), hce, hO.vm, hcl, hWs, hall, hf⟩⟩
  refine st1 _ ?_
  show Steps p.tables e below (T1.setTop { method := m, pc := pc + 3, locals := ls, stack := .ref T.heap.size :: rest, locked := none }) _
  jvm_step X₁.here [X₁.here.top, hexec, d3', Value.category]
  exact X₁.ldcString hexec (own := own) (text := text) (index := is) (a := sa) hown' hstr'.1 hstr'.2
    (g := { method := m, pc := pc + 4, locals := ls, stack := .ref T.heap.size :: .ref T.heap.size :: rest, locked := none }) rfl d4' _ hsteps
/-- 'throw new E("text")', the text by a wide index -/
theorem vx_throwSW {cc : ByteArray} {pc : Nat} (hexec : p.tables.exec = Jvm.exec) (hb : c.code = cc) (hl : l.stackTraces = false) {own cls text : String} {names : List String} {ik is ic mc ms sa : Nat} {A : Nat → Prop}
    (hown : s.vm.findClass own = some m.cls) (hcls : Bundle.fit cls = true) (hnames : ∀ n ∈ names, Bundle.fit n = true)
    (hk : (Cond.classLink own ik cls).before args s = true) (hini : (Cond.initialized cls).before args s = true) (hstr : vk_R own is text sa s) (hat : ∀ w ∈ vx_atS own ic cls names, w.before args s = true)
    (hgood : ∀ w ∈ Cond.classLink own ik cls :: Cond.initialized cls :: vx_atS own ic cls names, vx_ot w = true)
    (hU : vx_Zq Bundle.tN "UNASSIGNED_STACK" Bundle.steD A s s.heap) (hN : vx_Zq Bundle.tN "SUPPRESSED_SENTINEL" Bundle.listD A s s.heap) (hS : va_S A s.heap H locs) (hsize : ls.size = c.maxLocals)
    (d0 : decode cc pc = .ok (.new ik, 3)) (d3 : decode cc (pc + 3) = .ok (.dup, 1)) (d4 : decode cc (pc + 4) = .ok (.ldc_w is, 3)) (d7 : decode cc (pc + 7) = .ok (.invokespecial ic, 3)) (d10 : decode cc (pc + 10) = .ok (.athrow, 1))
    (hout : ∀ x ∈ c.exceptionTable.toList, covers x (pc + 10) = false)
    (hRframes : names.length + 3 < R.frames) (hRlocals : (rest.map fun v => v.category).sum + (13 * (names.length + 1) + 43) ≤ R.locals) (hRcells : cells + 1 ≤ R.cells) (hRslots : slots + 6 ≤ R.slots) (hlocks : meth.locks = false)
    (hx : ∀ t : State, s.vm.Alike t.vm → H.size ≤ t.heap.size → (∀ q : Nat, q < H.size → t.heap[q]? = H[q]?) → XC cls s t)
    (hf : ∀ z ∈ locs, free z.base) (hc : cells + 1 ≤ mc) (hs : slots + 6 ≤ ms) :
    W p l e R s m args below meth c H locs cells slots (vx_MQ below Qc XC args s mc ms free) (F0 m pc ls rest) := by
  intro T hT X
  have htr : e.platform.stackTraces = false := (show e.platform.stackTraces = l.stackTraces by rw [X.admits.platform]).trans hl
  have Y := vx_rebase X (R' := { frames := R.frames, locals := R.locals, cells := 1, slots := 6 }) (Nat.le_refl _) (Nat.le_refl _) hRcells hRslots
  obtain ⟨s', hA⟩ : ∃ z, z = (T.setVm s.vm).setFrames (.invoking m args :: below) := ⟨_, rfl⟩
  rw [← hA] at Y
  have hvm : s'.vm = s.vm := by rw [hA]; rfl
  have hhp : s'.heap = H := by rw [hA]; exact hT
  have hW0 : s.WarmedH s'.vm := by rw [hvm]; exact State.WarmedH.refl s
  have hat' : ∀ w ∈ vx_atS own ic cls names, w.before args s' = true := fun w hw => vx_ot_at hW0 hvm.symm (hgood w (List.mem_cons_of_mem _ (List.mem_cons_of_mem _ hw))) (hat w hw)
  have hk' : (Cond.classLink own ik cls).before args s' = true := vx_ot_at hW0 hvm.symm (hgood _ List.mem_cons_self) hk
  have hini' : (Cond.initialized cls).before args s' = true := vx_ot_at hW0 hvm.symm (hgood _ (List.mem_cons_of_mem _ List.mem_cons_self)) hini
  have hU' : vx_Zq Bundle.tN "UNASSIGNED_STACK" Bundle.steD A s' s'.heap := by rw [hhp]; exact vx_Zq.moved hW0.alike (hU.kept hS.2.1)
  have hN' : vx_Zq Bundle.tN "SUPPRESSED_SENTINEL" Bundle.listD A s' s'.heap := by rw [hhp]; exact vx_Zq.moved hW0.alike (hN.kept hS.2.1)
  have h : ∀ w ∈ Bundle.ownAtoms own ic cls names, w.before args s' = true := vx_own hat' (vx_isRefq hU'.1) (vx_isRefq hN'.1) hU'.2.word hN'.2.word
  have hown' : s'.vm.findClass own = some m.cls := by rw [hvm]; exact hown
  have hins : (Cond.instantiable cls 6).before args s' = true := h _ (by simp [Bundle.ownAtoms])
  obtain ⟨vm₁, cX, kX, hfX, hkX, -, -, X₁, st1⟩ := Y.newCold hexec (own := own) (C := cls) (index := ik) (n := 6) hown' hk' hins hini'
    (g := F0 m pc ls rest) rfl (by rw [hb]; exact d0) (Nat.le_refl _) (Nat.le_refl _)
  generalize hT1 : (T.setVm vm₁).pushCell { cls := cX, slots := kX.instanceTypes.map defaultValue, vm := .none } = T1 at X₁ st1
  have hcat : (Value.ref T.heap.size).category = 1 := rfl
  have hcellA : T1.heap[T.heap.size]? = some (freshCell cX kX) := by rw [← hT1]; exact State.heap_pushCell_size _ _
  have d3' : decode c.code (pc + 3) = .ok (.dup, 1) := by rw [hb]; exact d3
  have d4' : decode c.code (pc + 4) = .ok (.ldc_w is, 3) := by rw [hb]; exact d4
  have hstr' : vk_R own is text sa s' := vk_R.warm hW0 hstr
  obtain ⟨U, hsteps, hrun, hend, hW, hsame, ce, hce, hO⟩ := X₁.ctorThrowS hexec htr (own := own) (cls := cls) (names := names) (ic := ic) hown' hcls hnames h (fun x hx => nomatch hx) hfX hkX hcellA (by rw [hhp, hT]; exact Nat.le_refl _) (msg := .ref sa) rfl
    (g := { method := m, pc := pc + 7, locals := ls, stack := .ref sa :: .ref T.heap.size :: .ref T.heap.size :: rest, locked := none }) rfl hsize rfl rfl (rest := rest) rfl
    (by rw [hb]; exact d7) (by rw [hb]; exact d10) hout hRframes (by simp only [List.map_cons, List.sum_cons, hcat]; omega) hlocks
  obtain ⟨f1, f2⟩ := vx_frame hsame
  rw [hhp] at f1 f2
  have hWs : s.WarmedH U.vm := State.WarmedH.trans hW0 hW
  have hcl : s.vm.findClass cls = some ce.cls := by
    have h9 := hO.cls
    rw [hvm] at h9
    exact h9
  have hall : s.sameButNew ({ U with vm := s.vm } : State) locs mc ms := by
    subst hA
    obtain ⟨e1, e2⟩ := hsame
    rw [State.setFrames_setFrames] at e1
    have h2 : (T.setVm s.vm).sameButNew ({ U with vm := s.vm } : State) [] (0 + 1) (0 + 6) := ⟨e1, e2⟩
    have h3 := X.same.trans h2
    rw [List.append_nil] at h3
    exact h3.mono hc hs
  refine ⟨U, ?_, .threw T.heap.size, hrun, hend, Or.inr ⟨T.heap.size, rfl, cls, ce, locs, hx U hWs.alike f1 (fun q hq => f2 q hq (fun z hz => nomatch hz)), hce, hO.vm, hcl, hWs, hall, hf⟩⟩
  refine st1 _ ?_
  show Steps p.tables e below (T1.setTop { method := m, pc := pc + 3, locals := ls, stack := .ref T.heap.size :: rest, locked := none }) _
  jvm_step X₁.here [X₁.here.top, hexec, d3', Value.category]
  exact X₁.ldcStringW hexec (own := own) (text := text) (index := is) (a := sa) hown' hstr'.1 hstr'.2
    (g := { method := m, pc := pc + 4, locals := ls, stack := .ref T.heap.size :: .ref T.heap.size :: rest, locked := none }) rfl d4' _ hsteps
end Ends
section Bodies
variable {l : Launch}
theorem vx_ofW {y : MethodName} {ws ws' : List Cond} {rm : Room} {Pc : Array Value → State → Prop} {Qc : Array Value → State → Outcome → State → Prop} {XC : String → State → State → Prop} {mc ms : Nat} {free : Addr → Prop} {cc : ByteArray} {maxL : Nat} {ret : Option FieldType}
    (hy : plainName y.cls = true) (hw : ws = Cond.code y cc maxL ret :: ws')
    (body : ∀ p e s m args below meth c s₁, BodyLoose p l y (headSpec ws rm) cc maxL ret e s m args below meth c s₁ → c.maxLocals = maxL → (∀ x ∈ c.exceptionTable.toList, False) → Pc args s →
      W p l e (headSpec ws rm).room s m args below meth c s.heap [] 0 0 (vx_MQ below Qc XC args s mc ms free) (entryFrame m args maxL)) : vx_Met l y ws rm Pc Qc XC mc ms free := by
  refine MetFree.of_bodyS (code := cc) (maxLocals := maxL) (ret := ret) hy ?_ ?_
  · intro args s m h hn
    obtain ⟨meth, c, h1, h2, h3, h4, h5, h6, -, -⟩ := Cond.code_spec hn (atoms_spec (ws := ws) h _ (by rw [hw]; exact List.mem_cons_self))
    exact ⟨meth, c, h1, h2, h3, h4, h5, h6⟩
  · intro p e s m args below meth c s₁ B hml hP _
    have hh0 : s₁.heap = s.heap := by rw [B.state]; rfl
    have ht : ∀ x ∈ c.exceptionTable.toList, False := by
      obtain ⟨meth9, c9, h1, h2, -, -, -, -, h7, -⟩ := Cond.code_spec B.named (atoms_spec (ws := ws) B.pre _ (by rw [hw]; exact List.mem_cons_self))
      cases Option.some.inj (h1.symm.trans B.method)
      cases Option.some.inj (h2.symm.trans (Stand.of_body B).code)
      intro x hx
      rw [Array.isEmpty_iff.mp h7] at hx
      cases hx
    obtain ⟨t, a1, o, b1, b2, b3⟩ := body p e s m args below meth c s₁ B hml ht hP s₁ hh0 (Stand.of_body B)
    exact ⟨t, o, a1, b1, b2, b3⟩
/-- the table of a body with handlers -/
theorem vx_table {p : Program} {x y : MethodName} {S : Spec} {cc bytes : ByteArray} {maxL maxL' : Nat} {ret ret' : Option FieldType} {e : Env} {s s₁ : State} {m : MethodId} {args : Array Value} {below : List Frame} {meth : Method} {c : Code} {hh : List (Nat × Nat × Nat × Nat)}
    (B : BodyLoose p l y S cc maxL ret e s m args below meth c s₁) (h : (Cond.codeWith y bytes maxL' ret' hh).before args s = true) : c.exceptionTable.toList = tableOf hh := by
  obtain ⟨m9, meth9, c9, hn9, h1, h2, -, -, h6, -⟩ := Cond.codeWith_spec h
  cases Option.some.inj (hn9.symm.trans B.named)
  cases Option.some.inj (h1.symm.trans B.method)
  cases Option.some.inj (h2.symm.trans (Stand.of_body B).code)
  rw [← h6, table_eq]
end Bodies
end VXA
/-! ===== END ===== -/
/-! ===== BEGIN a static call of a method with an exception table ===== -/
section VXS
variable {p : Program} {l : Launch} {e : Env} {R : Room} {s : State} {m : MethodId} {args : Array Value} {below : List Frame} {meth : Method} {c : Code} {T : State} {H : Heap} {locs : List Loc} {cells slots : Nat}
abbrev vx_CSW (R : Room) (s : State) (args : Array Value) (own : String) (index : Nat) (y : MethodName) (bytes : ByteArray) (maxL : Nat) (ret : Option FieldType) (hh : List (Nat × Nat × Nat × Nat)) (ws : List Cond) (rm : Room) (mc ms n : Nat) : Prop :=
  (rm.cells = mc ∧ rm.slots = ms ∧ rm.frames + 1 ≤ R.frames ∧ 8 + (maxL + 11) + rm.locals ≤ R.locals ∧ (∀ w ∈ ws, ∀ (a' : Array Value) (U : State), s.WarmedH U.vm → w.before a' U = true) ∧ Cond.codeWith y bytes maxL ret hh ∈ ws) ∧
  (Cond.codeWith y bytes maxL ret hh).before args s = true ∧ (Cond.initialized y.cls).before args s = true ∧ (y.cls ≠ "java/lang/invoke/MethodHandle" ∧ y.cls ≠ "java/lang/invoke/VarHandle") ∧
  (∀ sig, parseMethodDescriptor y.desc = some sig → n = sig.parameters.length) ∧ (Cond.methodLink own index y).before args s = true ∧ (Cond.static y).before args s = true
theorem vx_cwSW {own : String} {index maxL mc ms : Nat} {y : MethodName} {bytes : ByteArray} {ret : Option FieldType} {hh : List (Nat × Nat × Nat × Nat)} {Ts ws ws' : List Cond} {rm : Room} (n : Nat) (ht : ∀ w ∈ Ts, w.before args s = true) (hT : GoodIn Ts (va_wsS own index y ws)) (hw : ws = Cond.codeWith y bytes maxL ret hh :: ws') (hrc : rm.cells = mc) (hrs : rm.slots = ms)
    (hd : y.cls ≠ "java/lang/invoke/MethodHandle" ∧ y.cls ≠ "java/lang/invoke/VarHandle" ∧ (parseMethodDescriptor y.desc).map (fun d => d.parameters.length) = some n) (hR : rm.frames + 1 ≤ R.frames ∧ 8 + (maxL + 11) + rm.locals ≤ R.locals) :
    vx_CSW R s args own index y bytes maxL ret hh ws rm mc ms n := by
  have ok : ∀ w ∈ va_wsS own index y ws, w.before args s = true := fun w h => ht w (hT w h).1
  have hG : GoodIn Ts ws := fun w h => hT w (by unfold va_wsS; exact List.mem_append_right _ h)
  have hc : Cond.codeWith y bytes maxL ret hh ∈ ws := by rw [hw]; exact List.mem_cons_self
  refine ⟨⟨hrc, hrs, hR.1, hR.2, pay_in ht hG, hc⟩, ht _ (hG _ hc).1, ok _ (by simp [va_wsS]), ⟨hd.1, hd.2.1⟩, fun sig h => ?_, ok _ (by simp [va_wsS]), ok _ (by simp [va_wsS])⟩
  have h2 := hd.2.2
  rw [h] at h2
  exact (Option.some.inj h2).symm
theorem vx_callSW (X : Stand p l e R s m args below meth c T locs cells slots) (hexec : p.tables.exec = Jvm.exec) {own : String} {index : Nat} {y : MethodName} {bytes : ByteArray} {maxL : Nat} {ret : Option FieldType} {hh : List (Nat × Nat × Nat × Nat)}
    (hown : s.vm.findClass own = some m.cls) (hlink : (Cond.methodLink own index y).before args s = true) (hstat : (Cond.static y).before args s = true) (hinit : (Cond.initialized y.cls).before args s = true)
    (hcode : (Cond.codeWith y bytes maxL ret hh).before args s = true) (hy : y.cls ≠ "java/lang/invoke/MethodHandle" ∧ y.cls ≠ "java/lang/invoke/VarHandle")
    {W9 : Nat} {Pre : Pt → Array Value → Prop} {Post : Pt → Array Value → Option Value → Pt → Prop} (hK : Back l R p e below s args y 3 W9 Pre Post)
    {g : JFrame} (hg : g.method = m) (hsize : g.locals.size = c.maxLocals) {argsL rest : List Value} (hlen : ∀ sig, parseMethodDescriptor y.desc = some sig → argsL.length = sig.parameters.length)
    (hstack : g.stack = argsL.reverse ++ rest) (hW : 2 * g.monitorRoom + (rest.map fun v => v.category).sum ≤ W9) (hdg : decode c.code g.pc = .ok (.invokestatic index, 3))
    (hpre : ∀ vm₁, s.WarmedH vm₁ → Pre ⟨T.setVm vm₁, locs, cells, slots⟩ argsL.toArray) :
    ∃ (v : Option Value) (vm₁ : Vm) (B : Pt), s.WarmedH vm₁ ∧ Stand p l e R s m args below meth c B.U B.locs B.cells B.slots ∧ Post ⟨T.setVm vm₁, locs, cells, slots⟩ argsL.toArray v B ∧
      ∀ target, Steps p.tables e below (B.U.setTop { g with pc := g.pc + 3, stack := v.toList ++ rest }) target → Steps p.tables e below (T.setTop g) target := by
  obtain ⟨mk, methM, cM, hnamed, hmethM, -, -, -, -, -, -, hsigM⟩ := Cond.codeWith_spec hcode
  have hstatic : methM.isStatic = true := Cond.static_spec hnamed hmethM hstat
  obtain ⟨kP, hkP, -⟩ := className_of_methodNamed hnamed
  have hinitP : kP.init = .initialized := Cond.initialized_spec (findClass_of_methodNamed hnamed) hkP hinit
  obtain ⟨vm₁, X₁, hstep₁⟩ := X.invokestatic hexec hown hlink hnamed hmethM hstatic hkP hinitP hy (g := g) hg (argsL := argsL) (rest := rest) (hlen _ hsigM) hstack hdg
  obtain ⟨v, B, X', hpost, hsteps⟩ := hK m meth c ⟨T.setVm vm₁, locs, cells, slots⟩ { g with stack := rest } (.invokestatic index) mk argsL.toArray X₁ hg hsize hdg hW (X₁.named hnamed) (hpre vm₁ X₁.warmed)
  exact ⟨v, vm₁, B, X₁.warmed, X', hpost, fun target h => hstep₁ _ fun acts => by rw [doInvoke_state]; exact hsteps.trans h⟩
theorem vx_runSW {y : MethodName} {bytes cc : ByteArray} {maxL nL mc ms n index : Nat} {ret : Option FieldType} {hh : List (Nat × Nat × Nat × Nat)} {ws : List Cond} {rm : Room} {Pc : Array Value → State → Prop} {Qc : Array Value → State → Outcome → State → Prop} {free : Addr → Prop} {Ts : List Cond} {own : String} {As rest : List Value} {g : JFrame}
    (S : CallFix p m c cc nL s args Ts own) (hM : Met l y ws rm Pc Qc mc ms free) (cw : vx_CSW R s args own index y bytes maxL ret hh ws rm mc ms n) (hp : PreS s H Pc As)
    (hg : g.method = m) (hn : As.length = n) (hsize : g.locals.size = nL) (hstack : g.stack = As.reverse ++ rest) (hW : 2 * g.monitorRoom + (rest.map fun v => v.category).sum ≤ 8) (hdg : decode cc g.pc = .ok (.invokestatic index, 3)) (hf : cells + mc ≤ R.cells ∧ slots + ms ≤ R.slots) :
    va_Run p l e R s m args below meth c H locs cells slots mc ms g rest (Qc As.toArray) (free) := by
  obtain ⟨⟨hrc, hrs, hfr, hlo, hws, hcw⟩, hcode, hini, hy, hlen, hl, hstt⟩ := cw
  have hK : Back l R p e below s args y 3 8 (PreOf R mc ms Pc) (PostOf Qc mc ms free) := va_backW (hh := hh) (bytes := bytes) (maxL := maxL) (ret := ret) hM hp.1 hrc hrs hfr hlo hws hcw (fun a' U hW => word_at hW (Or.inl (by first | rfl | simp [Cond.onTables, Cond.keeps, Cond.steady])) hini)
  obtain ⟨hx, hb, hml, ho, -⟩ := S
  intro T hT X
  obtain ⟨v, vm₁, ⟨U', l2, c2, s2⟩, hW₁, X', ⟨g', mk, t, L, e1, e2, hq, h1, hL, h2, h3⟩, st⟩ := vx_callSW X hx (hh := hh) (bytes := bytes) (maxL := maxL) (ret := ret) ho hl hstt hini hcode hy hK hg (hsize.trans hml.symm) (argsL := As) (rest := rest) (fun sig h => hn.trans (hlen sig h)) hstack hW (by rw [hb]; exact hdg)
    (fun vm₁ hW₁ => ⟨hf.1, hf.2, hp.2 (T.setVm vm₁) hT hW₁⟩)
  dsimp only [Pt.U, Pt.locs, Pt.cells, Pt.slots] at X' e1 e2 h1 h2 h3 st
  subst h1; subst h2; subst h3
  exact ⟨v, (T.setVm vm₁).calling g' mk As.toArray, t, U', L, hT, X', hL, e1, e2, hq, st⟩
/-- not caught here, past rows that name other classes: it goes on to the caller -/
theorem vx_outP {p : Program} {l : Launch} {e : Env} {R : Room} {s : State} {m : MethodId} {args : Array Value} {below : List Frame} {meth : Method} {c : Code} {H : Heap} {locs : List Loc} {cells slots : Nat} {free : Addr → Prop} {ls : Array Slot} {rest : List Value} {Qc : Array Value → State → Outcome → State → Prop} {XC : String → State → State → Prop}
    {pc : Nat} {own E : String} {ce : Cell} {q : Addr} {mc ms : Nat} (hown : s.vm.findClass own = some m.cls) (hlocks : meth.locks = false)
    (hpass : ∀ z ∈ c.exceptionTable.toList, covers z pc = false ∨ (z.catchType ≠ 0 ∧ ∃ nm : String, (Cond.classLink own z.catchType nm).before args s = true ∧ va_Nc E nm s)) (hcell : H[q]? = some ce) (hv : ce.vm = .none) (hcl : s.vm.findClass E = some ce.cls)
    (hx : ∀ t : State, t.heap = H → s.vm.Alike t.vm → XC E s t) (hf : ∀ z ∈ locs, free z.base) (hc : cells ≤ mc) (hs : slots ≤ ms) :
    vx_W p l e R s m args below meth c H locs cells slots (vx_MQ below Qc XC args s mc ms free) (F0 m pc ls rest) q := by
  intro T hT X
  have hpl : e.platform.magicAccessors = ({} : Platform).magicAccessors := by rw [X.admits.platform]
  obtain ⟨vm', hW', X', st⟩ := X.outThrough hlocks q (g := F0 m pc ls rest) rfl rfl rfl (cell := ce) (by rw [hT]; exact hcell) (by rw [hv]; rfl)
    (by obtain ⟨k9, h9, -⟩ := Vm.findClass_spec hcl; exact ⟨k9, h9⟩) (fun z hz => by
      rcases hpass z hz with h | ⟨hz0, nm, hl1, hn1⟩
      · exact Or.inl h
      · obtain ⟨c6, hc6, hcl6⟩ := Cond.classLink_spec hown hl1 e.platform hpl
        obtain ⟨a8, b8, h1, h2, h3⟩ := hn1
        cases Option.some.inj (h1.symm.trans hcl)
        cases Option.some.inj (h2.symm.trans hc6)
        exact Or.inr ⟨hz0, _, hcl6, h3⟩)
  obtain ⟨g₀, hfr⟩ := X'.frames_eq
  have hcell9 : ((T.setVm vm').setFrames (.throwing q :: below)).heap[q]? = some ce := by
    show T.heap[q]? = some ce
    rw [hT]; exact hcell
  have hend : Ended ((T.setVm vm').setFrames (.throwing q :: below)) below (.threw q) := State.frames_setFrames _ (State.cur_lt_of_frames hfr)
  refine ⟨(T.setVm vm').setFrames (.throwing q :: below), ?_, .threw q, X'.here.running, hend, Or.inr ⟨q, rfl, E, ce, locs, hx _ hT (X'.ends _).1.alike, hcell9, hv, hcl, (X'.ends _).1, (X'.ends _).2.mono hc hs, hf⟩⟩
  rw [X.pushThrowing_eq]
  exact st
/-- a thing of a world lies in the heap -/
theorem vx_lt {D : va_G} {cl : List vw_C} {ws : va_W} {H1 : Heap} (h : va_P D cl ws H1) {k : Nat} {q : Nat × va_E} (hk : ws[k]? = some q) : q.1 < H1.size := (h k q hk).lt
end VXS
/-! ===== END ===== -/
/-! ===== BEGIN methods with a table of their own: called by a name, returning or throwing ===== -/
section VXH
/-! vx_backW, vx_callVX, vx_callSX, vx_callVW, vx_runVW, vx_runVX, vx_runSX, vx_ofWH follow the same proofs as their sisters above (Free/Laws.lean, Shelf42/LK1.lean); vx_outP calls Shelf42/NT130.lean (outThrough). -/
section
variable {l : Launch} {R : Room} {p : Program} {e : Env} {below : List Frame} {s : State} {sargs : Array Value} {y : MethodName} {len W9 : Nat}
theorem vx_backW {ws : List Cond} {rm : Room} {Pc : Array Value → State → Prop} {Qc : Array Value → State → Outcome → State → Prop} {XC : String → State → State → Prop} {mc ms : Nat} {free : Addr → Prop} {bytes : ByteArray} {maxL : Nat} {ret : Option FieldType} {hh : List (Nat × Nat × Nat × Nat)}
    (hM : vx_Met l y ws rm Pc Qc XC mc ms free) (hblind : FrameBlind Pc) (hrc : rm.cells = mc) (hrs : rm.slots = ms)
    (hframes : rm.frames + 1 ≤ R.frames) (hlocals : W9 + (maxL + 11) + rm.locals ≤ R.locals)
    (hws : ∀ w ∈ ws, ∀ a' U, s.WarmedH U.vm → w.before a' U = true) (hcode : Cond.codeWith y bytes maxL ret hh ∈ ws) (hinit : ∀ a' U, s.WarmedH U.vm → (Cond.initialized y.cls).before a' U = true) :
    vx_Back l R p e below s sargs y len W9 (PreOf R mc ms Pc) (PostOf Qc mc ms free) (vx_Post XC mc ms free) := by
  intro m meth c A g ig mk a X hg hsize hdg hW hn hp
  have h1 : (headSpec ws rm).pre.before a A.U = true := atoms_intro fun w hw => hws w hw _ _ X.warmed
  have h2 : (Cond.codeWith y bytes maxL ret hh).before a A.U = true := hws _ hcode _ _ X.warmed
  have h3 : (Cond.initialized y.cls).before a A.U = true := hinit _ _ X.warmed
  have h4 : A.cells + (headSpec ws rm).room.cells ≤ R.cells := by rw [show (headSpec ws rm).room.cells = mc from hrc]; exact hp.1
  have h5 : A.slots + (headSpec ws rm).room.slots ≤ R.slots := by rw [show (headSpec ws rm).room.slots = ms from hrs]; exact hp.2.1
  have hPc : Pc a (A.U.calling g mk a) := hblind _ _ _ _ hp.2.2
  obtain ⟨U, Ls, c0, s0⟩ := A
  dsimp only [Pt.U, Pt.locs, Pt.cells, Pt.slots] at h1 h2 h3 h4 h5 X hn hPc ⊢
  obtain ⟨m9, methY, cY, hn9, hmY, hcY, -, hlY, -⟩ := Cond.codeWith_spec h2
  cases Option.some.inj (hn9.symm.trans hn)
  obtain ⟨kY, hkY, -⟩ := className_of_methodNamed hn
  have hinitY : kY.init = .initialized := Cond.initialized_spec (findClass_of_methodNamed hn) hkY h3
  have h : At U g.method c below := by rw [hg]; exact X.here
  have hlocals9 : W9 + (maxL + 11) + (headSpec ws rm).room.locals ≤ R.locals := hlocals
  have happ : (headSpec ws rm).appliesLoose y e.platform (U.calling g mk a) = true :=
    Spec.appliesLoose_calling (g := g) h hdg hn hkY hinitY
      (X.room_calling (g := g) (R' := (headSpec ws rm).room) hsize hmY hcY hframes (by rw [hlY]; omega) h4 h5) h1
  obtain ⟨mid, hmid⟩ := h.above
  have hfr : (U.setTop g).frames = (.java g :: mid) ++ below := by rw [State.frames_setTop' g h.top, hmid]; rfl
  obtain ⟨o, s₂, hsteps, -, hend, hq⟩ := Steps.callFree hM p X.admits X.cas X.clock (acts := []) hfr happ hPc trivial
  have hq' : vx_Q Qc XC mc ms free a (U.calling g mk a) o s₂ := hq
  rw [State.frames_setTop' g h.top] at hend
  obtain ⟨g₀, hg0⟩ := Option.isSome_iff_exists.mp h.top
  obtain ⟨r, hr⟩ := State.topJava?_eq_some.mp hg0
  have hr' : (({ U with heap := s₂.heap, slotsUsed := s₂.slotsUsed } : State).setVm s₂.vm).frames = .java g₀ :: r := hr
  rcases hq' with ⟨hqc, L, hfe, hL⟩ | ⟨q, rfl, E, ce, L, hx, hce, hcv, hcl, hW₂, hsm, hL⟩
  · obtain ⟨⟨v, rfl⟩, hW₂, e2, q2, q3, q4, q5, q6⟩ := id hfe
    have e3 : s₂ = ({ (U.calling g mk a).setFrames s₂.frames with heap := s₂.heap, slotsUsed := s₂.slotsUsed } : State).setVm s₂.vm := by
      have : s₂ = ({ s₂ with vm := (U.calling g mk a).vm } : State).setVm s₂.vm := rfl
      rw [e2] at this
      exact this
    obtain ⟨c₂, i₂, len₂, hc₂, hd₂, hf₂⟩ := hend
    have hW' : U.WarmedH s₂.vm := hW₂
    have hcc : c₂ = c := by
      have h1 : s₂.code? g.method = U.code? g.method := by
        rw [State.code?_eq, State.code?_eq, hW'.alike.method?]
      exact Option.some.inj (hc₂.symm.trans (h1.trans h.code))
    subst hcc
    have hlen : len₂ = len := by rw [hdg] at hd₂; cases hd₂; rfl
    subst hlen
    have hs₂ : s₂ = (({ U with heap := s₂.heap, slotsUsed := s₂.slotsUsed } : State).setVm s₂.vm).setTop { g with pc := g.pc + len₂, stack := v.toList ++ g.stack } := by
      refine e3.trans ?_
      rw [hf₂, State.calling_eq h.top, State.setFrames_setFrames, State.setTop_of_frames _ hr', hr]
      rfl
    have hsame : U.sameButNew ({ U with heap := s₂.heap, slotsUsed := s₂.slotsUsed } : State) L mc ms := by
      refine ⟨?_, q2, q3, q4, q5, q6⟩
      obtain ⟨t, ht, -⟩ := State.frames_cons hr
      show ({ U with heap := s₂.heap, slotsUsed := s₂.slotsUsed } : State) = { U.setFrames U.frames with heap := s₂.heap, slotsUsed := s₂.slotsUsed }
      rw [State.setFrames_self ht]
    subst hg
    refine Or.inl ⟨v, ⟨(({ U with heap := s₂.heap, slotsUsed := s₂.slotsUsed } : State).setVm s₂.vm), Ls ++ L, c0 + mc, s0 + ms⟩,
      ⟨X.admits, X.cas, X.clock, X.frames, X.room, X.hears, X.method, X.code, (X.here.setHeapUsed s₂.heap s₂.slotsUsed).setVm hW'.alike, X.tail, State.WarmedH.trans X.warmed hW', X.limits, X.bytes, X.same.trans (hsame.setVm s.vm)⟩,
      ⟨g, mk, s₂, L, rfl, rfl, hqc, rfl, hL, rfl, rfl⟩, ?_⟩
    show Steps p.tables e below _ ((({ U with heap := s₂.heap, slotsUsed := s₂.slotsUsed } : State).setVm s₂.vm).setTop { g with pc := g.pc + len₂, stack := v.toList ++ g.stack })
    rw [← hs₂]
    exact hsteps
  · obtain ⟨e2, q2, q3, q4, q5, q6⟩ := id hsm
    have e3 : s₂ = ({ (U.calling g mk a).setFrames s₂.frames with heap := s₂.heap, slotsUsed := s₂.slotsUsed } : State).setVm s₂.vm := by
      have : s₂ = ({ s₂ with vm := (U.calling g mk a).vm } : State).setVm s₂.vm := rfl
      rw [e2] at this
      exact this
    have hf₂ : s₂.frames = .throwing q :: .java g :: U.frames.tail := hend
    have hW' : U.WarmedH s₂.vm := hW₂
    have hs₂ : s₂ = ((({ U with heap := s₂.heap, slotsUsed := s₂.slotsUsed } : State).setVm s₂.vm).setTop g).pushFrame (.throwing q) := by
      refine e3.trans ?_
      rw [hf₂, State.calling_eq h.top, State.setFrames_setFrames, State.pushFrame, State.frames_setTop _ hr', State.setTop_of_frames _ hr', State.setFrames_setFrames, hr]
      rfl
    have hsame : U.sameButNew ({ U with heap := s₂.heap, slotsUsed := s₂.slotsUsed } : State) L mc ms := by
      refine ⟨?_, q2, q3, q4, q5, q6⟩
      obtain ⟨t, ht, -⟩ := State.frames_cons hr
      show ({ U with heap := s₂.heap, slotsUsed := s₂.slotsUsed } : State) = { U.setFrames U.frames with heap := s₂.heap, slotsUsed := s₂.slotsUsed }
      rw [State.setFrames_self ht]
    subst hg
    refine Or.inr ⟨q, ⟨(({ U with heap := s₂.heap, slotsUsed := s₂.slotsUsed } : State).setVm s₂.vm), Ls ++ L, c0 + mc, s0 + ms⟩,
      ⟨X.admits, X.cas, X.clock, X.frames, X.room, X.hears, X.method, X.code, (X.here.setHeapUsed s₂.heap s₂.slotsUsed).setVm hW'.alike, X.tail, State.WarmedH.trans X.warmed hW', X.limits, X.bytes, X.same.trans (hsame.setVm s.vm)⟩,
      ⟨g, mk, s₂, L, E, ce, rfl, rfl, hx, hce, hcv, hcl, rfl, hL, rfl, rfl⟩, ?_⟩
    show Steps p.tables e below _ (((({ U with heap := s₂.heap, slotsUsed := s₂.slotsUsed } : State).setVm s₂.vm).setTop g).pushFrame (.throwing q))
    rw [← hs₂]
    exact hsteps
end
variable {p : Program} {l : Launch} {e : Env} {R : Room} {s : State} {m : MethodId} {args : Array Value} {below : List Frame} {meth : Method} {c : Code} {T : State} {H : Heap} {locs : List Loc} {cells slots : Nat}
theorem vx_callVX (X : Stand p l e R s m args below meth c T locs cells slots) (hexec : p.tables.exec = Jvm.exec) {own C : String} {index : Nat} {y : MethodName} {bytes : ByteArray} {maxL : Nat} {ret : Option FieldType} {hh : List (Nat × Nat × Nat × Nat)}
    (hown : s.vm.findClass own = some m.cls) (hlink : (Cond.methodLink own index y).before args s = true) (hinst : (Cond.instanceMethod y).before args s = true) (hsel : (Cond.selects C y y).before args s = true)
    (hcode : (Cond.codeWith y bytes maxL ret hh).before args s = true) (hy : y.cls ≠ "java/lang/invoke/MethodHandle" ∧ y.cls ≠ "java/lang/invoke/VarHandle")
    {W9 : Nat} {Pre : Pt → Array Value → Prop} {Post : Pt → Array Value → Option Value → Pt → Prop} {PostX : Pt → Array Value → Addr → Pt → Prop} (hK : vx_Back l R p e below s args y 3 W9 Pre Post PostX)
    {b : Addr} {cellB : Cell} (hcell : T.heap[b]? = some cellB) (hobj : cellB.vm.isStatics = false) (hcls : s.vm.findClass C = some cellB.cls)
    {g : JFrame} (hg : g.method = m) (hsize : g.locals.size = c.maxLocals) {argsL rest : List Value} (hlen : ∀ sig, parseMethodDescriptor y.desc = some sig → argsL.length = sig.parameters.length)
    (hstack : g.stack = argsL.reverse ++ .ref b :: rest) (hW : 2 * g.monitorRoom + (rest.map fun v => v.category).sum ≤ W9) (hdg : decode c.code g.pc = .ok (.invokevirtual index, 3))
    (hpre : ∀ vm₁, s.WarmedH vm₁ → Pre ⟨T.setVm vm₁, locs, cells, slots⟩ (Value.ref b :: argsL).toArray) :
    (∃ (v : Option Value) (vm₁ : Vm) (B : Pt), s.WarmedH vm₁ ∧ Stand p l e R s m args below meth c B.U B.locs B.cells B.slots ∧ Post ⟨T.setVm vm₁, locs, cells, slots⟩ (Value.ref b :: argsL).toArray v B ∧
      ∀ target, Steps p.tables e below (B.U.setTop { g with pc := g.pc + 3, stack := v.toList ++ rest }) target → Steps p.tables e below (T.setTop g) target) ∨
    (∃ (q : Addr) (vm₁ : Vm) (B : Pt), s.WarmedH vm₁ ∧ Stand p l e R s m args below meth c B.U B.locs B.cells B.slots ∧ PostX ⟨T.setVm vm₁, locs, cells, slots⟩ (Value.ref b :: argsL).toArray q B ∧
      Steps p.tables e below (T.setTop g) ((B.U.setTop { g with stack := rest }).pushFrame (.throwing q))) := by
  obtain ⟨mk, methM, hnamed, hmethM, hstM, habM⟩ := Cond.instanceMethod_spec hinst
  obtain ⟨m8, methM', cM, hn8, hmethM', -, -, -, -, -, -, hsigM⟩ := Cond.codeWith_spec hcode
  cases Option.some.inj (hn8.symm.trans hnamed)
  cases hmethM.symm.trans hmethM'
  obtain ⟨c2, r2, m2, q1, q2, q3, q4, kP, hkP, hkPi⟩ := Cond.selects_spec hsel
  cases hcls.symm.trans q1
  cases (State.methodFound?_of_named hnamed hy).symm.trans q2
  cases hnamed.symm.trans q3
  have hselP : selectMethod e.platform s.vm cellB.cls mk = .method mk := by rw [Launch.admits_selectMethod X.admits]; exact q4
  obtain ⟨vm₁, X₁, hstep₁⟩ := X.invokevirtual hexec hown hlink hnamed hmethM hstM hkP hkPi hy (a := b) (cell := cellB) hcell
    (fun z h => by rw [h] at hobj; cases hobj) hselP hmethM habM hkP hkPi (g := g) hg (argsL := argsL) (rest := rest) (hlen _ hsigM) hstack hdg
  rcases hK m meth c ⟨T.setVm vm₁, locs, cells, slots⟩ { g with stack := rest } (.invokevirtual index) mk (Value.ref b :: argsL).toArray X₁ hg hsize hdg hW (X₁.named hnamed) (hpre vm₁ X₁.warmed) with ⟨v, B, X', hpost, hsteps⟩ | ⟨q, B, X', hpost, hsteps⟩
  · exact Or.inl ⟨v, vm₁, B, X₁.warmed, X', hpost, fun target h => hstep₁ _ fun acts => by rw [doInvoke_state]; exact hsteps.trans h⟩
  · exact Or.inr ⟨q, vm₁, B, X₁.warmed, X', hpost, hstep₁ _ fun acts => by rw [doInvoke_state]; exact hsteps⟩
theorem vx_callSX (X : Stand p l e R s m args below meth c T locs cells slots) (hexec : p.tables.exec = Jvm.exec) {own : String} {index : Nat} {y : MethodName} {bytes : ByteArray} {maxL : Nat} {ret : Option FieldType} {hh : List (Nat × Nat × Nat × Nat)}
    (hown : s.vm.findClass own = some m.cls) (hlink : (Cond.methodLink own index y).before args s = true) (hstat : (Cond.static y).before args s = true) (hinit : (Cond.initialized y.cls).before args s = true)
    (hcode : (Cond.codeWith y bytes maxL ret hh).before args s = true) (hy : y.cls ≠ "java/lang/invoke/MethodHandle" ∧ y.cls ≠ "java/lang/invoke/VarHandle")
    {W9 : Nat} {Pre : Pt → Array Value → Prop} {Post : Pt → Array Value → Option Value → Pt → Prop} {PostX : Pt → Array Value → Addr → Pt → Prop} (hK : vx_Back l R p e below s args y 3 W9 Pre Post PostX)
    {g : JFrame} (hg : g.method = m) (hsize : g.locals.size = c.maxLocals) {argsL rest : List Value} (hlen : ∀ sig, parseMethodDescriptor y.desc = some sig → argsL.length = sig.parameters.length)
    (hstack : g.stack = argsL.reverse ++ rest) (hW : 2 * g.monitorRoom + (rest.map fun v => v.category).sum ≤ W9) (hdg : decode c.code g.pc = .ok (.invokestatic index, 3))
    (hpre : ∀ vm₁, s.WarmedH vm₁ → Pre ⟨T.setVm vm₁, locs, cells, slots⟩ argsL.toArray) :
    (∃ (v : Option Value) (vm₁ : Vm) (B : Pt), s.WarmedH vm₁ ∧ Stand p l e R s m args below meth c B.U B.locs B.cells B.slots ∧ Post ⟨T.setVm vm₁, locs, cells, slots⟩ argsL.toArray v B ∧
      ∀ target, Steps p.tables e below (B.U.setTop { g with pc := g.pc + 3, stack := v.toList ++ rest }) target → Steps p.tables e below (T.setTop g) target) ∨
    (∃ (q : Addr) (vm₁ : Vm) (B : Pt), s.WarmedH vm₁ ∧ Stand p l e R s m args below meth c B.U B.locs B.cells B.slots ∧ PostX ⟨T.setVm vm₁, locs, cells, slots⟩ argsL.toArray q B ∧
      Steps p.tables e below (T.setTop g) ((B.U.setTop { g with stack := rest }).pushFrame (.throwing q))) := by
  obtain ⟨mk, methM, cM, hnamed, hmethM, -, -, -, -, -, -, hsigM⟩ := Cond.codeWith_spec hcode
  have hstatic : methM.isStatic = true := Cond.static_spec hnamed hmethM hstat
  obtain ⟨kP, hkP, -⟩ := className_of_methodNamed hnamed
  have hinitP : kP.init = .initialized := Cond.initialized_spec (findClass_of_methodNamed hnamed) hkP hinit
  obtain ⟨vm₁, X₁, hstep₁⟩ := X.invokestatic hexec hown hlink hnamed hmethM hstatic hkP hinitP hy (g := g) hg (argsL := argsL) (rest := rest) (hlen _ hsigM) hstack hdg
  rcases hK m meth c ⟨T.setVm vm₁, locs, cells, slots⟩ { g with stack := rest } (.invokestatic index) mk argsL.toArray X₁ hg hsize hdg hW (X₁.named hnamed) (hpre vm₁ X₁.warmed) with ⟨v, B, X', hpost, hsteps⟩ | ⟨q, B, X', hpost, hsteps⟩
  · exact Or.inl ⟨v, vm₁, B, X₁.warmed, X', hpost, fun target h => hstep₁ _ fun acts => by rw [doInvoke_state]; exact hsteps.trans h⟩
  · exact Or.inr ⟨q, vm₁, B, X₁.warmed, X', hpost, hstep₁ _ fun acts => by rw [doInvoke_state]; exact hsteps⟩
theorem vx_callVW (X : Stand p l e R s m args below meth c T locs cells slots) (hexec : p.tables.exec = Jvm.exec) {own C : String} {index : Nat} {y : MethodName} {bytes : ByteArray} {maxL : Nat} {ret : Option FieldType} {hh : List (Nat × Nat × Nat × Nat)}
    (hown : s.vm.findClass own = some m.cls) (hlink : (Cond.methodLink own index y).before args s = true) (hinst : (Cond.instanceMethod y).before args s = true) (hsel : (Cond.selects C y y).before args s = true)
    (hcode : (Cond.codeWith y bytes maxL ret hh).before args s = true) (hy : y.cls ≠ "java/lang/invoke/MethodHandle" ∧ y.cls ≠ "java/lang/invoke/VarHandle")
    {W9 : Nat} {Pre : Pt → Array Value → Prop} {Post : Pt → Array Value → Option Value → Pt → Prop} (hK : Back l R p e below s args y 3 W9 Pre Post)
    {b : Addr} {cellB : Cell} (hcell : T.heap[b]? = some cellB) (hobj : cellB.vm.isStatics = false) (hcls : s.vm.findClass C = some cellB.cls)
    {g : JFrame} (hg : g.method = m) (hsize : g.locals.size = c.maxLocals) {argsL rest : List Value} (hlen : ∀ sig, parseMethodDescriptor y.desc = some sig → argsL.length = sig.parameters.length)
    (hstack : g.stack = argsL.reverse ++ .ref b :: rest) (hW : 2 * g.monitorRoom + (rest.map fun v => v.category).sum ≤ W9) (hdg : decode c.code g.pc = .ok (.invokevirtual index, 3))
    (hpre : ∀ vm₁, s.WarmedH vm₁ → Pre ⟨T.setVm vm₁, locs, cells, slots⟩ (Value.ref b :: argsL).toArray) :
    ∃ (v : Option Value) (vm₁ : Vm) (B : Pt), s.WarmedH vm₁ ∧ Stand p l e R s m args below meth c B.U B.locs B.cells B.slots ∧ Post ⟨T.setVm vm₁, locs, cells, slots⟩ (Value.ref b :: argsL).toArray v B ∧
      ∀ target, Steps p.tables e below (B.U.setTop { g with pc := g.pc + 3, stack := v.toList ++ rest }) target → Steps p.tables e below (T.setTop g) target := by
  obtain ⟨mk, methM, hnamed, hmethM, hstM, habM⟩ := Cond.instanceMethod_spec hinst
  obtain ⟨m8, methM', cM, hn8, hmethM', -, -, -, -, -, -, hsigM⟩ := Cond.codeWith_spec hcode
  cases Option.some.inj (hn8.symm.trans hnamed)
  cases hmethM.symm.trans hmethM'
  obtain ⟨c2, r2, m2, q1, q2, q3, q4, kP, hkP, hkPi⟩ := Cond.selects_spec hsel
  cases hcls.symm.trans q1
  cases (State.methodFound?_of_named hnamed hy).symm.trans q2
  cases hnamed.symm.trans q3
  have hselP : selectMethod e.platform s.vm cellB.cls mk = .method mk := by rw [Launch.admits_selectMethod X.admits]; exact q4
  obtain ⟨vm₁, X₁, hstep₁⟩ := X.invokevirtual hexec hown hlink hnamed hmethM hstM hkP hkPi hy (a := b) (cell := cellB) hcell
    (fun z h => by rw [h] at hobj; cases hobj) hselP hmethM habM hkP hkPi (g := g) hg (argsL := argsL) (rest := rest) (hlen _ hsigM) hstack hdg
  obtain ⟨v, B, X', hpost, hsteps⟩ := hK m meth c ⟨T.setVm vm₁, locs, cells, slots⟩ { g with stack := rest } (.invokevirtual index) mk (Value.ref b :: argsL).toArray X₁ hg hsize hdg hW (X₁.named hnamed) (hpre vm₁ X₁.warmed)
  exact ⟨v, vm₁, B, X₁.warmed, X', hpost, fun target h => hstep₁ _ fun acts => by rw [doInvoke_state]; exact hsteps.trans h⟩
abbrev vx_CVW (R : Room) (s : State) (args : Array Value) (own C : String) (index : Nat) (y : MethodName) (bytes : ByteArray) (maxL : Nat) (ret : Option FieldType) (hh : List (Nat × Nat × Nat × Nat)) (ws : List Cond) (rm : Room) (mc ms n : Nat) : Prop :=
  (rm.cells = mc ∧ rm.slots = ms ∧ rm.frames + 1 ≤ R.frames ∧ 8 + (maxL + 11) + rm.locals ≤ R.locals ∧ (∀ w ∈ ws, ∀ (a' : Array Value) (U : State), s.WarmedH U.vm → w.before a' U = true) ∧ Cond.codeWith y bytes maxL ret hh ∈ ws) ∧
  (Cond.codeWith y bytes maxL ret hh).before args s = true ∧ (Cond.initialized y.cls).before args s = true ∧ (y.cls ≠ "java/lang/invoke/MethodHandle" ∧ y.cls ≠ "java/lang/invoke/VarHandle") ∧
  (∀ sig, parseMethodDescriptor y.desc = some sig → n = sig.parameters.length) ∧ (Cond.methodLink own index y).before args s = true ∧ (Cond.instanceMethod y).before args s = true ∧ (Cond.selects C y y).before args s = true
theorem vx_cwVW {own C : String} {index maxL mc ms : Nat} {y : MethodName} {bytes : ByteArray} {ret : Option FieldType} {hh : List (Nat × Nat × Nat × Nat)} {Ts ws ws' : List Cond} {rm : Room} (n : Nat) (ht : ∀ w ∈ Ts, w.before args s = true) (hT : GoodIn Ts (wsV own index C y ws)) (hw : ws = Cond.codeWith y bytes maxL ret hh :: ws') (hrc : rm.cells = mc) (hrs : rm.slots = ms)
    (hd : y.cls = C ∧ y.cls ≠ "java/lang/invoke/MethodHandle" ∧ y.cls ≠ "java/lang/invoke/VarHandle" ∧ (parseMethodDescriptor y.desc).map (fun d => d.parameters.length) = some n) (hR : rm.frames + 1 ≤ R.frames ∧ 8 + (maxL + 11) + rm.locals ≤ R.locals) :
    vx_CVW R s args own C index y bytes maxL ret hh ws rm mc ms n := by
  obtain ⟨hC, hd⟩ := hd
  subst hC
  have ok : ∀ w ∈ wsV own index y.cls y ws, w.before args s = true := fun w h => ht w (hT w h).1
  have hG : GoodIn Ts ws := fun w h => hT w (by unfold wsV; exact List.mem_append_right _ h)
  have hc : Cond.codeWith y bytes maxL ret hh ∈ ws := by rw [hw]; exact List.mem_cons_self
  refine ⟨⟨hrc, hrs, hR.1, hR.2, pay_in ht hG, hc⟩, ht _ (hG _ hc).1, ok _ (by simp [wsV]), ⟨hd.1, hd.2.1⟩, fun sig h => ?_, ok _ (by simp [wsV]), ok _ (by simp [wsV]), ok _ (by simp [wsV])⟩
  have h2 := hd.2.2
  rw [h] at h2
  exact (Option.some.inj h2).symm
theorem vx_runVW {y : MethodName} {bytes cc : ByteArray} {maxL nL mc ms n index : Nat} {ret : Option FieldType} {hh : List (Nat × Nat × Nat × Nat)} {ws : List Cond} {rm : Room} {Pc : Array Value → State → Prop} {Qc : Array Value → State → Outcome → State → Prop} {free : Addr → Prop} {Ts : List Cond} {own C : String} {b : Addr} {As rest : List Value} {g : JFrame}
    (S : CallFix p m c cc nL s args Ts own) (hM : Met l y ws rm Pc Qc mc ms free) (cw : vx_CVW R s args own C index y bytes maxL ret hh ws rm mc ms n) (hp : PreV s H C b Pc As)
    (hg : g.method = m) (hn : As.length = n) (hsize : g.locals.size = nL) (hstack : g.stack = As.reverse ++ .ref b :: rest) (hW : 2 * g.monitorRoom + (rest.map fun v => v.category).sum ≤ 8) (hdg : decode cc g.pc = .ok (.invokevirtual index, 3)) (hf : cells + mc ≤ R.cells ∧ slots + ms ≤ R.slots) :
    va_Run p l e R s m args below meth c H locs cells slots mc ms g rest (Qc (Value.ref b :: As).toArray) free := by
  obtain ⟨⟨hrc, hrs, hfr, hlo, hws, hcw⟩, hcode, hini, hy, hlen, hl, hin, hse⟩ := cw
  have hK : Back l R p e below s args y 3 8 (PreOf R mc ms Pc) (PostOf Qc mc ms free) := va_backW (hh := hh) (bytes := bytes) (maxL := maxL) (ret := ret) hM hp.1 hrc hrs hfr hlo hws hcw (fun a' U hW => word_at hW (Or.inl (by first | rfl | simp [Cond.onTables, Cond.keeps, Cond.steady])) hini)
  obtain ⟨hx, hb, hml, ho, -⟩ := S
  obtain ⟨-, ⟨cellB, hcB, hoB, hclB⟩, hPc⟩ := hp
  intro T hT X
  obtain ⟨v, vm₁, ⟨U', l2, c2, s2⟩, hW₁, X', ⟨g', mk, t, L, e1, e2, hq, h1, hL, h2, h3⟩, st⟩ := vx_callVW X hx (C := C) (hh := hh) (bytes := bytes) (maxL := maxL) (ret := ret) ho hl hin hse hcode hy hK (by rw [hT]; exact hcB) hoB hclB hg (hsize.trans hml.symm) (argsL := As) (rest := rest) (fun sig h => hn.trans (hlen sig h)) hstack hW (by rw [hb]; exact hdg)
    (fun vm₁ hW₁ => ⟨hf.1, hf.2, hPc (T.setVm vm₁) hT hW₁⟩)
  dsimp only [Pt.U, Pt.locs, Pt.cells, Pt.slots] at X' e1 e2 h1 h2 h3 st
  subst h1; subst h2; subst h3
  exact ⟨v, (T.setVm vm₁).calling g' mk (Value.ref b :: As).toArray, t, U', L, hT, X', hL, e1, e2, hq, st⟩
section
variable {y : MethodName} {bytes cc : ByteArray} {maxL nL mc ms n index : Nat} {ret : Option FieldType} {ws : List Cond} {rm : Room} {Pc : Array Value → State → Prop} {Qc : Array Value → State → Outcome → State → Prop} {XC : String → State → State → Prop} {free : Addr → Prop} {Ts : List Cond} {own C : String} {b : Addr} {As rest : List Value} {g : JFrame}
theorem vx_runVX {hh : List (Nat × Nat × Nat × Nat)} (S : CallFix p m c cc nL s args Ts own) (hM : vx_Met l y ws rm Pc Qc XC mc ms free) (cw : vx_CVW R s args own C index y bytes maxL ret hh ws rm mc ms n) (hp : PreV s H C b Pc As)
    (hg : g.method = m) (hn : As.length = n) (hsize : g.locals.size = nL) (hstack : g.stack = As.reverse ++ .ref b :: rest) (hW : 2 * g.monitorRoom + (rest.map fun v => v.category).sum ≤ 8) (hdg : decode cc g.pc = .ok (.invokevirtual index, 3)) (hf : cells + mc ≤ R.cells ∧ slots + ms ≤ R.slots) :
    vx_Run p l e R s m args below meth c H locs cells slots mc ms g rest (Qc (Value.ref b :: As).toArray) XC free := by
  obtain ⟨⟨hrc, hrs, hfr, hlo, hws, hcw⟩, hcode, hini, hy, hlen, hl, hin, hse⟩ := cw
  have hK : vx_Back l R p e below s args y 3 8 (PreOf R mc ms Pc) (PostOf Qc mc ms free) (vx_Post XC mc ms free) := vx_backW (hh := hh) (bytes := bytes) (maxL := maxL) (ret := ret) hM hp.1 hrc hrs hfr hlo hws hcw (fun a' U hW => word_at hW (Or.inl (by first | rfl | simp [Cond.onTables, Cond.keeps, Cond.steady])) hini)
  obtain ⟨hx, hb, hml, ho, -⟩ := S
  obtain ⟨-, ⟨cellB, hcB, hoB, hclB⟩, hPc⟩ := hp
  intro T hT X
  rcases vx_callVX X hx (C := C) (hh := hh) (bytes := bytes) (maxL := maxL) (ret := ret) ho hl hin hse hcode hy hK (by rw [hT]; exact hcB) hoB hclB hg (hsize.trans hml.symm) (argsL := As) (rest := rest) (fun sig h => hn.trans (hlen sig h)) hstack hW (by rw [hb]; exact hdg)
    (fun vm₁ hW₁ => ⟨hf.1, hf.2, hPc (T.setVm vm₁) hT hW₁⟩) with ⟨v, vm₁, ⟨U', l2, c2, s2⟩, hW₁, X', ⟨g', mk, t, L, e1, e2, hq, h1, hL, h2, h3⟩, st⟩ | ⟨q, vm₁, ⟨U', l2, c2, s2⟩, hW₁, X', ⟨g', mk, t, L, E, ce, e1, e2, hq, hce, hcv, hcl, h1, hL, h2, h3⟩, st⟩
  · dsimp only [Pt.U, Pt.locs, Pt.cells, Pt.slots] at X' e1 e2 h1 h2 h3 st
    subst h1; subst h2; subst h3
    exact Or.inl ⟨v, (T.setVm vm₁).calling g' mk (Value.ref b :: As).toArray, t, U', L, hT, X', hL, e1, e2, hq, st⟩
  · dsimp only [Pt.U, Pt.locs, Pt.cells, Pt.slots] at X' e1 e2 h1 h2 h3 st hcl
    subst h1; subst h2; subst h3
    exact Or.inr ⟨q, (T.setVm vm₁).calling g' mk (Value.ref b :: As).toArray, t, U', L, E, ce, hT, X', hL, e1, e2, hq, hce, hcv, vx_cls hW₁ hcl, st⟩
theorem vx_runSX {hh : List (Nat × Nat × Nat × Nat)} (S : CallFix p m c cc nL s args Ts own) (hM : vx_Met l y ws rm Pc Qc XC mc ms free) (cw : vx_CSW R s args own index y bytes maxL ret hh ws rm mc ms n) (hp : PreS s H Pc As)
    (hg : g.method = m) (hn : As.length = n) (hsize : g.locals.size = nL) (hstack : g.stack = As.reverse ++ rest) (hW : 2 * g.monitorRoom + (rest.map fun v => v.category).sum ≤ 8) (hdg : decode cc g.pc = .ok (.invokestatic index, 3)) (hf : cells + mc ≤ R.cells ∧ slots + ms ≤ R.slots) :
    vx_Run p l e R s m args below meth c H locs cells slots mc ms g rest (Qc As.toArray) XC free := by
  obtain ⟨⟨hrc, hrs, hfr, hlo, hws, hcw⟩, hcode, hini, hy, hlen, hl, hstt⟩ := cw
  have hK : vx_Back l R p e below s args y 3 8 (PreOf R mc ms Pc) (PostOf Qc mc ms free) (vx_Post XC mc ms free) := vx_backW (hh := hh) (bytes := bytes) (maxL := maxL) (ret := ret) hM hp.1 hrc hrs hfr hlo hws hcw (fun a' U hW => word_at hW (Or.inl (by first | rfl | simp [Cond.onTables, Cond.keeps, Cond.steady])) hini)
  obtain ⟨hx, hb, hml, ho, -⟩ := S
  intro T hT X
  rcases vx_callSX X hx (hh := hh) (bytes := bytes) (maxL := maxL) (ret := ret) ho hl hstt hini hcode hy hK hg (hsize.trans hml.symm) (argsL := As) (rest := rest) (fun sig h => hn.trans (hlen sig h)) hstack hW (by rw [hb]; exact hdg)
    (fun vm₁ hW₁ => ⟨hf.1, hf.2, hp.2 (T.setVm vm₁) hT hW₁⟩) with ⟨v, vm₁, ⟨U', l2, c2, s2⟩, hW₁, X', ⟨g', mk, t, L, e1, e2, hq, h1, hL, h2, h3⟩, st⟩ | ⟨q, vm₁, ⟨U', l2, c2, s2⟩, hW₁, X', ⟨g', mk, t, L, E, ce, e1, e2, hq, hce, hcv, hcl, h1, hL, h2, h3⟩, st⟩
  · dsimp only [Pt.U, Pt.locs, Pt.cells, Pt.slots] at X' e1 e2 h1 h2 h3 st
    subst h1; subst h2; subst h3
    exact Or.inl ⟨v, (T.setVm vm₁).calling g' mk As.toArray, t, U', L, hT, X', hL, e1, e2, hq, st⟩
  · dsimp only [Pt.U, Pt.locs, Pt.cells, Pt.slots] at X' e1 e2 h1 h2 h3 st hcl
    subst h1; subst h2; subst h3
    exact Or.inr ⟨q, (T.setVm vm₁).calling g' mk As.toArray, t, U', L, E, ce, hT, X', hL, e1, e2, hq, hce, hcv, vx_cls hW₁ hcl, st⟩
end
end VXH
theorem vx_ofWH {l : Launch} {y : MethodName} {ws ws' : List Cond} {rm : Room} {Pc : Array Value → State → Prop} {Qc : Array Value → State → Outcome → State → Prop} {XC : String → State → State → Prop} {mc ms : Nat} {free : Addr → Prop} {cc : ByteArray} {maxL : Nat} {ret : Option FieldType} {hh : List (Nat × Nat × Nat × Nat)}
    (hy : plainName y.cls = true) (hw : ws = Cond.codeWith y cc maxL ret hh :: ws')
    (body : ∀ p e s m args below meth c s₁, BodyLoose p l y (headSpec ws rm) cc maxL ret e s m args below meth c s₁ → c.maxLocals = maxL → Pc args s →
      W p l e (headSpec ws rm).room s m args below meth c s.heap [] 0 0 (vx_MQ below Qc XC args s mc ms free) (entryFrame m args maxL)) : vx_Met l y ws rm Pc Qc XC mc ms free := by
  refine MetFree.of_bodyS (code := cc) (maxLocals := maxL) (ret := ret) hy ?_ ?_
  · intro args s m h hn
    obtain ⟨m9, meth, c, hn9, h1, h2, h3, h4, -, h5, h6, -⟩ := Cond.codeWith_spec (atoms_spec (ws := ws) h _ (by rw [hw]; exact List.mem_cons_self))
    cases hn.symm.trans hn9
    exact ⟨meth, c, h1, h2, h3, h4, h5, h6⟩
  · intro p e s m args below meth c s₁ B hml hP _
    have hh0 : s₁.heap = s.heap := by rw [B.state]; rfl
    obtain ⟨t, a1, o, b1, b2, b3⟩ := body p e s m args below meth c s₁ B hml hP s₁ hh0 (Stand.of_body B)
    exact ⟨t, o, a1, b1, b2, b3⟩
/-! ===== END ===== -/

/-! ===== BEGIN printed: names, fields, word lists, decode rows ===== -/
def RX0 : String := "BranchPredictor$Audit"
def TX0 : u_T := fun k => match k with
  | 0 => ("BranchPredictor$Audit", "latestPlaces", "[I", true)
  | 1 => ("BranchPredictor$Audit", "allMeetings", "J", false)
  | _ => ("BranchPredictor$Audit", "harmfulMeetings", "J", false)
def tyX0 : Nat → FieldType := fun k => match k with
  | 0 => .array .int
  | 1 => .long
  | _ => .long
abbrev wsX00 : List Cond := u_ws RX0 TX0 3
theorem nmX0 : ∀ a, a < 3 → ∀ b, b < 3 → a ≠ b → (TX0 a).2.1 ≠ (TX0 b).2.1 := by decide +kernel
theorem tyX0_ok : ∀ k, k < 3 → parseFieldDescriptor (TX0 k).2.2.1 = some (tyX0 k) := by decide +kernel
abbrev cX0_init : ByteArray := prog_2_method_1_code
def yX0_init : MethodName := ⟨RX0, "<init>", "()V"⟩
abbrev cX0_startAnew : ByteArray := prog_2_method_2_code
def yX0_startAnew : MethodName := ⟨RX0, "startAnew", "()V"⟩
abbrev cX0_note : ByteArray := prog_2_method_3_code
def yX0_note : MethodName := ⟨RX0, "note", "(IIZ)V"⟩
def RX1 : String := "BranchPredictor$Branch"
def TX1 : u_T := fun k => match k with
  | 0 => ("BranchPredictor$Branch", "place", "I", false)
  | 1 => ("BranchPredictor$Branch", "state", "I", false)
  | 2 => ("BranchPredictor$Branch", "historyAhead", "I", false)
  | 3 => ("BranchPredictor$Branch", "plainIndex", "I", false)
  | 4 => ("BranchPredictor$Branch", "globalIndex", "I", false)
  | 5 => ("BranchPredictor$Branch", "isPlainTaken", "Z", false)
  | 6 => ("BranchPredictor$Branch", "isGlobalTaken", "Z", false)
  | 7 => ("BranchPredictor$Branch", "isChoiceTaken", "Z", false)
  | _ => ("BranchPredictor$Branch", "isPredictedTaken", "Z", false)
def tyX1 : Nat → FieldType := fun k => match k with
  | 0 => .int
  | 1 => .int
  | 2 => .int
  | 3 => .int
  | 4 => .int
  | 5 => .boolean
  | 6 => .boolean
  | 7 => .boolean
  | _ => .boolean
abbrev wsX10 : List Cond := u_ws RX1 TX1 9
theorem nmX1 : ∀ a, a < 9 → ∀ b, b < 9 → a ≠ b → (TX1 a).2.1 ≠ (TX1 b).2.1 := by decide +kernel
theorem tyX1_ok : ∀ k, k < 9 → parseFieldDescriptor (TX1 k).2.2.1 = some (tyX1 k) := by decide +kernel
abbrev cX1_init : ByteArray := prog_3_method_1_code
def yX1_init : MethodName := ⟨RX1, "<init>", "()V"⟩
abbrev cX1_saidTaken : ByteArray := prog_3_method_2_code
def yX1_saidTaken : MethodName := ⟨RX1, "saidTaken", "(I)Z"⟩
abbrev cX1_isPresumedTaken : ByteArray := prog_3_method_3_code
def yX1_isPresumedTaken : MethodName := ⟨RX1, "isPresumedTaken", "()Z"⟩
def RX2 : String := "BranchPredictor$CounterTable"
def TX2 : u_T := fun k => match k with
  | 0 => ("BranchPredictor$CounterTable", "values", "[I", true)
  | _ => ("BranchPredictor$CounterTable", "size", "I", false)
def tyX2 : Nat → FieldType := fun k => match k with
  | 0 => .array .int
  | _ => .int
abbrev wsX20 : List Cond := u_ws RX2 TX2 2
theorem nmX2 : ∀ a, a < 2 → ∀ b, b < 2 → a ≠ b → (TX2 a).2.1 ≠ (TX2 b).2.1 := by decide +kernel
theorem tyX2_ok : ∀ k, k < 2 → parseFieldDescriptor (TX2 k).2.2.1 = some (tyX2 k) := by decide +kernel
abbrev cX2_init : ByteArray := prog_4_method_1_code
def yX2_init : MethodName := ⟨RX2, "<init>", "()V"⟩
abbrev cX2_startAnew : ByteArray := prog_4_method_2_code
def yX2_startAnew : MethodName := ⟨RX2, "startAnew", "(I)V"⟩
abbrev cX2_indexFor : ByteArray := prog_4_method_3_code
def yX2_indexFor : MethodName := ⟨RX2, "indexFor", "(I)I"⟩
abbrev cX2_valueAt : ByteArray := prog_4_method_4_code
def yX2_valueAt : MethodName := ⟨RX2, "valueAt", "(I)I"⟩
abbrev cX2_saysTaken : ByteArray := prog_4_method_5_code
def yX2_saysTaken : MethodName := ⟨RX2, "saysTaken", "(I)Z"⟩
abbrev cX2_move : ByteArray := prog_4_method_6_code
def yX2_move : MethodName := ⟨RX2, "move", "(IZ)V"⟩
abbrev cX2_mixInto : ByteArray := prog_4_method_7_code
def yX2_mixInto : MethodName := ⟨RX2, "mixInto", "(J)J"⟩
def RX3 : String := "BranchPredictor$Loop"
def TX3 : u_T := fun k => match k with
  | 0 => ("BranchPredictor$Loop", "place", "I", false)
  | 1 => ("BranchPredictor$Loop", "count", "I", false)
  | 2 => ("BranchPredictor$Loop", "trip", "I", false)
  | _ => ("BranchPredictor$Loop", "trust", "I", false)
def tyX3 : Nat → FieldType := fun k => match k with
  | 0 => .int
  | 1 => .int
  | 2 => .int
  | _ => .int
abbrev wsX30 : List Cond := u_ws RX3 TX3 4
theorem nmX3 : ∀ a, a < 4 → ∀ b, b < 4 → a ≠ b → (TX3 a).2.1 ≠ (TX3 b).2.1 := by decide +kernel
theorem tyX3_ok : ∀ k, k < 4 → parseFieldDescriptor (TX3 k).2.2.1 = some (tyX3 k) := by decide +kernel
abbrev cX3_init : ByteArray := prog_5_method_1_code
def yX3_init : MethodName := ⟨RX3, "<init>", "()V"⟩
abbrev cX3_isFree : ByteArray := prog_5_method_2_code
def yX3_isFree : MethodName := ⟨RX3, "isFree", "()Z"⟩
abbrev cX3_startAnew : ByteArray := prog_5_method_3_code
def yX3_startAnew : MethodName := ⟨RX3, "startAnew", "(I)V"⟩
abbrev cX3_learn : ByteArray := prog_5_method_4_code
def yX3_learn : MethodName := ⟨RX3, "learn", "(Z)V"⟩
abbrev cX3_mixInto : ByteArray := prog_5_method_5_code
def yX3_mixInto : MethodName := ⟨RX3, "mixInto", "(J)J"⟩
def RX4 : String := "BranchPredictor"
def TX4 : u_T := fun k => match k with
  | 0 => ("BranchPredictor", "plainTable", "LBranchPredictor$CounterTable;", true)
  | 1 => ("BranchPredictor", "globalTable", "LBranchPredictor$CounterTable;", true)
  | 2 => ("BranchPredictor", "choiceTable", "LBranchPredictor$CounterTable;", true)
  | 3 => ("BranchPredictor", "plainAudit", "LBranchPredictor$Audit;", true)
  | 4 => ("BranchPredictor", "globalAudit", "LBranchPredictor$Audit;", true)
  | 5 => ("BranchPredictor", "ring", "[LBranchPredictor$Branch;", true)
  | 6 => ("BranchPredictor", "loops", "[LBranchPredictor$Loop;", true)
  | 7 => ("BranchPredictor", "missed", "[J", true)
  | 8 => ("BranchPredictor", "plainBits", "I", false)
  | 9 => ("BranchPredictor", "globalBits", "I", false)
  | 10 => ("BranchPredictor", "historyBits", "I", false)
  | 11 => ("BranchPredictor", "outcomes", "I", false)
  | 12 => ("BranchPredictor", "oldest", "I", false)
  | 13 => ("BranchPredictor", "flying", "I", false)
  | 14 => ("BranchPredictor", "committed", "J", false)
  | _ => ("BranchPredictor", "dropped", "J", false)
def tyX4 : Nat → FieldType := fun k => match k with
  | 0 => .object "BranchPredictor$CounterTable"
  | 1 => .object "BranchPredictor$CounterTable"
  | 2 => .object "BranchPredictor$CounterTable"
  | 3 => .object "BranchPredictor$Audit"
  | 4 => .object "BranchPredictor$Audit"
  | 5 => .array (.object "BranchPredictor$Branch")
  | 6 => .array (.object "BranchPredictor$Loop")
  | 7 => .array .long
  | 8 => .int
  | 9 => .int
  | 10 => .int
  | 11 => .int
  | 12 => .int
  | 13 => .int
  | 14 => .long
  | _ => .long
abbrev wsX40 : List Cond := u_ws RX4 TX4 16
theorem nmX4 : ∀ a, a < 16 → ∀ b, b < 16 → a ≠ b → (TX4 a).2.1 ≠ (TX4 b).2.1 := by decide +kernel
theorem tyX4_ok : ∀ k, k < 16 → parseFieldDescriptor (TX4 k).2.2.1 = some (tyX4 k) := by decide +kernel
abbrev cX4_init : ByteArray := prog_1_method_1_code
def yX4_init : MethodName := ⟨RX4, "<init>", "()V"⟩
abbrev cX4_setSizes : ByteArray := prog_1_method_2_code
def yX4_setSizes : MethodName := ⟨RX4, "setSizes", "(III)Z"⟩
abbrev cX4_predict : ByteArray := prog_1_method_3_code
def yX4_predict : MethodName := ⟨RX4, "predict", "(I)Z"⟩
abbrev cX4_resolve : ByteArray := prog_1_method_4_code
def yX4_resolve : MethodName := ⟨RX4, "resolve", "(IZ)I"⟩
abbrev cX4_commit : ByteArray := prog_1_method_5_code
def yX4_commit : MethodName := ⟨RX4, "commit", "()Z"⟩
abbrev cX4_train : ByteArray := prog_1_method_6_code
def yX4_train : MethodName := ⟨RX4, "train", "(IZ)Z"⟩
abbrev cX4_flush : ByteArray := prog_1_method_7_code
def yX4_flush : MethodName := ⟨RX4, "flush", "(I)I"⟩
abbrev cX4_inFlight : ByteArray := prog_1_method_8_code
def yX4_inFlight : MethodName := ⟨RX4, "inFlight", "()I"⟩
abbrev cX4_place : ByteArray := prog_1_method_9_code
def yX4_place : MethodName := ⟨RX4, "place", "(I)I"⟩
abbrev cX4_state : ByteArray := prog_1_method_10_code
def yX4_state : MethodName := ⟨RX4, "state", "(I)I"⟩
abbrev cX4_predicted : ByteArray := prog_1_method_11_code
def yX4_predicted : MethodName := ⟨RX4, "predicted", "(II)Z"⟩
abbrev cX4_history : ByteArray := prog_1_method_12_code
def yX4_history : MethodName := ⟨RX4, "history", "()I"⟩
abbrev cX4_counter : ByteArray := prog_1_method_13_code
def yX4_counter : MethodName := ⟨RX4, "counter", "(II)I"⟩
abbrev cX4_loop : ByteArray := prog_1_method_14_code
def yX4_loop : MethodName := ⟨RX4, "loop", "(II)I"⟩
abbrev cX4_commits : ByteArray := prog_1_method_15_code
def yX4_commits : MethodName := ⟨RX4, "commits", "()J"⟩
abbrev cX4_misses : ByteArray := prog_1_method_16_code
def yX4_misses : MethodName := ⟨RX4, "misses", "(I)J"⟩
abbrev cX4_drops : ByteArray := prog_1_method_17_code
def yX4_drops : MethodName := ⟨RX4, "drops", "()J"⟩
abbrev cX4_meetings : ByteArray := prog_1_method_18_code
def yX4_meetings : MethodName := ⟨RX4, "meetings", "(IZ)J"⟩
abbrev cX4_accuracy : ByteArray := prog_1_method_19_code
def yX4_accuracy : MethodName := ⟨RX4, "accuracy", "()D"⟩
abbrev cX4_digest : ByteArray := prog_1_method_20_code
def yX4_digest : MethodName := ⟨RX4, "digest", "()J"⟩
abbrev cX4_mix : ByteArray := prog_1_method_21_code
def yX4_mix : MethodName := ⟨RX4, "mix", "(JJ)J"⟩
abbrev cX4_isTableBits : ByteArray := prog_1_method_22_code
def yX4_isTableBits : MethodName := ⟨RX4, "isTableBits", "(I)Z"⟩
abbrev cX4_requirePlace : ByteArray := prog_1_method_23_code
def yX4_requirePlace : MethodName := ⟨RX4, "requirePlace", "(I)V"⟩
abbrev cX4_requireKind : ByteArray := prog_1_method_24_code
def yX4_requireKind : MethodName := ⟨RX4, "requireKind", "(I)V"⟩
abbrev cX4_requireInFlight : ByteArray := prog_1_method_25_code
def yX4_requireInFlight : MethodName := ⟨RX4, "requireInFlight", "(I)V"⟩
abbrev cX4_startAnew : ByteArray := prog_1_method_26_code
def yX4_startAnew : MethodName := ⟨RX4, "startAnew", "(III)V"⟩
abbrev cX4_tableWith : ByteArray := prog_1_method_27_code
def yX4_tableWith : MethodName := ⟨RX4, "tableWith", "(I)LBranchPredictor$CounterTable;"⟩
abbrev cX4_branchAt : ByteArray := prog_1_method_28_code
def yX4_branchAt : MethodName := ⟨RX4, "branchAt", "(I)LBranchPredictor$Branch;"⟩
abbrev cX4_appended : ByteArray := prog_1_method_29_code
def yX4_appended : MethodName := ⟨RX4, "appended", "(IZ)I"⟩
abbrev cX4_launch : ByteArray := prog_1_method_30_code
def yX4_launch : MethodName := ⟨RX4, "launch", "(I)Z"⟩
abbrev cX4_loopPrediction : ByteArray := prog_1_method_31_code
def yX4_loopPrediction : MethodName := ⟨RX4, "loopPrediction", "(IZ)Z"⟩
abbrev cX4_presumedCount : ByteArray := prog_1_method_32_code
def yX4_presumedCount : MethodName := ⟨RX4, "presumedCount", "(LBranchPredictor$Loop;)I"⟩
abbrev cX4_settle : ByteArray := prog_1_method_33_code
def yX4_settle : MethodName := ⟨RX4, "settle", "(IZ)I"⟩
abbrev cX4_dropFrom : ByteArray := prog_1_method_34_code
def yX4_dropFrom : MethodName := ⟨RX4, "dropFrom", "(I)I"⟩
abbrev cX4_retire : ByteArray := prog_1_method_35_code
def yX4_retire : MethodName := ⟨RX4, "retire", "()Z"⟩
abbrev cX4_countMisses : ByteArray := prog_1_method_36_code
def yX4_countMisses : MethodName := ⟨RX4, "countMisses", "(LBranchPredictor$Branch;Z)V"⟩
abbrev cX4_learnChoice : ByteArray := prog_1_method_37_code
def yX4_learnChoice : MethodName := ⟨RX4, "learnChoice", "(LBranchPredictor$Branch;Z)V"⟩
abbrev cX4_learnOutcome : ByteArray := prog_1_method_38_code
def yX4_learnOutcome : MethodName := ⟨RX4, "learnOutcome", "(LBranchPredictor$CounterTable;LBranchPredictor$Audit;IIZ)V"⟩
abbrev cX4_learnLoop : ByteArray := prog_1_method_39_code
def yX4_learnLoop : MethodName := ⟨RX4, "learnLoop", "(LBranchPredictor$Branch;Z)V"⟩
abbrev cX4_loopWith : ByteArray := prog_1_method_40_code
def yX4_loopWith : MethodName := ⟨RX4, "loopWith", "(I)I"⟩
abbrev cX4_numberForNewLoop : ByteArray := prog_1_method_41_code
def yX4_numberForNewLoop : MethodName := ⟨RX4, "numberForNewLoop", "()I"⟩
def RX5 : String := "BranchPredictorModel"
def TX5 : u_T := fun k => match k with
  | 0 => ("BranchPredictorModel", "thrown", "I", false)
  | 1 => ("BranchPredictorModel", "p", "I", false)
  | 2 => ("BranchPredictorModel", "g", "I", false)
  | 3 => ("BranchPredictorModel", "h", "I", false)
  | 4 => ("BranchPredictorModel", "history", "I", false)
  | 5 => ("BranchPredictorModel", "counters", "[I", true)
  | 6 => ("BranchPredictorModel", "latestPlaces", "[I", true)
  | 7 => ("BranchPredictorModel", "flying", "I", false)
  | 8 => ("BranchPredictorModel", "places", "[I", true)
  | 9 => ("BranchPredictorModel", "histories", "[I", true)
  | 10 => ("BranchPredictorModel", "predictions", "[Z", true)
  | 11 => ("BranchPredictorModel", "areResolved", "[Z", true)
  | 12 => ("BranchPredictorModel", "outcomes", "[Z", true)
  | 13 => ("BranchPredictorModel", "isLoop", "[Z", true)
  | 14 => ("BranchPredictorModel", "loopPlaces", "[I", true)
  | 15 => ("BranchPredictorModel", "loopCounts", "[I", true)
  | 16 => ("BranchPredictorModel", "trips", "[I", true)
  | 17 => ("BranchPredictorModel", "trusts", "[I", true)
  | 18 => ("BranchPredictorModel", "commits", "J", false)
  | 19 => ("BranchPredictorModel", "drops", "J", false)
  | 20 => ("BranchPredictorModel", "misses", "[J", true)
  | _ => ("BranchPredictorModel", "meetings", "[J", true)
def tyX5 : Nat → FieldType := fun k => match k with
  | 0 => .int
  | 1 => .int
  | 2 => .int
  | 3 => .int
  | 4 => .int
  | 5 => .array .int
  | 6 => .array .int
  | 7 => .int
  | 8 => .array .int
  | 9 => .array .int
  | 10 => .array .boolean
  | 11 => .array .boolean
  | 12 => .array .boolean
  | 13 => .array .boolean
  | 14 => .array .int
  | 15 => .array .int
  | 16 => .array .int
  | 17 => .array .int
  | 18 => .long
  | 19 => .long
  | 20 => .array .long
  | _ => .array .long
abbrev wsX50 : List Cond := u_ws RX5 TX5 22
theorem nmX5 : ∀ a, a < 22 → ∀ b, b < 22 → a ≠ b → (TX5 a).2.1 ≠ (TX5 b).2.1 := by decide +kernel
theorem tyX5_ok : ∀ k, k < 22 → parseFieldDescriptor (TX5 k).2.2.1 = some (tyX5 k) := by decide +kernel
abbrev cX5_init : ByteArray := prog_7_method_1_code
def yX5_init : MethodName := ⟨RX5, "<init>", "()V"⟩
abbrev cX5_thrown : ByteArray := prog_7_method_2_code
def yX5_thrown : MethodName := ⟨RX5, "thrown", "()I"⟩
abbrev cX5_fail : ByteArray := prog_7_method_3_code
def yX5_fail : MethodName := ⟨RX5, "fail", "(I)I"⟩
abbrev cX5_failed : ByteArray := prog_7_method_4_code
def yX5_failed : MethodName := ⟨RX5, "failed", "(I)Z"⟩
abbrev cX5_begin : ByteArray := prog_7_method_5_code
def yX5_begin : MethodName := ⟨RX5, "begin", "(III)V"⟩
abbrev cX5_setSizes : ByteArray := prog_7_method_6_code
def yX5_setSizes : MethodName := ⟨RX5, "setSizes", "(III)Z"⟩
abbrev cX5_plainIndex : ByteArray := prog_7_method_7_code
def yX5_plainIndex : MethodName := ⟨RX5, "plainIndex", "(I)I"⟩
abbrev cX5_globalIndex : ByteArray := prog_7_method_8_code
def yX5_globalIndex : MethodName := ⟨RX5, "globalIndex", "(II)I"⟩
abbrev cX5_choiceIndex : ByteArray := prog_7_method_9_code
def yX5_choiceIndex : MethodName := ⟨RX5, "choiceIndex", "(I)I"⟩
abbrev cX5_says : ByteArray := prog_7_method_10_code
def yX5_says : MethodName := ⟨RX5, "says", "(I)Z"⟩
abbrev cX5_appended : ByteArray := prog_7_method_11_code
def yX5_appended : MethodName := ⟨RX5, "appended", "(IZ)I"⟩
abbrev cX5_loopOf : ByteArray := prog_7_method_12_code
def yX5_loopOf : MethodName := ⟨RX5, "loopOf", "(I)I"⟩
abbrev cX5_isTaken : ByteArray := prog_7_method_13_code
def yX5_isTaken : MethodName := ⟨RX5, "isTaken", "(I)Z"⟩
abbrev cX5_presumed : ByteArray := prog_7_method_14_code
def yX5_presumed : MethodName := ⟨RX5, "presumed", "(I)I"⟩
abbrev cX5_add : ByteArray := prog_7_method_15_code
def yX5_add : MethodName := ⟨RX5, "add", "(I)Z"⟩
abbrev cX5_predict : ByteArray := prog_7_method_16_code
def yX5_predict : MethodName := ⟨RX5, "predict", "(I)Z"⟩
abbrev cX5_isFlying : ByteArray := prog_7_method_17_code
def yX5_isFlying : MethodName := ⟨RX5, "isFlying", "(I)Z"⟩
abbrev cX5_isWrong : ByteArray := prog_7_method_18_code
def yX5_isWrong : MethodName := ⟨RX5, "isWrong", "(I)Z"⟩
abbrev cX5_settle : ByteArray := prog_7_method_19_code
def yX5_settle : MethodName := ⟨RX5, "settle", "(IZ)I"⟩
abbrev cX5_resolve : ByteArray := prog_7_method_20_code
def yX5_resolve : MethodName := ⟨RX5, "resolve", "(IZ)I"⟩
abbrev cX5_change : ByteArray := prog_7_method_21_code
def yX5_change : MethodName := ⟨RX5, "change", "(IZ)V"⟩
abbrev cX5_audit : ByteArray := prog_7_method_22_code
def yX5_audit : MethodName := ⟨RX5, "audit", "(IIIZ)V"⟩
abbrev cX5_learnLoop : ByteArray := prog_7_method_23_code
def yX5_learnLoop : MethodName := ⟨RX5, "learnLoop", "(IZZ)V"⟩
abbrev cX5_makeLoop : ByteArray := prog_7_method_24_code
def yX5_makeLoop : MethodName := ⟨RX5, "makeLoop", "(I)V"⟩
abbrev cX5_learn : ByteArray := prog_7_method_25_code
def yX5_learn : MethodName := ⟨RX5, "learn", "()Z"⟩
abbrev cX5_commit : ByteArray := prog_7_method_26_code
def yX5_commit : MethodName := ⟨RX5, "commit", "()Z"⟩
abbrev cX5_train : ByteArray := prog_7_method_27_code
def yX5_train : MethodName := ⟨RX5, "train", "(IZ)Z"⟩
abbrev cX5_flush : ByteArray := prog_7_method_28_code
def yX5_flush : MethodName := ⟨RX5, "flush", "(I)I"⟩
abbrev cX5_inFlight : ByteArray := prog_7_method_29_code
def yX5_inFlight : MethodName := ⟨RX5, "inFlight", "()I"⟩
abbrev cX5_place : ByteArray := prog_7_method_30_code
def yX5_place : MethodName := ⟨RX5, "place", "(I)I"⟩
abbrev cX5_stateOf : ByteArray := prog_7_method_31_code
def yX5_stateOf : MethodName := ⟨RX5, "stateOf", "(I)I"⟩
abbrev cX5_state : ByteArray := prog_7_method_32_code
def yX5_state : MethodName := ⟨RX5, "state", "(I)I"⟩
abbrev cX5_isKind : ByteArray := prog_7_method_33_code
def yX5_isKind : MethodName := ⟨RX5, "isKind", "(I)Z"⟩
abbrev cX5_predicted : ByteArray := prog_7_method_34_code
def yX5_predicted : MethodName := ⟨RX5, "predicted", "(II)Z"⟩
abbrev cX5_history : ByteArray := prog_7_method_35_code
def yX5_history : MethodName := ⟨RX5, "history", "()I"⟩
abbrev cX5_sizeOf : ByteArray := prog_7_method_36_code
def yX5_sizeOf : MethodName := ⟨RX5, "sizeOf", "(I)I"⟩
abbrev cX5_counter : ByteArray := prog_7_method_37_code
def yX5_counter : MethodName := ⟨RX5, "counter", "(II)I"⟩
abbrev cX5_ofLoop : ByteArray := prog_7_method_38_code
def yX5_ofLoop : MethodName := ⟨RX5, "ofLoop", "(II)I"⟩
abbrev cX5_loop : ByteArray := prog_7_method_39_code
def yX5_loop : MethodName := ⟨RX5, "loop", "(II)I"⟩
abbrev cX5_commits : ByteArray := prog_7_method_40_code
def yX5_commits : MethodName := ⟨RX5, "commits", "()J"⟩
abbrev cX5_misses : ByteArray := prog_7_method_41_code
def yX5_misses : MethodName := ⟨RX5, "misses", "(I)J"⟩
abbrev cX5_drops : ByteArray := prog_7_method_42_code
def yX5_drops : MethodName := ⟨RX5, "drops", "()J"⟩
abbrev cX5_meetings : ByteArray := prog_7_method_43_code
def yX5_meetings : MethodName := ⟨RX5, "meetings", "(IZ)J"⟩
abbrev cX5_accuracy : ByteArray := prog_7_method_44_code
def yX5_accuracy : MethodName := ⟨RX5, "accuracy", "()D"⟩
abbrev cX5_digest : ByteArray := prog_7_method_45_code
def yX5_digest : MethodName := ⟨RX5, "digest", "()J"⟩
def RJ9 : String := "java/lang/Math"
def TJ9 : u_T := fun k => match k with
  | _ => ("", "", "", false)
def tyJ9 : Nat → FieldType := fun k => match k with
  | _ => .int
abbrev wsJ90 : List Cond := u_ws RJ9 TJ9 0
theorem nmJ9 : ∀ a, a < 0 → ∀ b, b < 0 → a ≠ b → (TJ9 a).2.1 ≠ (TJ9 b).2.1 := by decide +kernel
theorem tyJ9_ok : ∀ k, k < 0 → parseFieldDescriptor (TJ9 k).2.2.1 = some (tyJ9 k) := by decide +kernel
abbrev cJ9_max_7cf53 : ByteArray := prog_12_method_65_code
def yJ9_max_7cf53 : MethodName := ⟨RJ9, "max", "(II)I"⟩
abbrev cJ9_min_7cf53 : ByteArray := prog_12_method_69_code
def yJ9_min_7cf53 : MethodName := ⟨RJ9, "min", "(II)I"⟩
def RJ0 : String := "java/lang/String"
def TJ0 : u_T := fun k => match k with
  | _ => ("", "", "", false)
def tyJ0 : Nat → FieldType := fun k => match k with
  | _ => .int
abbrev wsJ00 : List Cond := u_ws RJ0 TJ0 0
theorem nmJ0 : ∀ a, a < 0 → ∀ b, b < 0 → a ≠ b → (TJ0 a).2.1 ≠ (TJ0 b).2.1 := by decide +kernel
theorem tyJ0_ok : ∀ k, k < 0 → parseFieldDescriptor (TJ0 k).2.2.1 = some (tyJ0 k) := by decide +kernel
def RL : String := "BranchPredictorLaw"
abbrev cL_setSizes : ByteArray := method_3_code
def yL_setSizes : MethodName := ⟨RL, "setSizes", "(LBranchPredictor;III[J)I"⟩
abbrev cL_predict : ByteArray := method_4_code
def yL_predict : MethodName := ⟨RL, "predict", "(LBranchPredictor;I[J)I"⟩
abbrev cL_resolve : ByteArray := method_5_code
def yL_resolve : MethodName := ⟨RL, "resolve", "(LBranchPredictor;IZ[J)I"⟩
abbrev cL_commit : ByteArray := method_6_code
def yL_commit : MethodName := ⟨RL, "commit", "(LBranchPredictor;[J)I"⟩
abbrev cL_train : ByteArray := method_7_code
def yL_train : MethodName := ⟨RL, "train", "(LBranchPredictor;IZ[J)I"⟩
abbrev cL_flush : ByteArray := method_8_code
def yL_flush : MethodName := ⟨RL, "flush", "(LBranchPredictor;I[J)I"⟩
abbrev cL_place : ByteArray := method_9_code
def yL_place : MethodName := ⟨RL, "place", "(LBranchPredictor;I[J)I"⟩
abbrev cL_state : ByteArray := method_10_code
def yL_state : MethodName := ⟨RL, "state", "(LBranchPredictor;I[J)I"⟩
abbrev cL_predicted : ByteArray := method_11_code
def yL_predicted : MethodName := ⟨RL, "predicted", "(LBranchPredictor;II[J)I"⟩
abbrev cL_counter : ByteArray := method_12_code
def yL_counter : MethodName := ⟨RL, "counter", "(LBranchPredictor;II[J)I"⟩
abbrev cL_loop : ByteArray := method_13_code
def yL_loop : MethodName := ⟨RL, "loop", "(LBranchPredictor;II[J)I"⟩
abbrev cL_misses : ByteArray := method_14_code
def yL_misses : MethodName := ⟨RL, "misses", "(LBranchPredictor;I[J)I"⟩
abbrev cL_meetings : ByteArray := method_15_code
def yL_meetings : MethodName := ⟨RL, "meetings", "(LBranchPredictor;IZ[J)I"⟩
abbrev cL_law : ByteArray := code
def yL_law : MethodName := ⟨RL, "law", "([I)Z"⟩
def wsX0_init : List Cond := .code yX0_init cX0_init 1 none :: ([.methodLink RX0 3 objectInit, .instanceMethod objectInit, .code objectInit ⟨#[0xb1]⟩ 1 none, .arrayClass .int, .fieldLink RX0 9 "BranchPredictor$Audit" "latestPlaces" "[I"] ++ wsX00)
def wsX0_startAnew : List Cond := .code yX0_startAnew cX0_startAnew 2 none :: ([.fieldLink RX0 9 "BranchPredictor$Audit" "latestPlaces" "[I", .fieldLink RX0 15 "BranchPredictor$Audit" "allMeetings" "J", .fieldLink RX0 19 "BranchPredictor$Audit" "harmfulMeetings" "J"] ++ wsX00)
def wsX0_note : List Cond := .code yX0_note cX0_note 6 none :: ([.fieldLink RX0 9 "BranchPredictor$Audit" "latestPlaces" "[I", .fieldLink RX0 15 "BranchPredictor$Audit" "allMeetings" "J", .fieldLink RX0 19 "BranchPredictor$Audit" "harmfulMeetings" "J"] ++ wsX00)
def wsX1_init : List Cond := .code yX1_init cX1_init 1 none :: ([.methodLink RX1 3 objectInit, .instanceMethod objectInit, .code objectInit ⟨#[0xb1]⟩ 1 none])
def wsX1_saidTaken : List Cond := .code yX1_saidTaken cX1_saidTaken 2 (some .boolean) :: ([.fieldLink RX1 9 "BranchPredictor$Branch" "isPlainTaken" "Z", .fieldLink RX1 15 "BranchPredictor$Branch" "isGlobalTaken" "Z", .fieldLink RX1 18 "BranchPredictor$Branch" "isChoiceTaken" "Z", .fieldLink RX1 21 "BranchPredictor$Branch" "isPredictedTaken" "Z"] ++ wsX10)
def wsX1_isPresumedTaken : List Cond := .code yX1_isPresumedTaken cX1_isPresumedTaken 1 (some .boolean) :: ([.fieldLink RX1 24 "BranchPredictor$Branch" "state" "I", .fieldLink RX1 21 "BranchPredictor$Branch" "isPredictedTaken" "Z"] ++ wsX10)
def wsX2_init : List Cond := .code yX2_init cX2_init 1 none :: ([.methodLink RX2 3 objectInit, .instanceMethod objectInit, .code objectInit ⟨#[0xb1]⟩ 1 none, .arrayClass .int, .fieldLink RX2 9 "BranchPredictor$CounterTable" "values" "[I", .fieldLink RX2 15 "BranchPredictor$CounterTable" "size" "I"] ++ wsX20)
def wsX2_startAnew : List Cond := .code yX2_startAnew cX2_startAnew 3 none :: ([.fieldLink RX2 15 "BranchPredictor$CounterTable" "size" "I", .fieldLink RX2 9 "BranchPredictor$CounterTable" "values" "[I"] ++ wsX20)
def wsX2_indexFor : List Cond := .code yX2_indexFor cX2_indexFor 2 (some .int) :: ([.fieldLink RX2 15 "BranchPredictor$CounterTable" "size" "I"] ++ wsX20)
def wsX2_valueAt : List Cond := .code yX2_valueAt cX2_valueAt 2 (some .int) :: ([.fieldLink RX2 9 "BranchPredictor$CounterTable" "values" "[I"] ++ wsX20)
def wsX2_saysTaken : List Cond := .code yX2_saysTaken cX2_saysTaken 2 (some .boolean) :: ([.methodLink RX2 19 yX2_valueAt, .instanceMethod yX2_valueAt, .selects RX2 yX2_valueAt yX2_valueAt, .initialized RX2, .code yX2_valueAt cX2_valueAt 2 (some .int), .fieldLink RX2 9 "BranchPredictor$CounterTable" "values" "[I"] ++ wsX20)
def wsX2_move : List Cond := .code yX2_move cX2_move 5 none :: ([.methodLink RX2 23 Lib.Math.min.name, .static Lib.Math.min.name, .initialized "java/lang/Math", .code Lib.Math.min.name Lib.Math.min.code 2 (some .int), .methodLink RX2 29 Lib.Math.max.name, .static Lib.Math.max.name, .code Lib.Math.max.name Lib.Math.max.code 2 (some .int), .fieldLink RX2 9 "BranchPredictor$CounterTable" "values" "[I", .methodLink RX2 19 yX2_valueAt, .instanceMethod yX2_valueAt, .selects RX2 yX2_valueAt yX2_valueAt, .initialized RX2, .code yX2_valueAt cX2_valueAt 2 (some .int)] ++ wsX20)
def wsX4_mix : List Cond := .code yX4_mix cX4_mix 4 (some .long) :: ([.constantLong RX4 197 (31)])
def wsX2_mixInto : List Cond := .code yX2_mixInto cX2_mixInto 6 (some .long) :: ([.fieldLink RX2 15 "BranchPredictor$CounterTable" "size" "I", .fieldLink RX2 9 "BranchPredictor$CounterTable" "values" "[I", .static yX4_mix, .initialized RX4, .code yX4_mix cX4_mix 4 (some .long), .constantLong RX4 197 (31)] ++ wsX20)
def wsX3_init : List Cond := .code yX3_init cX3_init 1 none :: ([.methodLink RX3 3 objectInit, .instanceMethod objectInit, .code objectInit ⟨#[0xb1]⟩ 1 none, .fieldLink RX3 9 "BranchPredictor$Loop" "place" "I"] ++ wsX30)
def wsX3_isFree : List Cond := .code yX3_isFree cX3_isFree 1 (some .boolean) :: ([.fieldLink RX3 9 "BranchPredictor$Loop" "place" "I"] ++ wsX30)
def wsX3_startAnew : List Cond := .code yX3_startAnew cX3_startAnew 2 none :: ([.fieldLink RX3 9 "BranchPredictor$Loop" "place" "I", .fieldLink RX3 15 "BranchPredictor$Loop" "count" "I", .fieldLink RX3 18 "BranchPredictor$Loop" "trip" "I", .fieldLink RX3 21 "BranchPredictor$Loop" "trust" "I"] ++ wsX30)
def wsX3_learn : List Cond := .code yX3_learn cX3_learn 2 none :: ([.fieldLink RX3 15 "BranchPredictor$Loop" "count" "I", .fieldLink RX3 9 "BranchPredictor$Loop" "place" "I", .fieldLink RX3 18 "BranchPredictor$Loop" "trip" "I", .fieldLink RX3 21 "BranchPredictor$Loop" "trust" "I", .methodLink RX3 24 Lib.Math.min.name, .static Lib.Math.min.name, .initialized "java/lang/Math", .code Lib.Math.min.name Lib.Math.min.code 2 (some .int)] ++ wsX30)
def wsX3_mixInto : List Cond := .code yX3_mixInto cX3_mixInto 6 (some .long) :: ([.constantLong RX3 34 (-1), .fieldLink RX3 9 "BranchPredictor$Loop" "place" "I", .fieldLink RX3 15 "BranchPredictor$Loop" "count" "I", .fieldLink RX3 18 "BranchPredictor$Loop" "trip" "I", .fieldLink RX3 21 "BranchPredictor$Loop" "trust" "I", .methodLink RX3 30 yX3_isFree, .instanceMethod yX3_isFree, .selects RX3 yX3_isFree yX3_isFree, .initialized RX3, .code yX3_isFree cX3_isFree 1 (some .boolean), .static yX4_mix, .initialized RX4, .code yX4_mix cX4_mix 4 (some .long), .constantLong RX4 197 (31)] ++ wsX30)
def wsX4_startAnew_r1 : List Cond := [Cond.fieldLink RX4 48 "BranchPredictor" "plainBits" "I", Cond.fieldLink RX4 52 "BranchPredictor" "globalBits" "I", Cond.fieldLink RX4 55 "BranchPredictor" "historyBits" "I", Cond.fieldLink RX4 12 "BranchPredictor" "plainTable" "LBranchPredictor$CounterTable;", Cond.fieldLink RX4 16 "BranchPredictor" "globalTable" "LBranchPredictor$CounterTable;", Cond.fieldLink RX4 19 "BranchPredictor" "choiceTable" "LBranchPredictor$CounterTable;", Cond.fieldLink RX4 25 "BranchPredictor" "plainAudit" "LBranchPredictor$Audit;", Cond.fieldLink RX4 29 "BranchPredictor" "globalAudit" "LBranchPredictor$Audit;", Cond.fieldLink RX4 40 "BranchPredictor" "loops" "[LBranchPredictor$Loop;", Cond.fieldLink RX4 157 "BranchPredictor$Loop" "place" "I", Cond.fieldLink RX4 44 "BranchPredictor" "missed" "[J", Cond.fieldLink RX4 119 "BranchPredictor" "outcomes" "I", Cond.fieldLink RX4 210 "BranchPredictor" "oldest" "I", Cond.fieldLink RX4 79 "BranchPredictor" "flying" "I", Cond.fieldLink RX4 171 "BranchPredictor" "committed" "J", Cond.fieldLink RX4 175 "BranchPredictor" "dropped" "J", Cond.methodLink RX4 206 yX2_startAnew, Cond.instanceMethod yX2_startAnew, Cond.selects RX2 yX2_startAnew yX2_startAnew, Cond.initialized RX2, Cond.code yX2_startAnew cX2_startAnew 3 none, Cond.fieldLink RX2 15 "BranchPredictor$CounterTable" "size" "I", Cond.fieldLink RX2 9 "BranchPredictor$CounterTable" "values" "[I", Cond.methodLink RX4 208 yX0_startAnew]
def wsX4_startAnew_r2 : List Cond := [Cond.instanceMethod yX0_startAnew, Cond.selects RX0 yX0_startAnew yX0_startAnew, Cond.initialized RX0, Cond.code yX0_startAnew cX0_startAnew 2 none, Cond.fieldLink RX0 9 "BranchPredictor$Audit" "latestPlaces" "[I", Cond.fieldLink RX0 15 "BranchPredictor$Audit" "allMeetings" "J", Cond.fieldLink RX0 19 "BranchPredictor$Audit" "harmfulMeetings" "J"]
def wsX4_startAnew : List Cond := .code yX4_startAnew cX4_startAnew 5 none :: ((wsX4_startAnew_r1 ++ wsX4_startAnew_r2) ++ wsX40 ++ wsX30 ++ wsX20 ++ wsX00)
def wsX4_init_r1 : List Cond := [Cond.methodLink RX4 3 objectInit, Cond.instanceMethod objectInit, Cond.code objectInit ⟨#[0xb1]⟩ 1 none, Cond.classLink RX4 9 RX2, Cond.instantiable RX2 2, Cond.initialized RX2, Cond.fieldLink RX4 12 "BranchPredictor" "plainTable" "LBranchPredictor$CounterTable;", Cond.fieldLink RX4 16 "BranchPredictor" "globalTable" "LBranchPredictor$CounterTable;", Cond.fieldLink RX4 19 "BranchPredictor" "choiceTable" "LBranchPredictor$CounterTable;", Cond.classLink RX4 22 RX0, Cond.instantiable RX0 3, Cond.initialized RX0, Cond.fieldLink RX4 25 "BranchPredictor" "plainAudit" "LBranchPredictor$Audit;", Cond.fieldLink RX4 29 "BranchPredictor" "globalAudit" "LBranchPredictor$Audit;", Cond.classLink RX4 32 RX1, Cond.fieldLink RX4 34 "BranchPredictor" "ring" "[LBranchPredictor$Branch;", Cond.classLink RX4 38 RX3, Cond.fieldLink RX4 40 "BranchPredictor" "loops" "[LBranchPredictor$Loop;", Cond.arrayClass .long, Cond.fieldLink RX4 44 "BranchPredictor" "missed" "[J", Cond.fieldLink RX4 48 "BranchPredictor" "plainBits" "I", Cond.fieldLink RX4 52 "BranchPredictor" "globalBits" "I", Cond.fieldLink RX4 55 "BranchPredictor" "historyBits" "I", Cond.instantiable RX1 9]
def wsX4_init_r2 : List Cond := [Cond.initialized RX1, Cond.instantiable RX3 4, Cond.initialized RX3, Cond.instanceMethod yX2_init, Cond.code yX2_init cX2_init 1 none, Cond.methodLink RX2 3 objectInit, Cond.arrayClass .int, Cond.fieldLink RX2 9 "BranchPredictor$CounterTable" "values" "[I", Cond.fieldLink RX2 15 "BranchPredictor$CounterTable" "size" "I", Cond.instanceMethod yX0_init, Cond.code yX0_init cX0_init 1 none, Cond.methodLink RX0 3 objectInit, Cond.fieldLink RX0 9 "BranchPredictor$Audit" "latestPlaces" "[I", Cond.instanceMethod yX1_init, Cond.code yX1_init cX1_init 1 none, Cond.methodLink RX1 3 objectInit, Cond.instanceMethod yX3_init, Cond.code yX3_init cX3_init 1 none, Cond.methodLink RX3 3 objectInit, Cond.fieldLink RX3 9 "BranchPredictor$Loop" "place" "I", Cond.methodLink RX4 60 yX4_startAnew, Cond.instanceMethod yX4_startAnew, Cond.selects RX4 yX4_startAnew yX4_startAnew, Cond.initialized RX4]
def wsX4_init_r3 : List Cond := [Cond.code yX4_startAnew cX4_startAnew 5 none, Cond.fieldLink RX4 157 "BranchPredictor$Loop" "place" "I", Cond.fieldLink RX4 119 "BranchPredictor" "outcomes" "I", Cond.fieldLink RX4 210 "BranchPredictor" "oldest" "I", Cond.fieldLink RX4 79 "BranchPredictor" "flying" "I", Cond.fieldLink RX4 171 "BranchPredictor" "committed" "J", Cond.fieldLink RX4 175 "BranchPredictor" "dropped" "J", Cond.methodLink RX4 206 yX2_startAnew, Cond.instanceMethod yX2_startAnew, Cond.selects RX2 yX2_startAnew yX2_startAnew, Cond.code yX2_startAnew cX2_startAnew 3 none, Cond.methodLink RX4 208 yX0_startAnew, Cond.instanceMethod yX0_startAnew, Cond.selects RX0 yX0_startAnew yX0_startAnew, Cond.code yX0_startAnew cX0_startAnew 2 none, Cond.fieldLink RX0 15 "BranchPredictor$Audit" "allMeetings" "J", Cond.fieldLink RX0 19 "BranchPredictor$Audit" "harmfulMeetings" "J"]
def wsX4_init : List Cond := .code yX4_init cX4_init 2 none :: ((wsX4_init_r1 ++ (wsX4_init_r2 ++ wsX4_init_r3)) ++ wsX20 ++ wsX40 ++ wsX00 ++ wsX10 ++ wsX30)
def wsX4_isTableBits : List Cond := .code yX4_isTableBits cX4_isTableBits 1 (some .boolean) :: ([])
def wsX4_setSizes_r1 : List Cond := [Cond.classLink RX4 68 "java/lang/IllegalArgumentException", Cond.initialized "java/lang/IllegalArgumentException", Cond.fieldLink RX4 48 "BranchPredictor" "plainBits" "I", Cond.fieldLink RX4 52 "BranchPredictor" "globalBits" "I", Cond.fieldLink RX4 55 "BranchPredictor" "historyBits" "I", Cond.methodLink RX4 64 yX4_isTableBits, Cond.static yX4_isTableBits, Cond.initialized RX4, Cond.code yX4_isTableBits cX4_isTableBits 1 (some .boolean), Cond.methodLink RX4 60 yX4_startAnew, Cond.instanceMethod yX4_startAnew, Cond.selects RX4 yX4_startAnew yX4_startAnew, Cond.code yX4_startAnew cX4_startAnew 5 none, Cond.fieldLink RX4 12 "BranchPredictor" "plainTable" "LBranchPredictor$CounterTable;", Cond.fieldLink RX4 16 "BranchPredictor" "globalTable" "LBranchPredictor$CounterTable;", Cond.fieldLink RX4 19 "BranchPredictor" "choiceTable" "LBranchPredictor$CounterTable;", Cond.fieldLink RX4 25 "BranchPredictor" "plainAudit" "LBranchPredictor$Audit;", Cond.fieldLink RX4 29 "BranchPredictor" "globalAudit" "LBranchPredictor$Audit;", Cond.fieldLink RX4 40 "BranchPredictor" "loops" "[LBranchPredictor$Loop;", Cond.fieldLink RX4 157 "BranchPredictor$Loop" "place" "I", Cond.fieldLink RX4 44 "BranchPredictor" "missed" "[J", Cond.fieldLink RX4 119 "BranchPredictor" "outcomes" "I", Cond.fieldLink RX4 210 "BranchPredictor" "oldest" "I", Cond.fieldLink RX4 79 "BranchPredictor" "flying" "I"]
def wsX4_setSizes_r2 : List Cond := [Cond.fieldLink RX4 171 "BranchPredictor" "committed" "J", Cond.fieldLink RX4 175 "BranchPredictor" "dropped" "J", Cond.methodLink RX4 206 yX2_startAnew, Cond.instanceMethod yX2_startAnew, Cond.selects RX2 yX2_startAnew yX2_startAnew, Cond.initialized RX2, Cond.code yX2_startAnew cX2_startAnew 3 none, Cond.fieldLink RX2 15 "BranchPredictor$CounterTable" "size" "I", Cond.fieldLink RX2 9 "BranchPredictor$CounterTable" "values" "[I", Cond.methodLink RX4 208 yX0_startAnew, Cond.instanceMethod yX0_startAnew, Cond.selects RX0 yX0_startAnew yX0_startAnew, Cond.initialized RX0, Cond.code yX0_startAnew cX0_startAnew 2 none, Cond.fieldLink RX0 9 "BranchPredictor$Audit" "latestPlaces" "[I", Cond.fieldLink RX0 15 "BranchPredictor$Audit" "allMeetings" "J", Cond.fieldLink RX0 19 "BranchPredictor$Audit" "harmfulMeetings" "J"]
def wsX4_setSizes : List Cond := .code yX4_setSizes cX4_setSizes 5 (some .boolean) :: ((wsX4_setSizes_r1 ++ wsX4_setSizes_r2) ++ wsX40 ++ wsX30 ++ wsX20 ++ wsX00 ++ (vx_atS RX4 72 "java/lang/IllegalArgumentException" ["java/lang/RuntimeException", "java/lang/Exception"]).filter goodWord)
def wsX4_requirePlace : List Cond := .code yX4_requirePlace cX4_requirePlace 1 none :: ([.classLink RX4 68 "java/lang/IllegalArgumentException", .initialized "java/lang/IllegalArgumentException", .constant RX4 199 (65535)] ++ (vx_atS RX4 72 "java/lang/IllegalArgumentException" ["java/lang/RuntimeException", "java/lang/Exception"]).filter goodWord)
def wsX4_branchAt : List Cond := .code yX4_branchAt cX4_branchAt 2 (some (.object "BranchPredictor$Branch")) :: ([.fieldLink RX4 34 "BranchPredictor" "ring" "[LBranchPredictor$Branch;", .fieldLink RX4 210 "BranchPredictor" "oldest" "I"] ++ wsX40)
def wsX4_loopWith : List Cond := .code yX4_loopWith cX4_loopWith 3 (some .int) :: ([.fieldLink RX4 40 "BranchPredictor" "loops" "[LBranchPredictor$Loop;", .fieldLink RX4 157 "BranchPredictor$Loop" "place" "I"] ++ wsX40 ++ wsX30)
def wsX4_presumedCount : List Cond := .code yX4_presumedCount cX4_presumedCount 5 (some .int) :: ([.fieldLink RX4 158 "BranchPredictor$Loop" "count" "I", .fieldLink RX4 79 "BranchPredictor" "flying" "I", .fieldLink RX4 126 "BranchPredictor$Branch" "place" "I", .fieldLink RX4 157 "BranchPredictor$Loop" "place" "I", .methodLink RX4 93 yX4_branchAt, .instanceMethod yX4_branchAt, .selects RX4 yX4_branchAt yX4_branchAt, .initialized RX4, .code yX4_branchAt cX4_branchAt 2 (some (.object "BranchPredictor$Branch")), .fieldLink RX4 34 "BranchPredictor" "ring" "[LBranchPredictor$Branch;", .fieldLink RX4 210 "BranchPredictor" "oldest" "I", .methodLink RX4 248 yX1_isPresumedTaken, .instanceMethod yX1_isPresumedTaken, .selects RX1 yX1_isPresumedTaken yX1_isPresumedTaken, .initialized RX1, .code yX1_isPresumedTaken cX1_isPresumedTaken 1 (some .boolean), .fieldLink RX1 24 "BranchPredictor$Branch" "state" "I", .fieldLink RX1 21 "BranchPredictor$Branch" "isPredictedTaken" "Z"] ++ wsX30 ++ wsX40 ++ wsX10)
def wsX4_loopPrediction_r1 : List Cond := [Cond.fieldLink RX4 40 "BranchPredictor" "loops" "[LBranchPredictor$Loop;", Cond.fieldLink RX4 164 "BranchPredictor$Loop" "trust" "I", Cond.fieldLink RX4 161 "BranchPredictor$Loop" "trip" "I", Cond.methodLink RX4 245 yX4_loopWith, Cond.instanceMethod yX4_loopWith, Cond.selects RX4 yX4_loopWith yX4_loopWith, Cond.initialized RX4, Cond.code yX4_loopWith cX4_loopWith 3 (some .int), Cond.fieldLink RX4 157 "BranchPredictor$Loop" "place" "I", Cond.methodLink RX4 167 yX4_presumedCount, Cond.instanceMethod yX4_presumedCount, Cond.selects RX4 yX4_presumedCount yX4_presumedCount, Cond.code yX4_presumedCount cX4_presumedCount 5 (some .int), Cond.fieldLink RX4 158 "BranchPredictor$Loop" "count" "I", Cond.fieldLink RX4 79 "BranchPredictor" "flying" "I", Cond.fieldLink RX4 126 "BranchPredictor$Branch" "place" "I", Cond.methodLink RX4 93 yX4_branchAt, Cond.instanceMethod yX4_branchAt, Cond.selects RX4 yX4_branchAt yX4_branchAt, Cond.code yX4_branchAt cX4_branchAt 2 (some (.object "BranchPredictor$Branch")), Cond.fieldLink RX4 34 "BranchPredictor" "ring" "[LBranchPredictor$Branch;", Cond.fieldLink RX4 210 "BranchPredictor" "oldest" "I", Cond.methodLink RX4 248 yX1_isPresumedTaken, Cond.instanceMethod yX1_isPresumedTaken]
def wsX4_loopPrediction_r2 : List Cond := [Cond.selects RX1 yX1_isPresumedTaken yX1_isPresumedTaken, Cond.initialized RX1, Cond.code yX1_isPresumedTaken cX1_isPresumedTaken 1 (some .boolean), Cond.fieldLink RX1 24 "BranchPredictor$Branch" "state" "I", Cond.fieldLink RX1 21 "BranchPredictor$Branch" "isPredictedTaken" "Z"]
def wsX4_loopPrediction : List Cond := .code yX4_loopPrediction cX4_loopPrediction 4 (some .boolean) :: ((wsX4_loopPrediction_r1 ++ wsX4_loopPrediction_r2) ++ wsX40 ++ wsX30 ++ wsX10)
def wsX4_appended : List Cond := .code yX4_appended cX4_appended 4 (some .int) :: ([.fieldLink RX4 55 "BranchPredictor" "historyBits" "I"] ++ wsX40)
def wsX4_launch_r1 : List Cond := [Cond.fieldLink RX4 79 "BranchPredictor" "flying" "I", Cond.fieldLink RX4 126 "BranchPredictor$Branch" "place" "I", Cond.fieldLink RX4 97 "BranchPredictor$Branch" "state" "I", Cond.fieldLink RX4 119 "BranchPredictor" "outcomes" "I", Cond.fieldLink RX4 116 "BranchPredictor$Branch" "historyAhead" "I", Cond.fieldLink RX4 12 "BranchPredictor" "plainTable" "LBranchPredictor$CounterTable;", Cond.fieldLink RX4 216 "BranchPredictor$Branch" "plainIndex" "I", Cond.fieldLink RX4 16 "BranchPredictor" "globalTable" "LBranchPredictor$CounterTable;", Cond.fieldLink RX4 219 "BranchPredictor$Branch" "globalIndex" "I", Cond.fieldLink RX4 225 "BranchPredictor$Branch" "isPlainTaken" "Z", Cond.fieldLink RX4 229 "BranchPredictor$Branch" "isGlobalTaken" "Z", Cond.fieldLink RX4 19 "BranchPredictor" "choiceTable" "LBranchPredictor$CounterTable;", Cond.fieldLink RX4 232 "BranchPredictor$Branch" "isChoiceTaken" "Z", Cond.fieldLink RX4 239 "BranchPredictor$Branch" "isPredictedTaken" "Z", Cond.methodLink RX4 93 yX4_branchAt, Cond.instanceMethod yX4_branchAt, Cond.selects RX4 yX4_branchAt yX4_branchAt, Cond.initialized RX4, Cond.code yX4_branchAt cX4_branchAt 2 (some (.object "BranchPredictor$Branch")), Cond.fieldLink RX4 34 "BranchPredictor" "ring" "[LBranchPredictor$Branch;", Cond.fieldLink RX4 210 "BranchPredictor" "oldest" "I", Cond.methodLink RX4 213 yX2_indexFor, Cond.instanceMethod yX2_indexFor, Cond.selects RX2 yX2_indexFor yX2_indexFor]
def wsX4_launch_r2 : List Cond := [Cond.initialized RX2, Cond.code yX2_indexFor cX2_indexFor 2 (some .int), Cond.fieldLink RX2 15 "BranchPredictor$CounterTable" "size" "I", Cond.methodLink RX4 222 yX2_saysTaken, Cond.instanceMethod yX2_saysTaken, Cond.selects RX2 yX2_saysTaken yX2_saysTaken, Cond.code yX2_saysTaken cX2_saysTaken 2 (some .boolean), Cond.methodLink RX2 19 yX2_valueAt, Cond.instanceMethod yX2_valueAt, Cond.selects RX2 yX2_valueAt yX2_valueAt, Cond.code yX2_valueAt cX2_valueAt 2 (some .int), Cond.fieldLink RX2 9 "BranchPredictor$CounterTable" "values" "[I", Cond.methodLink RX4 235 yX4_loopPrediction, Cond.instanceMethod yX4_loopPrediction, Cond.selects RX4 yX4_loopPrediction yX4_loopPrediction, Cond.code yX4_loopPrediction cX4_loopPrediction 4 (some .boolean), Cond.fieldLink RX4 40 "BranchPredictor" "loops" "[LBranchPredictor$Loop;", Cond.fieldLink RX4 164 "BranchPredictor$Loop" "trust" "I", Cond.fieldLink RX4 161 "BranchPredictor$Loop" "trip" "I", Cond.methodLink RX4 245 yX4_loopWith, Cond.instanceMethod yX4_loopWith, Cond.selects RX4 yX4_loopWith yX4_loopWith, Cond.code yX4_loopWith cX4_loopWith 3 (some .int), Cond.fieldLink RX4 157 "BranchPredictor$Loop" "place" "I"]
def wsX4_launch_r3 : List Cond := [Cond.methodLink RX4 167 yX4_presumedCount, Cond.instanceMethod yX4_presumedCount, Cond.selects RX4 yX4_presumedCount yX4_presumedCount, Cond.code yX4_presumedCount cX4_presumedCount 5 (some .int), Cond.fieldLink RX4 158 "BranchPredictor$Loop" "count" "I", Cond.methodLink RX4 248 yX1_isPresumedTaken, Cond.instanceMethod yX1_isPresumedTaken, Cond.selects RX1 yX1_isPresumedTaken yX1_isPresumedTaken, Cond.initialized RX1, Cond.code yX1_isPresumedTaken cX1_isPresumedTaken 1 (some .boolean), Cond.fieldLink RX1 24 "BranchPredictor$Branch" "state" "I", Cond.fieldLink RX1 21 "BranchPredictor$Branch" "isPredictedTaken" "Z", Cond.methodLink RX4 242 yX4_appended, Cond.instanceMethod yX4_appended, Cond.selects RX4 yX4_appended yX4_appended, Cond.code yX4_appended cX4_appended 4 (some .int), Cond.fieldLink RX4 55 "BranchPredictor" "historyBits" "I"]
def wsX4_launch : List Cond := .code yX4_launch cX4_launch 3 (some .boolean) :: ((wsX4_launch_r1 ++ (wsX4_launch_r2 ++ wsX4_launch_r3)) ++ wsX40 ++ wsX10 ++ wsX20 ++ wsX30)
def wsX4_predict_r1 : List Cond := [Cond.classLink RX4 82 "java/lang/IllegalStateException", Cond.initialized "java/lang/IllegalStateException", Cond.fieldLink RX4 79 "BranchPredictor" "flying" "I", Cond.methodLink RX4 75 yX4_requirePlace, Cond.static yX4_requirePlace, Cond.initialized RX4, Cond.code yX4_requirePlace cX4_requirePlace 1 none, Cond.classLink RX4 68 "java/lang/IllegalArgumentException", Cond.initialized "java/lang/IllegalArgumentException", Cond.constant RX4 199 (65535), Cond.methodLink RX4 87 yX4_launch, Cond.instanceMethod yX4_launch, Cond.selects RX4 yX4_launch yX4_launch, Cond.code yX4_launch cX4_launch 3 (some .boolean), Cond.fieldLink RX4 126 "BranchPredictor$Branch" "place" "I", Cond.fieldLink RX4 97 "BranchPredictor$Branch" "state" "I", Cond.fieldLink RX4 119 "BranchPredictor" "outcomes" "I", Cond.fieldLink RX4 116 "BranchPredictor$Branch" "historyAhead" "I", Cond.fieldLink RX4 12 "BranchPredictor" "plainTable" "LBranchPredictor$CounterTable;", Cond.fieldLink RX4 216 "BranchPredictor$Branch" "plainIndex" "I", Cond.fieldLink RX4 16 "BranchPredictor" "globalTable" "LBranchPredictor$CounterTable;", Cond.fieldLink RX4 219 "BranchPredictor$Branch" "globalIndex" "I", Cond.fieldLink RX4 225 "BranchPredictor$Branch" "isPlainTaken" "Z", Cond.fieldLink RX4 229 "BranchPredictor$Branch" "isGlobalTaken" "Z"]
def wsX4_predict_r2 : List Cond := [Cond.fieldLink RX4 19 "BranchPredictor" "choiceTable" "LBranchPredictor$CounterTable;", Cond.fieldLink RX4 232 "BranchPredictor$Branch" "isChoiceTaken" "Z", Cond.fieldLink RX4 239 "BranchPredictor$Branch" "isPredictedTaken" "Z", Cond.methodLink RX4 93 yX4_branchAt, Cond.instanceMethod yX4_branchAt, Cond.selects RX4 yX4_branchAt yX4_branchAt, Cond.code yX4_branchAt cX4_branchAt 2 (some (.object "BranchPredictor$Branch")), Cond.fieldLink RX4 34 "BranchPredictor" "ring" "[LBranchPredictor$Branch;", Cond.fieldLink RX4 210 "BranchPredictor" "oldest" "I", Cond.methodLink RX4 213 yX2_indexFor, Cond.instanceMethod yX2_indexFor, Cond.selects RX2 yX2_indexFor yX2_indexFor, Cond.initialized RX2, Cond.code yX2_indexFor cX2_indexFor 2 (some .int), Cond.fieldLink RX2 15 "BranchPredictor$CounterTable" "size" "I", Cond.methodLink RX4 222 yX2_saysTaken, Cond.instanceMethod yX2_saysTaken, Cond.selects RX2 yX2_saysTaken yX2_saysTaken, Cond.code yX2_saysTaken cX2_saysTaken 2 (some .boolean), Cond.methodLink RX2 19 yX2_valueAt, Cond.instanceMethod yX2_valueAt, Cond.selects RX2 yX2_valueAt yX2_valueAt, Cond.code yX2_valueAt cX2_valueAt 2 (some .int), Cond.fieldLink RX2 9 "BranchPredictor$CounterTable" "values" "[I"]
def wsX4_predict_r3 : List Cond := [Cond.methodLink RX4 235 yX4_loopPrediction, Cond.instanceMethod yX4_loopPrediction, Cond.selects RX4 yX4_loopPrediction yX4_loopPrediction, Cond.code yX4_loopPrediction cX4_loopPrediction 4 (some .boolean), Cond.fieldLink RX4 40 "BranchPredictor" "loops" "[LBranchPredictor$Loop;", Cond.fieldLink RX4 164 "BranchPredictor$Loop" "trust" "I", Cond.fieldLink RX4 161 "BranchPredictor$Loop" "trip" "I", Cond.methodLink RX4 245 yX4_loopWith, Cond.instanceMethod yX4_loopWith, Cond.selects RX4 yX4_loopWith yX4_loopWith, Cond.code yX4_loopWith cX4_loopWith 3 (some .int), Cond.fieldLink RX4 157 "BranchPredictor$Loop" "place" "I", Cond.methodLink RX4 167 yX4_presumedCount, Cond.instanceMethod yX4_presumedCount, Cond.selects RX4 yX4_presumedCount yX4_presumedCount, Cond.code yX4_presumedCount cX4_presumedCount 5 (some .int), Cond.fieldLink RX4 158 "BranchPredictor$Loop" "count" "I", Cond.methodLink RX4 248 yX1_isPresumedTaken, Cond.instanceMethod yX1_isPresumedTaken, Cond.selects RX1 yX1_isPresumedTaken yX1_isPresumedTaken, Cond.initialized RX1, Cond.code yX1_isPresumedTaken cX1_isPresumedTaken 1 (some .boolean), Cond.fieldLink RX1 24 "BranchPredictor$Branch" "state" "I", Cond.fieldLink RX1 21 "BranchPredictor$Branch" "isPredictedTaken" "Z"]
def wsX4_predict_r4 : List Cond := [Cond.methodLink RX4 242 yX4_appended, Cond.instanceMethod yX4_appended, Cond.selects RX4 yX4_appended yX4_appended, Cond.code yX4_appended cX4_appended 4 (some .int), Cond.fieldLink RX4 55 "BranchPredictor" "historyBits" "I"]
def wsX4_predict : List Cond := .code yX4_predict cX4_predict 2 (some .boolean) :: ((wsX4_predict_r1 ++ (wsX4_predict_r2 ++ (wsX4_predict_r3 ++ wsX4_predict_r4))) ++ wsX40 ++ wsX10 ++ wsX20 ++ wsX30 ++ (vx_atS RX4 86 "java/lang/IllegalStateException" ["java/lang/RuntimeException", "java/lang/Exception"]).filter goodWord ++ (vx_atS RX4 72 "java/lang/IllegalArgumentException" ["java/lang/RuntimeException", "java/lang/Exception"]).filter goodWord)
def wsX4_requireInFlight : List Cond := .code yX4_requireInFlight cX4_requireInFlight 2 none :: ([.classLink RX4 135 "java/lang/IndexOutOfBoundsException", .initialized "java/lang/IndexOutOfBoundsException", .fieldLink RX4 79 "BranchPredictor" "flying" "I"] ++ wsX40 ++ (vx_atS RX4 139 "java/lang/IndexOutOfBoundsException" ["java/lang/RuntimeException", "java/lang/Exception"]).filter goodWord)
def wsX4_dropFrom : List Cond := .code yX4_dropFrom cX4_dropFrom 3 (some .int) :: ([.fieldLink RX4 79 "BranchPredictor" "flying" "I", .fieldLink RX4 175 "BranchPredictor" "dropped" "J"] ++ wsX40)
def wsX4_settle : List Cond := .code yX4_settle cX4_settle 4 (some .int) :: ([.fieldLink RX4 239 "BranchPredictor$Branch" "isPredictedTaken" "Z", .fieldLink RX4 97 "BranchPredictor$Branch" "state" "I", .fieldLink RX4 116 "BranchPredictor$Branch" "historyAhead" "I", .fieldLink RX4 119 "BranchPredictor" "outcomes" "I", .methodLink RX4 93 yX4_branchAt, .instanceMethod yX4_branchAt, .selects RX4 yX4_branchAt yX4_branchAt, .initialized RX4, .code yX4_branchAt cX4_branchAt 2 (some (.object "BranchPredictor$Branch")), .fieldLink RX4 34 "BranchPredictor" "ring" "[LBranchPredictor$Branch;", .fieldLink RX4 210 "BranchPredictor" "oldest" "I", .methodLink RX4 242 yX4_appended, .instanceMethod yX4_appended, .selects RX4 yX4_appended yX4_appended, .code yX4_appended cX4_appended 4 (some .int), .fieldLink RX4 55 "BranchPredictor" "historyBits" "I", .methodLink RX4 122 yX4_dropFrom, .instanceMethod yX4_dropFrom, .selects RX4 yX4_dropFrom yX4_dropFrom, .code yX4_dropFrom cX4_dropFrom 3 (some .int), .fieldLink RX4 79 "BranchPredictor" "flying" "I", .fieldLink RX4 175 "BranchPredictor" "dropped" "J"] ++ wsX10 ++ wsX40)
def wsX4_resolve_r1 : List Cond := [Cond.classLink RX4 82 "java/lang/IllegalStateException", Cond.initialized "java/lang/IllegalStateException", Cond.fieldLink RX4 97 "BranchPredictor$Branch" "state" "I", Cond.methodLink RX4 90 yX4_requireInFlight, Cond.instanceMethod yX4_requireInFlight, Cond.selects RX4 yX4_requireInFlight yX4_requireInFlight, Cond.initialized RX4, Cond.code yX4_requireInFlight cX4_requireInFlight 2 none, Cond.classLink RX4 135 "java/lang/IndexOutOfBoundsException", Cond.initialized "java/lang/IndexOutOfBoundsException", Cond.fieldLink RX4 79 "BranchPredictor" "flying" "I", Cond.methodLink RX4 93 yX4_branchAt, Cond.instanceMethod yX4_branchAt, Cond.selects RX4 yX4_branchAt yX4_branchAt, Cond.code yX4_branchAt cX4_branchAt 2 (some (.object "BranchPredictor$Branch")), Cond.fieldLink RX4 34 "BranchPredictor" "ring" "[LBranchPredictor$Branch;", Cond.fieldLink RX4 210 "BranchPredictor" "oldest" "I", Cond.methodLink RX4 102 yX4_settle, Cond.instanceMethod yX4_settle, Cond.selects RX4 yX4_settle yX4_settle, Cond.code yX4_settle cX4_settle 4 (some .int), Cond.fieldLink RX4 239 "BranchPredictor$Branch" "isPredictedTaken" "Z", Cond.fieldLink RX4 116 "BranchPredictor$Branch" "historyAhead" "I", Cond.fieldLink RX4 119 "BranchPredictor" "outcomes" "I"]
def wsX4_resolve_r2 : List Cond := [Cond.methodLink RX4 242 yX4_appended, Cond.instanceMethod yX4_appended, Cond.selects RX4 yX4_appended yX4_appended, Cond.code yX4_appended cX4_appended 4 (some .int), Cond.fieldLink RX4 55 "BranchPredictor" "historyBits" "I", Cond.methodLink RX4 122 yX4_dropFrom, Cond.instanceMethod yX4_dropFrom, Cond.selects RX4 yX4_dropFrom yX4_dropFrom, Cond.code yX4_dropFrom cX4_dropFrom 3 (some .int), Cond.fieldLink RX4 175 "BranchPredictor" "dropped" "J"]
def wsX4_resolve : List Cond := .code yX4_resolve cX4_resolve 3 (some .int) :: ((wsX4_resolve_r1 ++ wsX4_resolve_r2) ++ wsX10 ++ wsX40 ++ (vx_atS RX4 86 "java/lang/IllegalStateException" ["java/lang/RuntimeException", "java/lang/Exception"]).filter goodWord ++ (vx_atS RX4 139 "java/lang/IndexOutOfBoundsException" ["java/lang/RuntimeException", "java/lang/Exception"]).filter goodWord)
def wsX4_countMisses : List Cond := .code yX4_countMisses cX4_countMisses 4 none :: ([.fieldLink RX4 44 "BranchPredictor" "missed" "[J", .methodLink RX4 132 yX1_saidTaken, .instanceMethod yX1_saidTaken, .selects RX1 yX1_saidTaken yX1_saidTaken, .initialized RX1, .code yX1_saidTaken cX1_saidTaken 2 (some .boolean), .fieldLink RX1 9 "BranchPredictor$Branch" "isPlainTaken" "Z", .fieldLink RX1 15 "BranchPredictor$Branch" "isGlobalTaken" "Z", .fieldLink RX1 18 "BranchPredictor$Branch" "isChoiceTaken" "Z", .fieldLink RX1 21 "BranchPredictor$Branch" "isPredictedTaken" "Z"] ++ wsX40 ++ wsX10)
def wsX4_learnChoice : List Cond := .code yX4_learnChoice cX4_learnChoice 3 none :: ([.fieldLink RX4 225 "BranchPredictor$Branch" "isPlainTaken" "Z", .fieldLink RX4 229 "BranchPredictor$Branch" "isGlobalTaken" "Z", .fieldLink RX4 19 "BranchPredictor" "choiceTable" "LBranchPredictor$CounterTable;", .fieldLink RX4 216 "BranchPredictor$Branch" "plainIndex" "I", .methodLink RX4 265 yX2_move, .instanceMethod yX2_move, .selects RX2 yX2_move yX2_move, .initialized RX2, .code yX2_move cX2_move 5 none, .methodLink RX2 23 Lib.Math.min.name, .static Lib.Math.min.name, .initialized "java/lang/Math", .code Lib.Math.min.name Lib.Math.min.code 2 (some .int), .methodLink RX2 29 Lib.Math.max.name, .static Lib.Math.max.name, .code Lib.Math.max.name Lib.Math.max.code 2 (some .int), .fieldLink RX2 9 "BranchPredictor$CounterTable" "values" "[I", .methodLink RX2 19 yX2_valueAt, .instanceMethod yX2_valueAt, .selects RX2 yX2_valueAt yX2_valueAt, .code yX2_valueAt cX2_valueAt 2 (some .int)] ++ wsX10 ++ wsX40 ++ wsX20)
def wsX4_learnOutcome_r1 : List Cond := [Cond.methodLink RX4 222 yX2_saysTaken, Cond.instanceMethod yX2_saysTaken, Cond.selects RX2 yX2_saysTaken yX2_saysTaken, Cond.initialized RX2, Cond.code yX2_saysTaken cX2_saysTaken 2 (some .boolean), Cond.methodLink RX2 19 yX2_valueAt, Cond.instanceMethod yX2_valueAt, Cond.selects RX2 yX2_valueAt yX2_valueAt, Cond.code yX2_valueAt cX2_valueAt 2 (some .int), Cond.fieldLink RX2 9 "BranchPredictor$CounterTable" "values" "[I", Cond.methodLink RX4 269 yX0_note, Cond.instanceMethod yX0_note, Cond.selects RX0 yX0_note yX0_note, Cond.initialized RX0, Cond.code yX0_note cX0_note 6 none, Cond.fieldLink RX0 9 "BranchPredictor$Audit" "latestPlaces" "[I", Cond.fieldLink RX0 15 "BranchPredictor$Audit" "allMeetings" "J", Cond.fieldLink RX0 19 "BranchPredictor$Audit" "harmfulMeetings" "J", Cond.methodLink RX4 265 yX2_move, Cond.instanceMethod yX2_move, Cond.selects RX2 yX2_move yX2_move, Cond.code yX2_move cX2_move 5 none, Cond.methodLink RX2 23 Lib.Math.min.name, Cond.static Lib.Math.min.name]
def wsX4_learnOutcome_r2 : List Cond := [Cond.initialized "java/lang/Math", Cond.code Lib.Math.min.name Lib.Math.min.code 2 (some .int), Cond.methodLink RX2 29 Lib.Math.max.name, Cond.static Lib.Math.max.name, Cond.code Lib.Math.max.name Lib.Math.max.code 2 (some .int)]
def wsX4_learnOutcome : List Cond := .code yX4_learnOutcome cX4_learnOutcome 5 none :: ((wsX4_learnOutcome_r1 ++ wsX4_learnOutcome_r2) ++ wsX20 ++ wsX00)
def wsX4_numberForNewLoop : List Cond := .code yX4_numberForNewLoop cX4_numberForNewLoop 3 (some .int) :: ([.fieldLink RX4 40 "BranchPredictor" "loops" "[LBranchPredictor$Loop;", .fieldLink RX4 164 "BranchPredictor$Loop" "trust" "I", .methodLink RX4 154 yX3_isFree, .instanceMethod yX3_isFree, .selects RX3 yX3_isFree yX3_isFree, .initialized RX3, .code yX3_isFree cX3_isFree 1 (some .boolean), .fieldLink RX3 9 "BranchPredictor$Loop" "place" "I"] ++ wsX40 ++ wsX30)
def wsX4_learnLoop_r1 : List Cond := [Cond.fieldLink RX4 126 "BranchPredictor$Branch" "place" "I", Cond.fieldLink RX4 40 "BranchPredictor" "loops" "[LBranchPredictor$Loop;", Cond.fieldLink RX4 97 "BranchPredictor$Branch" "state" "I", Cond.methodLink RX4 245 yX4_loopWith, Cond.instanceMethod yX4_loopWith, Cond.selects RX4 yX4_loopWith yX4_loopWith, Cond.initialized RX4, Cond.code yX4_loopWith cX4_loopWith 3 (some .int), Cond.fieldLink RX4 157 "BranchPredictor$Loop" "place" "I", Cond.methodLink RX4 273 yX3_learn, Cond.instanceMethod yX3_learn, Cond.selects RX3 yX3_learn yX3_learn, Cond.initialized RX3, Cond.code yX3_learn cX3_learn 2 none, Cond.fieldLink RX3 15 "BranchPredictor$Loop" "count" "I", Cond.fieldLink RX3 9 "BranchPredictor$Loop" "place" "I", Cond.fieldLink RX3 18 "BranchPredictor$Loop" "trip" "I", Cond.fieldLink RX3 21 "BranchPredictor$Loop" "trust" "I", Cond.methodLink RX3 24 Lib.Math.min.name, Cond.static Lib.Math.min.name, Cond.initialized "java/lang/Math", Cond.code Lib.Math.min.name Lib.Math.min.code 2 (some .int), Cond.methodLink RX4 277 yX4_numberForNewLoop, Cond.instanceMethod yX4_numberForNewLoop]
def wsX4_learnLoop_r2 : List Cond := [Cond.selects RX4 yX4_numberForNewLoop yX4_numberForNewLoop, Cond.code yX4_numberForNewLoop cX4_numberForNewLoop 3 (some .int), Cond.fieldLink RX4 164 "BranchPredictor$Loop" "trust" "I", Cond.methodLink RX4 154 yX3_isFree, Cond.instanceMethod yX3_isFree, Cond.selects RX3 yX3_isFree yX3_isFree, Cond.code yX3_isFree cX3_isFree 1 (some .boolean), Cond.methodLink RX4 281 yX3_startAnew, Cond.instanceMethod yX3_startAnew, Cond.selects RX3 yX3_startAnew yX3_startAnew, Cond.code yX3_startAnew cX3_startAnew 2 none]
def wsX4_learnLoop : List Cond := .code yX4_learnLoop cX4_learnLoop 4 none :: ((wsX4_learnLoop_r1 ++ wsX4_learnLoop_r2) ++ wsX10 ++ wsX40 ++ wsX30)
def wsX4_retire_r1 : List Cond := [Cond.fieldLink RX4 12 "BranchPredictor" "plainTable" "LBranchPredictor$CounterTable;", Cond.fieldLink RX4 25 "BranchPredictor" "plainAudit" "LBranchPredictor$Audit;", Cond.fieldLink RX4 216 "BranchPredictor$Branch" "plainIndex" "I", Cond.fieldLink RX4 126 "BranchPredictor$Branch" "place" "I", Cond.fieldLink RX4 16 "BranchPredictor" "globalTable" "LBranchPredictor$CounterTable;", Cond.fieldLink RX4 29 "BranchPredictor" "globalAudit" "LBranchPredictor$Audit;", Cond.fieldLink RX4 219 "BranchPredictor$Branch" "globalIndex" "I", Cond.fieldLink RX4 171 "BranchPredictor" "committed" "J", Cond.fieldLink RX4 210 "BranchPredictor" "oldest" "I", Cond.fieldLink RX4 79 "BranchPredictor" "flying" "I", Cond.fieldLink RX4 97 "BranchPredictor$Branch" "state" "I", Cond.methodLink RX4 93 yX4_branchAt, Cond.instanceMethod yX4_branchAt, Cond.selects RX4 yX4_branchAt yX4_branchAt, Cond.initialized RX4, Cond.code yX4_branchAt cX4_branchAt 2 (some (.object "BranchPredictor$Branch")), Cond.fieldLink RX4 34 "BranchPredictor" "ring" "[LBranchPredictor$Branch;", Cond.methodLink RX4 248 yX1_isPresumedTaken, Cond.instanceMethod yX1_isPresumedTaken, Cond.selects RX1 yX1_isPresumedTaken yX1_isPresumedTaken, Cond.initialized RX1, Cond.code yX1_isPresumedTaken cX1_isPresumedTaken 1 (some .boolean), Cond.fieldLink RX1 24 "BranchPredictor$Branch" "state" "I", Cond.fieldLink RX1 21 "BranchPredictor$Branch" "isPredictedTaken" "Z"]
def wsX4_retire_r2 : List Cond := [Cond.methodLink RX4 251 yX4_countMisses, Cond.instanceMethod yX4_countMisses, Cond.selects RX4 yX4_countMisses yX4_countMisses, Cond.code yX4_countMisses cX4_countMisses 4 none, Cond.fieldLink RX4 44 "BranchPredictor" "missed" "[J", Cond.methodLink RX4 132 yX1_saidTaken, Cond.instanceMethod yX1_saidTaken, Cond.selects RX1 yX1_saidTaken yX1_saidTaken, Cond.code yX1_saidTaken cX1_saidTaken 2 (some .boolean), Cond.fieldLink RX1 9 "BranchPredictor$Branch" "isPlainTaken" "Z", Cond.fieldLink RX1 15 "BranchPredictor$Branch" "isGlobalTaken" "Z", Cond.fieldLink RX1 18 "BranchPredictor$Branch" "isChoiceTaken" "Z", Cond.methodLink RX4 255 yX4_learnChoice, Cond.instanceMethod yX4_learnChoice, Cond.selects RX4 yX4_learnChoice yX4_learnChoice, Cond.code yX4_learnChoice cX4_learnChoice 3 none, Cond.fieldLink RX4 225 "BranchPredictor$Branch" "isPlainTaken" "Z", Cond.fieldLink RX4 229 "BranchPredictor$Branch" "isGlobalTaken" "Z", Cond.fieldLink RX4 19 "BranchPredictor" "choiceTable" "LBranchPredictor$CounterTable;", Cond.methodLink RX4 265 yX2_move, Cond.instanceMethod yX2_move, Cond.selects RX2 yX2_move yX2_move, Cond.initialized RX2, Cond.code yX2_move cX2_move 5 none]
def wsX4_retire_r3 : List Cond := [Cond.methodLink RX2 23 Lib.Math.min.name, Cond.static Lib.Math.min.name, Cond.initialized "java/lang/Math", Cond.code Lib.Math.min.name Lib.Math.min.code 2 (some .int), Cond.methodLink RX2 29 Lib.Math.max.name, Cond.static Lib.Math.max.name, Cond.code Lib.Math.max.name Lib.Math.max.code 2 (some .int), Cond.fieldLink RX2 9 "BranchPredictor$CounterTable" "values" "[I", Cond.methodLink RX2 19 yX2_valueAt, Cond.instanceMethod yX2_valueAt, Cond.selects RX2 yX2_valueAt yX2_valueAt, Cond.code yX2_valueAt cX2_valueAt 2 (some .int), Cond.methodLink RX4 258 yX4_learnOutcome, Cond.static yX4_learnOutcome, Cond.code yX4_learnOutcome cX4_learnOutcome 5 none, Cond.methodLink RX4 222 yX2_saysTaken, Cond.instanceMethod yX2_saysTaken, Cond.selects RX2 yX2_saysTaken yX2_saysTaken, Cond.code yX2_saysTaken cX2_saysTaken 2 (some .boolean), Cond.methodLink RX4 269 yX0_note, Cond.instanceMethod yX0_note, Cond.selects RX0 yX0_note yX0_note, Cond.initialized RX0, Cond.code yX0_note cX0_note 6 none]
def wsX4_retire_r4 : List Cond := [Cond.fieldLink RX0 9 "BranchPredictor$Audit" "latestPlaces" "[I", Cond.fieldLink RX0 15 "BranchPredictor$Audit" "allMeetings" "J", Cond.fieldLink RX0 19 "BranchPredictor$Audit" "harmfulMeetings" "J", Cond.methodLink RX4 262 yX4_learnLoop, Cond.instanceMethod yX4_learnLoop, Cond.selects RX4 yX4_learnLoop yX4_learnLoop, Cond.code yX4_learnLoop cX4_learnLoop 4 none, Cond.fieldLink RX4 40 "BranchPredictor" "loops" "[LBranchPredictor$Loop;", Cond.methodLink RX4 245 yX4_loopWith, Cond.instanceMethod yX4_loopWith, Cond.selects RX4 yX4_loopWith yX4_loopWith, Cond.code yX4_loopWith cX4_loopWith 3 (some .int), Cond.fieldLink RX4 157 "BranchPredictor$Loop" "place" "I", Cond.methodLink RX4 273 yX3_learn, Cond.instanceMethod yX3_learn, Cond.selects RX3 yX3_learn yX3_learn, Cond.initialized RX3, Cond.code yX3_learn cX3_learn 2 none, Cond.fieldLink RX3 15 "BranchPredictor$Loop" "count" "I", Cond.fieldLink RX3 9 "BranchPredictor$Loop" "place" "I", Cond.fieldLink RX3 18 "BranchPredictor$Loop" "trip" "I", Cond.fieldLink RX3 21 "BranchPredictor$Loop" "trust" "I", Cond.methodLink RX3 24 Lib.Math.min.name, Cond.methodLink RX4 277 yX4_numberForNewLoop]
def wsX4_retire_r5 : List Cond := [Cond.instanceMethod yX4_numberForNewLoop, Cond.selects RX4 yX4_numberForNewLoop yX4_numberForNewLoop, Cond.code yX4_numberForNewLoop cX4_numberForNewLoop 3 (some .int), Cond.fieldLink RX4 164 "BranchPredictor$Loop" "trust" "I", Cond.methodLink RX4 154 yX3_isFree, Cond.instanceMethod yX3_isFree, Cond.selects RX3 yX3_isFree yX3_isFree, Cond.code yX3_isFree cX3_isFree 1 (some .boolean), Cond.methodLink RX4 281 yX3_startAnew, Cond.instanceMethod yX3_startAnew, Cond.selects RX3 yX3_startAnew yX3_startAnew, Cond.code yX3_startAnew cX3_startAnew 2 none]
def wsX4_retire : List Cond := .code yX4_retire cX4_retire 3 (some .boolean) :: ((wsX4_retire_r1 ++ (wsX4_retire_r2 ++ (wsX4_retire_r3 ++ (wsX4_retire_r4 ++ wsX4_retire_r5)))) ++ wsX40 ++ wsX10 ++ wsX20 ++ wsX00 ++ wsX30)
def wsX4_commit_r1 : List Cond := [Cond.classLink RX4 82 "java/lang/IllegalStateException", Cond.initialized "java/lang/IllegalStateException", Cond.fieldLink RX4 79 "BranchPredictor" "flying" "I", Cond.fieldLink RX4 97 "BranchPredictor$Branch" "state" "I", Cond.methodLink RX4 93 yX4_branchAt, Cond.instanceMethod yX4_branchAt, Cond.selects RX4 yX4_branchAt yX4_branchAt, Cond.initialized RX4, Cond.code yX4_branchAt cX4_branchAt 2 (some (.object "BranchPredictor$Branch")), Cond.fieldLink RX4 34 "BranchPredictor" "ring" "[LBranchPredictor$Branch;", Cond.fieldLink RX4 210 "BranchPredictor" "oldest" "I", Cond.methodLink RX4 108 yX4_retire, Cond.instanceMethod yX4_retire, Cond.selects RX4 yX4_retire yX4_retire, Cond.code yX4_retire cX4_retire 3 (some .boolean), Cond.fieldLink RX4 12 "BranchPredictor" "plainTable" "LBranchPredictor$CounterTable;", Cond.fieldLink RX4 25 "BranchPredictor" "plainAudit" "LBranchPredictor$Audit;", Cond.fieldLink RX4 216 "BranchPredictor$Branch" "plainIndex" "I", Cond.fieldLink RX4 126 "BranchPredictor$Branch" "place" "I", Cond.fieldLink RX4 16 "BranchPredictor" "globalTable" "LBranchPredictor$CounterTable;", Cond.fieldLink RX4 29 "BranchPredictor" "globalAudit" "LBranchPredictor$Audit;", Cond.fieldLink RX4 219 "BranchPredictor$Branch" "globalIndex" "I", Cond.fieldLink RX4 171 "BranchPredictor" "committed" "J", Cond.methodLink RX4 248 yX1_isPresumedTaken]
def wsX4_commit_r2 : List Cond := [Cond.instanceMethod yX1_isPresumedTaken, Cond.selects RX1 yX1_isPresumedTaken yX1_isPresumedTaken, Cond.initialized RX1, Cond.code yX1_isPresumedTaken cX1_isPresumedTaken 1 (some .boolean), Cond.fieldLink RX1 24 "BranchPredictor$Branch" "state" "I", Cond.fieldLink RX1 21 "BranchPredictor$Branch" "isPredictedTaken" "Z", Cond.methodLink RX4 251 yX4_countMisses, Cond.instanceMethod yX4_countMisses, Cond.selects RX4 yX4_countMisses yX4_countMisses, Cond.code yX4_countMisses cX4_countMisses 4 none, Cond.fieldLink RX4 44 "BranchPredictor" "missed" "[J", Cond.methodLink RX4 132 yX1_saidTaken, Cond.instanceMethod yX1_saidTaken, Cond.selects RX1 yX1_saidTaken yX1_saidTaken, Cond.code yX1_saidTaken cX1_saidTaken 2 (some .boolean), Cond.fieldLink RX1 9 "BranchPredictor$Branch" "isPlainTaken" "Z", Cond.fieldLink RX1 15 "BranchPredictor$Branch" "isGlobalTaken" "Z", Cond.fieldLink RX1 18 "BranchPredictor$Branch" "isChoiceTaken" "Z", Cond.methodLink RX4 255 yX4_learnChoice, Cond.instanceMethod yX4_learnChoice, Cond.selects RX4 yX4_learnChoice yX4_learnChoice, Cond.code yX4_learnChoice cX4_learnChoice 3 none, Cond.fieldLink RX4 225 "BranchPredictor$Branch" "isPlainTaken" "Z", Cond.fieldLink RX4 229 "BranchPredictor$Branch" "isGlobalTaken" "Z"]
def wsX4_commit_r3 : List Cond := [Cond.fieldLink RX4 19 "BranchPredictor" "choiceTable" "LBranchPredictor$CounterTable;", Cond.methodLink RX4 265 yX2_move, Cond.instanceMethod yX2_move, Cond.selects RX2 yX2_move yX2_move, Cond.initialized RX2, Cond.code yX2_move cX2_move 5 none, Cond.methodLink RX2 23 Lib.Math.min.name, Cond.static Lib.Math.min.name, Cond.initialized "java/lang/Math", Cond.code Lib.Math.min.name Lib.Math.min.code 2 (some .int), Cond.methodLink RX2 29 Lib.Math.max.name, Cond.static Lib.Math.max.name, Cond.code Lib.Math.max.name Lib.Math.max.code 2 (some .int), Cond.fieldLink RX2 9 "BranchPredictor$CounterTable" "values" "[I", Cond.methodLink RX2 19 yX2_valueAt, Cond.instanceMethod yX2_valueAt, Cond.selects RX2 yX2_valueAt yX2_valueAt, Cond.code yX2_valueAt cX2_valueAt 2 (some .int), Cond.methodLink RX4 258 yX4_learnOutcome, Cond.static yX4_learnOutcome, Cond.code yX4_learnOutcome cX4_learnOutcome 5 none, Cond.methodLink RX4 222 yX2_saysTaken, Cond.instanceMethod yX2_saysTaken, Cond.selects RX2 yX2_saysTaken yX2_saysTaken]
def wsX4_commit_r4 : List Cond := [Cond.code yX2_saysTaken cX2_saysTaken 2 (some .boolean), Cond.methodLink RX4 269 yX0_note, Cond.instanceMethod yX0_note, Cond.selects RX0 yX0_note yX0_note, Cond.initialized RX0, Cond.code yX0_note cX0_note 6 none, Cond.fieldLink RX0 9 "BranchPredictor$Audit" "latestPlaces" "[I", Cond.fieldLink RX0 15 "BranchPredictor$Audit" "allMeetings" "J", Cond.fieldLink RX0 19 "BranchPredictor$Audit" "harmfulMeetings" "J", Cond.methodLink RX4 262 yX4_learnLoop, Cond.instanceMethod yX4_learnLoop, Cond.selects RX4 yX4_learnLoop yX4_learnLoop, Cond.code yX4_learnLoop cX4_learnLoop 4 none, Cond.fieldLink RX4 40 "BranchPredictor" "loops" "[LBranchPredictor$Loop;", Cond.methodLink RX4 245 yX4_loopWith, Cond.instanceMethod yX4_loopWith, Cond.selects RX4 yX4_loopWith yX4_loopWith, Cond.code yX4_loopWith cX4_loopWith 3 (some .int), Cond.fieldLink RX4 157 "BranchPredictor$Loop" "place" "I", Cond.methodLink RX4 273 yX3_learn, Cond.instanceMethod yX3_learn, Cond.selects RX3 yX3_learn yX3_learn, Cond.initialized RX3, Cond.code yX3_learn cX3_learn 2 none]
def wsX4_commit_r5 : List Cond := [Cond.fieldLink RX3 15 "BranchPredictor$Loop" "count" "I", Cond.fieldLink RX3 9 "BranchPredictor$Loop" "place" "I", Cond.fieldLink RX3 18 "BranchPredictor$Loop" "trip" "I", Cond.fieldLink RX3 21 "BranchPredictor$Loop" "trust" "I", Cond.methodLink RX3 24 Lib.Math.min.name, Cond.methodLink RX4 277 yX4_numberForNewLoop, Cond.instanceMethod yX4_numberForNewLoop, Cond.selects RX4 yX4_numberForNewLoop yX4_numberForNewLoop, Cond.code yX4_numberForNewLoop cX4_numberForNewLoop 3 (some .int), Cond.fieldLink RX4 164 "BranchPredictor$Loop" "trust" "I", Cond.methodLink RX4 154 yX3_isFree, Cond.instanceMethod yX3_isFree, Cond.selects RX3 yX3_isFree yX3_isFree, Cond.code yX3_isFree cX3_isFree 1 (some .boolean), Cond.methodLink RX4 281 yX3_startAnew, Cond.instanceMethod yX3_startAnew, Cond.selects RX3 yX3_startAnew yX3_startAnew, Cond.code yX3_startAnew cX3_startAnew 2 none]
def wsX4_commit : List Cond := .code yX4_commit cX4_commit 1 (some .boolean) :: ((wsX4_commit_r1 ++ (wsX4_commit_r2 ++ (wsX4_commit_r3 ++ (wsX4_commit_r4 ++ wsX4_commit_r5)))) ++ wsX40 ++ wsX10 ++ wsX20 ++ wsX00 ++ wsX30 ++ (vx_atS RX4 86 "java/lang/IllegalStateException" ["java/lang/RuntimeException", "java/lang/Exception"]).filter goodWord)
def wsX4_train_r1 : List Cond := [Cond.classLink RX4 82 "java/lang/IllegalStateException", Cond.initialized "java/lang/IllegalStateException", Cond.fieldLink RX4 79 "BranchPredictor" "flying" "I", Cond.methodLink RX4 75 yX4_requirePlace, Cond.static yX4_requirePlace, Cond.initialized RX4, Cond.code yX4_requirePlace cX4_requirePlace 1 none, Cond.classLink RX4 68 "java/lang/IllegalArgumentException", Cond.initialized "java/lang/IllegalArgumentException", Cond.constant RX4 199 (65535), Cond.methodLink RX4 87 yX4_launch, Cond.instanceMethod yX4_launch, Cond.selects RX4 yX4_launch yX4_launch, Cond.code yX4_launch cX4_launch 3 (some .boolean), Cond.fieldLink RX4 126 "BranchPredictor$Branch" "place" "I", Cond.fieldLink RX4 97 "BranchPredictor$Branch" "state" "I", Cond.fieldLink RX4 119 "BranchPredictor" "outcomes" "I", Cond.fieldLink RX4 116 "BranchPredictor$Branch" "historyAhead" "I", Cond.fieldLink RX4 12 "BranchPredictor" "plainTable" "LBranchPredictor$CounterTable;", Cond.fieldLink RX4 216 "BranchPredictor$Branch" "plainIndex" "I", Cond.fieldLink RX4 16 "BranchPredictor" "globalTable" "LBranchPredictor$CounterTable;", Cond.fieldLink RX4 219 "BranchPredictor$Branch" "globalIndex" "I", Cond.fieldLink RX4 225 "BranchPredictor$Branch" "isPlainTaken" "Z", Cond.fieldLink RX4 229 "BranchPredictor$Branch" "isGlobalTaken" "Z"]
def wsX4_train_r2 : List Cond := [Cond.fieldLink RX4 19 "BranchPredictor" "choiceTable" "LBranchPredictor$CounterTable;", Cond.fieldLink RX4 232 "BranchPredictor$Branch" "isChoiceTaken" "Z", Cond.fieldLink RX4 239 "BranchPredictor$Branch" "isPredictedTaken" "Z", Cond.methodLink RX4 93 yX4_branchAt, Cond.instanceMethod yX4_branchAt, Cond.selects RX4 yX4_branchAt yX4_branchAt, Cond.code yX4_branchAt cX4_branchAt 2 (some (.object "BranchPredictor$Branch")), Cond.fieldLink RX4 34 "BranchPredictor" "ring" "[LBranchPredictor$Branch;", Cond.fieldLink RX4 210 "BranchPredictor" "oldest" "I", Cond.methodLink RX4 213 yX2_indexFor, Cond.instanceMethod yX2_indexFor, Cond.selects RX2 yX2_indexFor yX2_indexFor, Cond.initialized RX2, Cond.code yX2_indexFor cX2_indexFor 2 (some .int), Cond.fieldLink RX2 15 "BranchPredictor$CounterTable" "size" "I", Cond.methodLink RX4 222 yX2_saysTaken, Cond.instanceMethod yX2_saysTaken, Cond.selects RX2 yX2_saysTaken yX2_saysTaken, Cond.code yX2_saysTaken cX2_saysTaken 2 (some .boolean), Cond.methodLink RX2 19 yX2_valueAt, Cond.instanceMethod yX2_valueAt, Cond.selects RX2 yX2_valueAt yX2_valueAt, Cond.code yX2_valueAt cX2_valueAt 2 (some .int), Cond.fieldLink RX2 9 "BranchPredictor$CounterTable" "values" "[I"]
def wsX4_train_r3 : List Cond := [Cond.methodLink RX4 235 yX4_loopPrediction, Cond.instanceMethod yX4_loopPrediction, Cond.selects RX4 yX4_loopPrediction yX4_loopPrediction, Cond.code yX4_loopPrediction cX4_loopPrediction 4 (some .boolean), Cond.fieldLink RX4 40 "BranchPredictor" "loops" "[LBranchPredictor$Loop;", Cond.fieldLink RX4 164 "BranchPredictor$Loop" "trust" "I", Cond.fieldLink RX4 161 "BranchPredictor$Loop" "trip" "I", Cond.methodLink RX4 245 yX4_loopWith, Cond.instanceMethod yX4_loopWith, Cond.selects RX4 yX4_loopWith yX4_loopWith, Cond.code yX4_loopWith cX4_loopWith 3 (some .int), Cond.fieldLink RX4 157 "BranchPredictor$Loop" "place" "I", Cond.methodLink RX4 167 yX4_presumedCount, Cond.instanceMethod yX4_presumedCount, Cond.selects RX4 yX4_presumedCount yX4_presumedCount, Cond.code yX4_presumedCount cX4_presumedCount 5 (some .int), Cond.fieldLink RX4 158 "BranchPredictor$Loop" "count" "I", Cond.methodLink RX4 248 yX1_isPresumedTaken, Cond.instanceMethod yX1_isPresumedTaken, Cond.selects RX1 yX1_isPresumedTaken yX1_isPresumedTaken, Cond.initialized RX1, Cond.code yX1_isPresumedTaken cX1_isPresumedTaken 1 (some .boolean), Cond.fieldLink RX1 24 "BranchPredictor$Branch" "state" "I", Cond.fieldLink RX1 21 "BranchPredictor$Branch" "isPredictedTaken" "Z"]
def wsX4_train_r4 : List Cond := [Cond.methodLink RX4 242 yX4_appended, Cond.instanceMethod yX4_appended, Cond.selects RX4 yX4_appended yX4_appended, Cond.code yX4_appended cX4_appended 4 (some .int), Cond.fieldLink RX4 55 "BranchPredictor" "historyBits" "I", Cond.methodLink RX4 102 yX4_settle, Cond.instanceMethod yX4_settle, Cond.selects RX4 yX4_settle yX4_settle, Cond.code yX4_settle cX4_settle 4 (some .int), Cond.methodLink RX4 122 yX4_dropFrom, Cond.instanceMethod yX4_dropFrom, Cond.selects RX4 yX4_dropFrom yX4_dropFrom, Cond.code yX4_dropFrom cX4_dropFrom 3 (some .int), Cond.fieldLink RX4 175 "BranchPredictor" "dropped" "J", Cond.methodLink RX4 108 yX4_retire, Cond.instanceMethod yX4_retire, Cond.selects RX4 yX4_retire yX4_retire, Cond.code yX4_retire cX4_retire 3 (some .boolean), Cond.fieldLink RX4 25 "BranchPredictor" "plainAudit" "LBranchPredictor$Audit;", Cond.fieldLink RX4 29 "BranchPredictor" "globalAudit" "LBranchPredictor$Audit;", Cond.fieldLink RX4 171 "BranchPredictor" "committed" "J", Cond.methodLink RX4 251 yX4_countMisses, Cond.instanceMethod yX4_countMisses, Cond.selects RX4 yX4_countMisses yX4_countMisses]
def wsX4_train_r5 : List Cond := [Cond.code yX4_countMisses cX4_countMisses 4 none, Cond.fieldLink RX4 44 "BranchPredictor" "missed" "[J", Cond.methodLink RX4 132 yX1_saidTaken, Cond.instanceMethod yX1_saidTaken, Cond.selects RX1 yX1_saidTaken yX1_saidTaken, Cond.code yX1_saidTaken cX1_saidTaken 2 (some .boolean), Cond.fieldLink RX1 9 "BranchPredictor$Branch" "isPlainTaken" "Z", Cond.fieldLink RX1 15 "BranchPredictor$Branch" "isGlobalTaken" "Z", Cond.fieldLink RX1 18 "BranchPredictor$Branch" "isChoiceTaken" "Z", Cond.methodLink RX4 255 yX4_learnChoice, Cond.instanceMethod yX4_learnChoice, Cond.selects RX4 yX4_learnChoice yX4_learnChoice, Cond.code yX4_learnChoice cX4_learnChoice 3 none, Cond.methodLink RX4 265 yX2_move, Cond.instanceMethod yX2_move, Cond.selects RX2 yX2_move yX2_move, Cond.code yX2_move cX2_move 5 none, Cond.methodLink RX2 23 Lib.Math.min.name, Cond.static Lib.Math.min.name, Cond.initialized "java/lang/Math", Cond.code Lib.Math.min.name Lib.Math.min.code 2 (some .int), Cond.methodLink RX2 29 Lib.Math.max.name, Cond.static Lib.Math.max.name, Cond.code Lib.Math.max.name Lib.Math.max.code 2 (some .int)]
def wsX4_train_r6 : List Cond := [Cond.methodLink RX4 258 yX4_learnOutcome, Cond.static yX4_learnOutcome, Cond.code yX4_learnOutcome cX4_learnOutcome 5 none, Cond.methodLink RX4 269 yX0_note, Cond.instanceMethod yX0_note, Cond.selects RX0 yX0_note yX0_note, Cond.initialized RX0, Cond.code yX0_note cX0_note 6 none, Cond.fieldLink RX0 9 "BranchPredictor$Audit" "latestPlaces" "[I", Cond.fieldLink RX0 15 "BranchPredictor$Audit" "allMeetings" "J", Cond.fieldLink RX0 19 "BranchPredictor$Audit" "harmfulMeetings" "J", Cond.methodLink RX4 262 yX4_learnLoop, Cond.instanceMethod yX4_learnLoop, Cond.selects RX4 yX4_learnLoop yX4_learnLoop, Cond.code yX4_learnLoop cX4_learnLoop 4 none, Cond.methodLink RX4 273 yX3_learn, Cond.instanceMethod yX3_learn, Cond.selects RX3 yX3_learn yX3_learn, Cond.initialized RX3, Cond.code yX3_learn cX3_learn 2 none, Cond.fieldLink RX3 15 "BranchPredictor$Loop" "count" "I", Cond.fieldLink RX3 9 "BranchPredictor$Loop" "place" "I", Cond.fieldLink RX3 18 "BranchPredictor$Loop" "trip" "I", Cond.fieldLink RX3 21 "BranchPredictor$Loop" "trust" "I"]
def wsX4_train_r7 : List Cond := [Cond.methodLink RX3 24 Lib.Math.min.name, Cond.methodLink RX4 277 yX4_numberForNewLoop, Cond.instanceMethod yX4_numberForNewLoop, Cond.selects RX4 yX4_numberForNewLoop yX4_numberForNewLoop, Cond.code yX4_numberForNewLoop cX4_numberForNewLoop 3 (some .int), Cond.methodLink RX4 154 yX3_isFree, Cond.instanceMethod yX3_isFree, Cond.selects RX3 yX3_isFree yX3_isFree, Cond.code yX3_isFree cX3_isFree 1 (some .boolean), Cond.methodLink RX4 281 yX3_startAnew, Cond.instanceMethod yX3_startAnew, Cond.selects RX3 yX3_startAnew yX3_startAnew, Cond.code yX3_startAnew cX3_startAnew 2 none]
def wsX4_train : List Cond := .code yX4_train cX4_train 3 (some .boolean) :: ((wsX4_train_r1 ++ (wsX4_train_r2 ++ (wsX4_train_r3 ++ (wsX4_train_r4 ++ (wsX4_train_r5 ++ (wsX4_train_r6 ++ wsX4_train_r7)))))) ++ wsX40 ++ wsX10 ++ wsX20 ++ wsX30 ++ wsX00 ++ (vx_atS RX4 86 "java/lang/IllegalStateException" ["java/lang/RuntimeException", "java/lang/Exception"]).filter goodWord ++ (vx_atS RX4 72 "java/lang/IllegalArgumentException" ["java/lang/RuntimeException", "java/lang/Exception"]).filter goodWord)
def wsX4_flush : List Cond := .code yX4_flush cX4_flush 3 (some .int) :: ([.classLink RX4 68 "java/lang/IllegalArgumentException", .initialized "java/lang/IllegalArgumentException", .fieldLink RX4 79 "BranchPredictor" "flying" "I", .fieldLink RX4 116 "BranchPredictor$Branch" "historyAhead" "I", .fieldLink RX4 119 "BranchPredictor" "outcomes" "I", .methodLink RX4 93 yX4_branchAt, .instanceMethod yX4_branchAt, .selects RX4 yX4_branchAt yX4_branchAt, .initialized RX4, .code yX4_branchAt cX4_branchAt 2 (some (.object "BranchPredictor$Branch")), .fieldLink RX4 34 "BranchPredictor" "ring" "[LBranchPredictor$Branch;", .fieldLink RX4 210 "BranchPredictor" "oldest" "I", .methodLink RX4 122 yX4_dropFrom, .instanceMethod yX4_dropFrom, .selects RX4 yX4_dropFrom yX4_dropFrom, .code yX4_dropFrom cX4_dropFrom 3 (some .int), .fieldLink RX4 175 "BranchPredictor" "dropped" "J"] ++ wsX40 ++ wsX10 ++ (vx_atS RX4 72 "java/lang/IllegalArgumentException" ["java/lang/RuntimeException", "java/lang/Exception"]).filter goodWord)
def wsX4_inFlight : List Cond := .code yX4_inFlight cX4_inFlight 1 (some .int) :: ([.fieldLink RX4 79 "BranchPredictor" "flying" "I"] ++ wsX40)
def wsX4_place : List Cond := .code yX4_place cX4_place 2 (some .int) :: ([.fieldLink RX4 126 "BranchPredictor$Branch" "place" "I", .methodLink RX4 90 yX4_requireInFlight, .instanceMethod yX4_requireInFlight, .selects RX4 yX4_requireInFlight yX4_requireInFlight, .initialized RX4, .code yX4_requireInFlight cX4_requireInFlight 2 none, .classLink RX4 135 "java/lang/IndexOutOfBoundsException", .initialized "java/lang/IndexOutOfBoundsException", .fieldLink RX4 79 "BranchPredictor" "flying" "I", .methodLink RX4 93 yX4_branchAt, .instanceMethod yX4_branchAt, .selects RX4 yX4_branchAt yX4_branchAt, .code yX4_branchAt cX4_branchAt 2 (some (.object "BranchPredictor$Branch")), .fieldLink RX4 34 "BranchPredictor" "ring" "[LBranchPredictor$Branch;", .fieldLink RX4 210 "BranchPredictor" "oldest" "I"] ++ wsX10 ++ wsX40 ++ (vx_atS RX4 139 "java/lang/IndexOutOfBoundsException" ["java/lang/RuntimeException", "java/lang/Exception"]).filter goodWord)
def wsX4_state : List Cond := .code yX4_state cX4_state 2 (some .int) :: ([.fieldLink RX4 97 "BranchPredictor$Branch" "state" "I", .methodLink RX4 90 yX4_requireInFlight, .instanceMethod yX4_requireInFlight, .selects RX4 yX4_requireInFlight yX4_requireInFlight, .initialized RX4, .code yX4_requireInFlight cX4_requireInFlight 2 none, .classLink RX4 135 "java/lang/IndexOutOfBoundsException", .initialized "java/lang/IndexOutOfBoundsException", .fieldLink RX4 79 "BranchPredictor" "flying" "I", .methodLink RX4 93 yX4_branchAt, .instanceMethod yX4_branchAt, .selects RX4 yX4_branchAt yX4_branchAt, .code yX4_branchAt cX4_branchAt 2 (some (.object "BranchPredictor$Branch")), .fieldLink RX4 34 "BranchPredictor" "ring" "[LBranchPredictor$Branch;", .fieldLink RX4 210 "BranchPredictor" "oldest" "I"] ++ wsX10 ++ wsX40 ++ (vx_atS RX4 139 "java/lang/IndexOutOfBoundsException" ["java/lang/RuntimeException", "java/lang/Exception"]).filter goodWord)
def wsX4_requireKind : List Cond := .code yX4_requireKind cX4_requireKind 1 none :: ([.classLink RX4 135 "java/lang/IndexOutOfBoundsException", .initialized "java/lang/IndexOutOfBoundsException"] ++ (vx_atS RX4 139 "java/lang/IndexOutOfBoundsException" ["java/lang/RuntimeException", "java/lang/Exception"]).filter goodWord)
def wsX4_predicted_r1 : List Cond := [Cond.methodLink RX4 90 yX4_requireInFlight, Cond.instanceMethod yX4_requireInFlight, Cond.selects RX4 yX4_requireInFlight yX4_requireInFlight, Cond.initialized RX4, Cond.code yX4_requireInFlight cX4_requireInFlight 2 none, Cond.classLink RX4 135 "java/lang/IndexOutOfBoundsException", Cond.initialized "java/lang/IndexOutOfBoundsException", Cond.fieldLink RX4 79 "BranchPredictor" "flying" "I", Cond.methodLink RX4 129 yX4_requireKind, Cond.static yX4_requireKind, Cond.code yX4_requireKind cX4_requireKind 1 none, Cond.methodLink RX4 93 yX4_branchAt, Cond.instanceMethod yX4_branchAt, Cond.selects RX4 yX4_branchAt yX4_branchAt, Cond.code yX4_branchAt cX4_branchAt 2 (some (.object "BranchPredictor$Branch")), Cond.fieldLink RX4 34 "BranchPredictor" "ring" "[LBranchPredictor$Branch;", Cond.fieldLink RX4 210 "BranchPredictor" "oldest" "I", Cond.methodLink RX4 132 yX1_saidTaken, Cond.instanceMethod yX1_saidTaken, Cond.selects RX1 yX1_saidTaken yX1_saidTaken, Cond.initialized RX1, Cond.code yX1_saidTaken cX1_saidTaken 2 (some .boolean), Cond.fieldLink RX1 9 "BranchPredictor$Branch" "isPlainTaken" "Z", Cond.fieldLink RX1 15 "BranchPredictor$Branch" "isGlobalTaken" "Z"]
def wsX4_predicted_r2 : List Cond := [Cond.fieldLink RX1 18 "BranchPredictor$Branch" "isChoiceTaken" "Z", Cond.fieldLink RX1 21 "BranchPredictor$Branch" "isPredictedTaken" "Z"]
def wsX4_predicted : List Cond := .code yX4_predicted cX4_predicted 3 (some .boolean) :: ((wsX4_predicted_r1 ++ wsX4_predicted_r2) ++ wsX40 ++ wsX10 ++ (vx_atS RX4 139 "java/lang/IndexOutOfBoundsException" ["java/lang/RuntimeException", "java/lang/Exception"]).filter goodWord)
def wsX4_history : List Cond := .code yX4_history cX4_history 1 (some .int) :: ([.fieldLink RX4 119 "BranchPredictor" "outcomes" "I"] ++ wsX40)
def wsX4_tableWith : List Cond := .code yX4_tableWith cX4_tableWith 2 (some (.object "BranchPredictor$CounterTable")) :: ([.fieldLink RX4 12 "BranchPredictor" "plainTable" "LBranchPredictor$CounterTable;", .fieldLink RX4 16 "BranchPredictor" "globalTable" "LBranchPredictor$CounterTable;", .fieldLink RX4 19 "BranchPredictor" "choiceTable" "LBranchPredictor$CounterTable;"] ++ wsX40)
def wsX4_counter : List Cond := .code yX4_counter cX4_counter 4 (some .int) :: ([.classLink RX4 135 "java/lang/IndexOutOfBoundsException", .initialized "java/lang/IndexOutOfBoundsException", .fieldLink RX4 144 "BranchPredictor$CounterTable" "size" "I", .methodLink RX4 140 yX4_tableWith, .instanceMethod yX4_tableWith, .selects RX4 yX4_tableWith yX4_tableWith, .initialized RX4, .code yX4_tableWith cX4_tableWith 2 (some (.object "BranchPredictor$CounterTable")), .fieldLink RX4 12 "BranchPredictor" "plainTable" "LBranchPredictor$CounterTable;", .fieldLink RX4 16 "BranchPredictor" "globalTable" "LBranchPredictor$CounterTable;", .fieldLink RX4 19 "BranchPredictor" "choiceTable" "LBranchPredictor$CounterTable;", .methodLink RX4 149 yX2_valueAt, .instanceMethod yX2_valueAt, .selects RX2 yX2_valueAt yX2_valueAt, .initialized RX2, .code yX2_valueAt cX2_valueAt 2 (some .int), .fieldLink RX2 9 "BranchPredictor$CounterTable" "values" "[I"] ++ wsX20 ++ wsX40 ++ (vx_atS RX4 139 "java/lang/IndexOutOfBoundsException" ["java/lang/RuntimeException", "java/lang/Exception"]).filter goodWord)
def wsX4_loop_r1 : List Cond := [Cond.classLink RX4 135 "java/lang/IndexOutOfBoundsException", Cond.initialized "java/lang/IndexOutOfBoundsException", Cond.fieldLink RX4 40 "BranchPredictor" "loops" "[LBranchPredictor$Loop;", Cond.fieldLink RX4 157 "BranchPredictor$Loop" "place" "I", Cond.fieldLink RX4 158 "BranchPredictor$Loop" "count" "I", Cond.fieldLink RX4 161 "BranchPredictor$Loop" "trip" "I", Cond.fieldLink RX4 164 "BranchPredictor$Loop" "trust" "I", Cond.methodLink RX4 154 yX3_isFree, Cond.instanceMethod yX3_isFree, Cond.selects RX3 yX3_isFree yX3_isFree, Cond.initialized RX3, Cond.code yX3_isFree cX3_isFree 1 (some .boolean), Cond.fieldLink RX3 9 "BranchPredictor$Loop" "place" "I", Cond.methodLink RX4 167 yX4_presumedCount, Cond.instanceMethod yX4_presumedCount, Cond.selects RX4 yX4_presumedCount yX4_presumedCount, Cond.initialized RX4, Cond.code yX4_presumedCount cX4_presumedCount 5 (some .int), Cond.fieldLink RX4 79 "BranchPredictor" "flying" "I", Cond.fieldLink RX4 126 "BranchPredictor$Branch" "place" "I", Cond.methodLink RX4 93 yX4_branchAt, Cond.instanceMethod yX4_branchAt, Cond.selects RX4 yX4_branchAt yX4_branchAt, Cond.code yX4_branchAt cX4_branchAt 2 (some (.object "BranchPredictor$Branch"))]
def wsX4_loop_r2 : List Cond := [Cond.fieldLink RX4 34 "BranchPredictor" "ring" "[LBranchPredictor$Branch;", Cond.fieldLink RX4 210 "BranchPredictor" "oldest" "I", Cond.methodLink RX4 248 yX1_isPresumedTaken, Cond.instanceMethod yX1_isPresumedTaken, Cond.selects RX1 yX1_isPresumedTaken yX1_isPresumedTaken, Cond.initialized RX1, Cond.code yX1_isPresumedTaken cX1_isPresumedTaken 1 (some .boolean), Cond.fieldLink RX1 24 "BranchPredictor$Branch" "state" "I", Cond.fieldLink RX1 21 "BranchPredictor$Branch" "isPredictedTaken" "Z"]
def wsX4_loop : List Cond := .code yX4_loop cX4_loop 4 (some .int) :: ((wsX4_loop_r1 ++ wsX4_loop_r2) ++ wsX40 ++ wsX30 ++ wsX10 ++ (vx_atS RX4 139 "java/lang/IndexOutOfBoundsException" ["java/lang/RuntimeException", "java/lang/Exception"]).filter goodWord)
def wsX4_commits : List Cond := .code yX4_commits cX4_commits 1 (some .long) :: ([.fieldLink RX4 171 "BranchPredictor" "committed" "J"] ++ wsX40)
def wsX4_misses : List Cond := .code yX4_misses cX4_misses 2 (some .long) :: ([.fieldLink RX4 44 "BranchPredictor" "missed" "[J", .methodLink RX4 129 yX4_requireKind, .static yX4_requireKind, .initialized RX4, .code yX4_requireKind cX4_requireKind 1 none, .classLink RX4 135 "java/lang/IndexOutOfBoundsException", .initialized "java/lang/IndexOutOfBoundsException"] ++ wsX40 ++ (vx_atS RX4 139 "java/lang/IndexOutOfBoundsException" ["java/lang/RuntimeException", "java/lang/Exception"]).filter goodWord)
def wsX4_drops : List Cond := .code yX4_drops cX4_drops 1 (some .long) :: ([.fieldLink RX4 175 "BranchPredictor" "dropped" "J"] ++ wsX40)
def wsX4_meetings : List Cond := .code yX4_meetings cX4_meetings 4 (some .long) :: ([.classLink RX4 135 "java/lang/IndexOutOfBoundsException", .initialized "java/lang/IndexOutOfBoundsException", .fieldLink RX4 25 "BranchPredictor" "plainAudit" "LBranchPredictor$Audit;", .fieldLink RX4 29 "BranchPredictor" "globalAudit" "LBranchPredictor$Audit;", .fieldLink RX4 180 "BranchPredictor$Audit" "harmfulMeetings" "J", .fieldLink RX4 183 "BranchPredictor$Audit" "allMeetings" "J"] ++ wsX40 ++ wsX00 ++ (vx_atS RX4 139 "java/lang/IndexOutOfBoundsException" ["java/lang/RuntimeException", "java/lang/Exception"]).filter goodWord)
def wsX4_accuracy : List Cond := .code yX4_accuracy cX4_accuracy 3 (some .double) :: ([.fieldLink RX4 171 "BranchPredictor" "committed" "J", .fieldLink RX4 44 "BranchPredictor" "missed" "[J"] ++ wsX40)
def wsX4_digest_r1 : List Cond := [Cond.constantLong RX4 186 (71), Cond.fieldLink RX4 48 "BranchPredictor" "plainBits" "I", Cond.fieldLink RX4 52 "BranchPredictor" "globalBits" "I", Cond.fieldLink RX4 55 "BranchPredictor" "historyBits" "I", Cond.fieldLink RX4 119 "BranchPredictor" "outcomes" "I", Cond.fieldLink RX4 12 "BranchPredictor" "plainTable" "LBranchPredictor$CounterTable;", Cond.fieldLink RX4 16 "BranchPredictor" "globalTable" "LBranchPredictor$CounterTable;", Cond.fieldLink RX4 19 "BranchPredictor" "choiceTable" "LBranchPredictor$CounterTable;", Cond.fieldLink RX4 40 "BranchPredictor" "loops" "[LBranchPredictor$Loop;", Cond.fieldLink RX4 79 "BranchPredictor" "flying" "I", Cond.fieldLink RX4 126 "BranchPredictor$Branch" "place" "I", Cond.fieldLink RX4 97 "BranchPredictor$Branch" "state" "I", Cond.fieldLink RX4 171 "BranchPredictor" "committed" "J", Cond.fieldLink RX4 175 "BranchPredictor" "dropped" "J", Cond.fieldLink RX4 25 "BranchPredictor" "plainAudit" "LBranchPredictor$Audit;", Cond.fieldLink RX4 183 "BranchPredictor$Audit" "allMeetings" "J", Cond.fieldLink RX4 29 "BranchPredictor" "globalAudit" "LBranchPredictor$Audit;", Cond.methodLink RX4 188 yX4_mix, Cond.static yX4_mix, Cond.initialized RX4, Cond.code yX4_mix cX4_mix 4 (some .long), Cond.constantLong RX4 197 (31), Cond.methodLink RX4 192 yX2_mixInto, Cond.instanceMethod yX2_mixInto]
def wsX4_digest_r2 : List Cond := [Cond.selects RX2 yX2_mixInto yX2_mixInto, Cond.initialized RX2, Cond.code yX2_mixInto cX2_mixInto 6 (some .long), Cond.fieldLink RX2 15 "BranchPredictor$CounterTable" "size" "I", Cond.fieldLink RX2 9 "BranchPredictor$CounterTable" "values" "[I", Cond.methodLink RX4 196 yX3_mixInto, Cond.instanceMethod yX3_mixInto, Cond.selects RX3 yX3_mixInto yX3_mixInto, Cond.initialized RX3, Cond.code yX3_mixInto cX3_mixInto 6 (some .long), Cond.constantLong RX3 34 (-1), Cond.fieldLink RX3 9 "BranchPredictor$Loop" "place" "I", Cond.fieldLink RX3 15 "BranchPredictor$Loop" "count" "I", Cond.fieldLink RX3 18 "BranchPredictor$Loop" "trip" "I", Cond.fieldLink RX3 21 "BranchPredictor$Loop" "trust" "I", Cond.methodLink RX3 30 yX3_isFree, Cond.instanceMethod yX3_isFree, Cond.selects RX3 yX3_isFree yX3_isFree, Cond.code yX3_isFree cX3_isFree 1 (some .boolean), Cond.methodLink RX4 93 yX4_branchAt, Cond.instanceMethod yX4_branchAt, Cond.selects RX4 yX4_branchAt yX4_branchAt, Cond.code yX4_branchAt cX4_branchAt 2 (some (.object "BranchPredictor$Branch")), Cond.fieldLink RX4 34 "BranchPredictor" "ring" "[LBranchPredictor$Branch;"]
def wsX4_digest_r3 : List Cond := [Cond.fieldLink RX4 210 "BranchPredictor" "oldest" "I"]
def wsX4_digest : List Cond := .code yX4_digest cX4_digest 4 (some .long) :: ((wsX4_digest_r1 ++ (wsX4_digest_r2 ++ wsX4_digest_r3)) ++ wsX40 ++ wsX10 ++ wsX00 ++ wsX20 ++ wsX30)
def wsX5_begin : List Cond := .code yX5_begin cX5_begin 5 none :: ([.fieldLink RX5 62 "BranchPredictorModel" "p" "I", .fieldLink RX5 65 "BranchPredictorModel" "g" "I", .fieldLink RX5 68 "BranchPredictorModel" "h" "I", .fieldLink RX5 71 "BranchPredictorModel" "history" "I", .fieldLink RX5 74 "BranchPredictorModel" "flying" "I", .fieldLink RX5 77 "BranchPredictorModel" "commits" "J", .fieldLink RX5 81 "BranchPredictorModel" "drops" "J", .fieldLink RX5 9 "BranchPredictorModel" "counters" "[I", .fieldLink RX5 13 "BranchPredictorModel" "latestPlaces" "[I", .fieldLink RX5 32 "BranchPredictorModel" "isLoop" "[Z", .fieldLink RX5 47 "BranchPredictorModel" "misses" "[J", .fieldLink RX5 51 "BranchPredictorModel" "meetings" "[J"] ++ wsX50)
def wsX5_init_r1 : List Cond := [Cond.methodLink RX5 1 objectInit, Cond.instanceMethod objectInit, Cond.code objectInit ⟨#[0xb1]⟩ 1 none, Cond.arrayClass .int, Cond.fieldLink RX5 9 "BranchPredictorModel" "counters" "[I", Cond.fieldLink RX5 13 "BranchPredictorModel" "latestPlaces" "[I", Cond.fieldLink RX5 16 "BranchPredictorModel" "places" "[I", Cond.fieldLink RX5 19 "BranchPredictorModel" "histories" "[I", Cond.arrayClass .boolean, Cond.fieldLink RX5 22 "BranchPredictorModel" "predictions" "[Z", Cond.fieldLink RX5 26 "BranchPredictorModel" "areResolved" "[Z", Cond.fieldLink RX5 29 "BranchPredictorModel" "outcomes" "[Z", Cond.fieldLink RX5 32 "BranchPredictorModel" "isLoop" "[Z", Cond.fieldLink RX5 35 "BranchPredictorModel" "loopPlaces" "[I", Cond.fieldLink RX5 38 "BranchPredictorModel" "loopCounts" "[I", Cond.fieldLink RX5 41 "BranchPredictorModel" "trips" "[I", Cond.fieldLink RX5 44 "BranchPredictorModel" "trusts" "[I", Cond.arrayClass .long, Cond.fieldLink RX5 47 "BranchPredictorModel" "misses" "[J", Cond.fieldLink RX5 51 "BranchPredictorModel" "meetings" "[J", Cond.methodLink RX5 54 yX5_begin, Cond.instanceMethod yX5_begin, Cond.selects RX5 yX5_begin yX5_begin, Cond.initialized RX5]
def wsX5_init_r2 : List Cond := [Cond.code yX5_begin cX5_begin 5 none, Cond.fieldLink RX5 62 "BranchPredictorModel" "p" "I", Cond.fieldLink RX5 65 "BranchPredictorModel" "g" "I", Cond.fieldLink RX5 68 "BranchPredictorModel" "h" "I", Cond.fieldLink RX5 71 "BranchPredictorModel" "history" "I", Cond.fieldLink RX5 74 "BranchPredictorModel" "flying" "I", Cond.fieldLink RX5 77 "BranchPredictorModel" "commits" "J", Cond.fieldLink RX5 81 "BranchPredictorModel" "drops" "J"]
def wsX5_init : List Cond := .code yX5_init cX5_init 1 none :: ((wsX5_init_r1 ++ wsX5_init_r2) ++ wsX50)
def wsX5_thrown : List Cond := .code yX5_thrown cX5_thrown 1 (some .int) :: ([.fieldLink RX5 58 "BranchPredictorModel" "thrown" "I"] ++ wsX50)
def wsX5_fail : List Cond := .code yX5_fail cX5_fail 2 (some .int) :: ([.fieldLink RX5 58 "BranchPredictorModel" "thrown" "I"] ++ wsX50)
def wsX5_failed : List Cond := .code yX5_failed cX5_failed 2 (some .boolean) :: ([.fieldLink RX5 58 "BranchPredictorModel" "thrown" "I"] ++ wsX50)
def wsX5_setSizes : List Cond := .code yX5_setSizes cX5_setSizes 5 (some .boolean) :: ([.fieldLink RX5 58 "BranchPredictorModel" "thrown" "I", .fieldLink RX5 62 "BranchPredictorModel" "p" "I", .fieldLink RX5 65 "BranchPredictorModel" "g" "I", .fieldLink RX5 68 "BranchPredictorModel" "h" "I", .methodLink RX5 84 yX5_failed, .instanceMethod yX5_failed, .selects RX5 yX5_failed yX5_failed, .initialized RX5, .code yX5_failed cX5_failed 2 (some .boolean), .methodLink RX5 54 yX5_begin, .instanceMethod yX5_begin, .selects RX5 yX5_begin yX5_begin, .code yX5_begin cX5_begin 5 none, .fieldLink RX5 71 "BranchPredictorModel" "history" "I", .fieldLink RX5 74 "BranchPredictorModel" "flying" "I", .fieldLink RX5 77 "BranchPredictorModel" "commits" "J", .fieldLink RX5 81 "BranchPredictorModel" "drops" "J", .fieldLink RX5 9 "BranchPredictorModel" "counters" "[I", .fieldLink RX5 13 "BranchPredictorModel" "latestPlaces" "[I", .fieldLink RX5 32 "BranchPredictorModel" "isLoop" "[Z", .fieldLink RX5 47 "BranchPredictorModel" "misses" "[J", .fieldLink RX5 51 "BranchPredictorModel" "meetings" "[J"] ++ wsX50)
def wsX5_plainIndex : List Cond := .code yX5_plainIndex cX5_plainIndex 2 (some .int) :: ([.fieldLink RX5 62 "BranchPredictorModel" "p" "I"] ++ wsX50)
def wsX5_globalIndex : List Cond := .code yX5_globalIndex cX5_globalIndex 3 (some .int) :: ([.fieldLink RX5 65 "BranchPredictorModel" "g" "I"] ++ wsX50)
def wsX5_choiceIndex : List Cond := .code yX5_choiceIndex cX5_choiceIndex 2 (some .int) :: ([.fieldLink RX5 62 "BranchPredictorModel" "p" "I"] ++ wsX50)
def wsX5_says : List Cond := .code yX5_says cX5_says 2 (some .boolean) :: ([.fieldLink RX5 9 "BranchPredictorModel" "counters" "[I"] ++ wsX50)
def wsX5_appended : List Cond := .code yX5_appended cX5_appended 3 (some .int) :: ([.fieldLink RX5 68 "BranchPredictorModel" "h" "I"] ++ wsX50)
def wsX5_loopOf : List Cond := .code yX5_loopOf cX5_loopOf 3 (some .int) :: ([.fieldLink RX5 32 "BranchPredictorModel" "isLoop" "[Z", .fieldLink RX5 35 "BranchPredictorModel" "loopPlaces" "[I"] ++ wsX50)
def wsX5_isTaken : List Cond := .code yX5_isTaken cX5_isTaken 2 (some .boolean) :: ([.fieldLink RX5 26 "BranchPredictorModel" "areResolved" "[Z", .fieldLink RX5 29 "BranchPredictorModel" "outcomes" "[Z", .fieldLink RX5 22 "BranchPredictorModel" "predictions" "[Z"] ++ wsX50)
def wsX5_presumed : List Cond := .code yX5_presumed cX5_presumed 4 (some .int) :: ([.fieldLink RX5 38 "BranchPredictorModel" "loopCounts" "[I", .fieldLink RX5 74 "BranchPredictorModel" "flying" "I", .fieldLink RX5 16 "BranchPredictorModel" "places" "[I", .fieldLink RX5 35 "BranchPredictorModel" "loopPlaces" "[I", .methodLink RX5 88 yX5_isTaken, .instanceMethod yX5_isTaken, .selects RX5 yX5_isTaken yX5_isTaken, .initialized RX5, .code yX5_isTaken cX5_isTaken 2 (some .boolean), .fieldLink RX5 26 "BranchPredictorModel" "areResolved" "[Z", .fieldLink RX5 29 "BranchPredictorModel" "outcomes" "[Z", .fieldLink RX5 22 "BranchPredictorModel" "predictions" "[Z"] ++ wsX50)
def wsX5_add_r1 : List Cond := [Cond.fieldLink RX5 74 "BranchPredictorModel" "flying" "I", Cond.fieldLink RX5 22 "BranchPredictorModel" "predictions" "[Z", Cond.fieldLink RX5 71 "BranchPredictorModel" "history" "I", Cond.fieldLink RX5 44 "BranchPredictorModel" "trusts" "[I", Cond.fieldLink RX5 41 "BranchPredictorModel" "trips" "[I", Cond.fieldLink RX5 16 "BranchPredictorModel" "places" "[I", Cond.fieldLink RX5 19 "BranchPredictorModel" "histories" "[I", Cond.fieldLink RX5 26 "BranchPredictorModel" "areResolved" "[Z", Cond.methodLink RX5 91 yX5_plainIndex, Cond.instanceMethod yX5_plainIndex, Cond.selects RX5 yX5_plainIndex yX5_plainIndex, Cond.initialized RX5, Cond.code yX5_plainIndex cX5_plainIndex 2 (some .int), Cond.fieldLink RX5 62 "BranchPredictorModel" "p" "I", Cond.methodLink RX5 95 yX5_says, Cond.instanceMethod yX5_says, Cond.selects RX5 yX5_says yX5_says, Cond.code yX5_says cX5_says 2 (some .boolean), Cond.fieldLink RX5 9 "BranchPredictorModel" "counters" "[I", Cond.methodLink RX5 98 yX5_globalIndex, Cond.instanceMethod yX5_globalIndex, Cond.selects RX5 yX5_globalIndex yX5_globalIndex, Cond.code yX5_globalIndex cX5_globalIndex 3 (some .int), Cond.fieldLink RX5 65 "BranchPredictorModel" "g" "I"]
def wsX5_add_r2 : List Cond := [Cond.methodLink RX5 102 yX5_choiceIndex, Cond.instanceMethod yX5_choiceIndex, Cond.selects RX5 yX5_choiceIndex yX5_choiceIndex, Cond.code yX5_choiceIndex cX5_choiceIndex 2 (some .int), Cond.methodLink RX5 105 yX5_loopOf, Cond.instanceMethod yX5_loopOf, Cond.selects RX5 yX5_loopOf yX5_loopOf, Cond.code yX5_loopOf cX5_loopOf 3 (some .int), Cond.fieldLink RX5 32 "BranchPredictorModel" "isLoop" "[Z", Cond.fieldLink RX5 35 "BranchPredictorModel" "loopPlaces" "[I", Cond.methodLink RX5 108 yX5_presumed, Cond.instanceMethod yX5_presumed, Cond.selects RX5 yX5_presumed yX5_presumed, Cond.code yX5_presumed cX5_presumed 4 (some .int), Cond.fieldLink RX5 38 "BranchPredictorModel" "loopCounts" "[I", Cond.methodLink RX5 88 yX5_isTaken, Cond.instanceMethod yX5_isTaken, Cond.selects RX5 yX5_isTaken yX5_isTaken, Cond.code yX5_isTaken cX5_isTaken 2 (some .boolean), Cond.fieldLink RX5 29 "BranchPredictorModel" "outcomes" "[Z", Cond.methodLink RX5 111 yX5_appended, Cond.instanceMethod yX5_appended, Cond.selects RX5 yX5_appended yX5_appended, Cond.code yX5_appended cX5_appended 3 (some .int)]
def wsX5_add_r3 : List Cond := [Cond.fieldLink RX5 68 "BranchPredictorModel" "h" "I"]
def wsX5_add : List Cond := .code yX5_add cX5_add 5 (some .boolean) :: ((wsX5_add_r1 ++ (wsX5_add_r2 ++ wsX5_add_r3)) ++ wsX50)
def wsX5_predict_r1 : List Cond := [Cond.fieldLink RX5 58 "BranchPredictorModel" "thrown" "I", Cond.constant RX5 115 (65536), Cond.fieldLink RX5 74 "BranchPredictorModel" "flying" "I", Cond.methodLink RX5 84 yX5_failed, Cond.instanceMethod yX5_failed, Cond.selects RX5 yX5_failed yX5_failed, Cond.initialized RX5, Cond.code yX5_failed cX5_failed 2 (some .boolean), Cond.methodLink RX5 116 yX5_add, Cond.instanceMethod yX5_add, Cond.selects RX5 yX5_add yX5_add, Cond.code yX5_add cX5_add 5 (some .boolean), Cond.fieldLink RX5 22 "BranchPredictorModel" "predictions" "[Z", Cond.fieldLink RX5 71 "BranchPredictorModel" "history" "I", Cond.fieldLink RX5 44 "BranchPredictorModel" "trusts" "[I", Cond.fieldLink RX5 41 "BranchPredictorModel" "trips" "[I", Cond.fieldLink RX5 16 "BranchPredictorModel" "places" "[I", Cond.fieldLink RX5 19 "BranchPredictorModel" "histories" "[I", Cond.fieldLink RX5 26 "BranchPredictorModel" "areResolved" "[Z", Cond.methodLink RX5 91 yX5_plainIndex, Cond.instanceMethod yX5_plainIndex, Cond.selects RX5 yX5_plainIndex yX5_plainIndex, Cond.code yX5_plainIndex cX5_plainIndex 2 (some .int), Cond.fieldLink RX5 62 "BranchPredictorModel" "p" "I"]
def wsX5_predict_r2 : List Cond := [Cond.methodLink RX5 95 yX5_says, Cond.instanceMethod yX5_says, Cond.selects RX5 yX5_says yX5_says, Cond.code yX5_says cX5_says 2 (some .boolean), Cond.fieldLink RX5 9 "BranchPredictorModel" "counters" "[I", Cond.methodLink RX5 98 yX5_globalIndex, Cond.instanceMethod yX5_globalIndex, Cond.selects RX5 yX5_globalIndex yX5_globalIndex, Cond.code yX5_globalIndex cX5_globalIndex 3 (some .int), Cond.fieldLink RX5 65 "BranchPredictorModel" "g" "I", Cond.methodLink RX5 102 yX5_choiceIndex, Cond.instanceMethod yX5_choiceIndex, Cond.selects RX5 yX5_choiceIndex yX5_choiceIndex, Cond.code yX5_choiceIndex cX5_choiceIndex 2 (some .int), Cond.methodLink RX5 105 yX5_loopOf, Cond.instanceMethod yX5_loopOf, Cond.selects RX5 yX5_loopOf yX5_loopOf, Cond.code yX5_loopOf cX5_loopOf 3 (some .int), Cond.fieldLink RX5 32 "BranchPredictorModel" "isLoop" "[Z", Cond.fieldLink RX5 35 "BranchPredictorModel" "loopPlaces" "[I", Cond.methodLink RX5 108 yX5_presumed, Cond.instanceMethod yX5_presumed, Cond.selects RX5 yX5_presumed yX5_presumed, Cond.code yX5_presumed cX5_presumed 4 (some .int)]
def wsX5_predict_r3 : List Cond := [Cond.fieldLink RX5 38 "BranchPredictorModel" "loopCounts" "[I", Cond.methodLink RX5 88 yX5_isTaken, Cond.instanceMethod yX5_isTaken, Cond.selects RX5 yX5_isTaken yX5_isTaken, Cond.code yX5_isTaken cX5_isTaken 2 (some .boolean), Cond.fieldLink RX5 29 "BranchPredictorModel" "outcomes" "[Z", Cond.methodLink RX5 111 yX5_appended, Cond.instanceMethod yX5_appended, Cond.selects RX5 yX5_appended yX5_appended, Cond.code yX5_appended cX5_appended 3 (some .int), Cond.fieldLink RX5 68 "BranchPredictorModel" "h" "I"]
def wsX5_predict : List Cond := .code yX5_predict cX5_predict 2 (some .boolean) :: ((wsX5_predict_r1 ++ (wsX5_predict_r2 ++ wsX5_predict_r3)) ++ wsX50)
def wsX5_isFlying : List Cond := .code yX5_isFlying cX5_isFlying 2 (some .boolean) :: ([.fieldLink RX5 74 "BranchPredictorModel" "flying" "I"] ++ wsX50)
def wsX5_isWrong : List Cond := .code yX5_isWrong cX5_isWrong 2 (some .boolean) :: ([.fieldLink RX5 26 "BranchPredictorModel" "areResolved" "[Z", .fieldLink RX5 29 "BranchPredictorModel" "outcomes" "[Z", .fieldLink RX5 22 "BranchPredictorModel" "predictions" "[Z"] ++ wsX50)
def wsX5_settle : List Cond := .code yX5_settle cX5_settle 4 (some .int) :: ([.fieldLink RX5 26 "BranchPredictorModel" "areResolved" "[Z", .fieldLink RX5 29 "BranchPredictorModel" "outcomes" "[Z", .fieldLink RX5 74 "BranchPredictorModel" "flying" "I", .fieldLink RX5 81 "BranchPredictorModel" "drops" "J", .fieldLink RX5 19 "BranchPredictorModel" "histories" "[I", .fieldLink RX5 71 "BranchPredictorModel" "history" "I", .methodLink RX5 119 yX5_isWrong, .instanceMethod yX5_isWrong, .selects RX5 yX5_isWrong yX5_isWrong, .initialized RX5, .code yX5_isWrong cX5_isWrong 2 (some .boolean), .fieldLink RX5 22 "BranchPredictorModel" "predictions" "[Z", .methodLink RX5 111 yX5_appended, .instanceMethod yX5_appended, .selects RX5 yX5_appended yX5_appended, .code yX5_appended cX5_appended 3 (some .int), .fieldLink RX5 68 "BranchPredictorModel" "h" "I"] ++ wsX50)
def wsX5_resolve_r1 : List Cond := [Cond.fieldLink RX5 58 "BranchPredictorModel" "thrown" "I", Cond.fieldLink RX5 26 "BranchPredictorModel" "areResolved" "[Z", Cond.methodLink RX5 122 yX5_isFlying, Cond.instanceMethod yX5_isFlying, Cond.selects RX5 yX5_isFlying yX5_isFlying, Cond.initialized RX5, Cond.code yX5_isFlying cX5_isFlying 2 (some .boolean), Cond.fieldLink RX5 74 "BranchPredictorModel" "flying" "I", Cond.methodLink RX5 125 yX5_fail, Cond.instanceMethod yX5_fail, Cond.selects RX5 yX5_fail yX5_fail, Cond.code yX5_fail cX5_fail 2 (some .int), Cond.methodLink RX5 128 yX5_settle, Cond.instanceMethod yX5_settle, Cond.selects RX5 yX5_settle yX5_settle, Cond.code yX5_settle cX5_settle 4 (some .int), Cond.fieldLink RX5 29 "BranchPredictorModel" "outcomes" "[Z", Cond.fieldLink RX5 81 "BranchPredictorModel" "drops" "J", Cond.fieldLink RX5 19 "BranchPredictorModel" "histories" "[I", Cond.fieldLink RX5 71 "BranchPredictorModel" "history" "I", Cond.methodLink RX5 119 yX5_isWrong, Cond.instanceMethod yX5_isWrong, Cond.selects RX5 yX5_isWrong yX5_isWrong, Cond.code yX5_isWrong cX5_isWrong 2 (some .boolean)]
def wsX5_resolve_r2 : List Cond := [Cond.fieldLink RX5 22 "BranchPredictorModel" "predictions" "[Z", Cond.methodLink RX5 111 yX5_appended, Cond.instanceMethod yX5_appended, Cond.selects RX5 yX5_appended yX5_appended, Cond.code yX5_appended cX5_appended 3 (some .int), Cond.fieldLink RX5 68 "BranchPredictorModel" "h" "I"]
def wsX5_resolve : List Cond := .code yX5_resolve cX5_resolve 3 (some .int) :: ((wsX5_resolve_r1 ++ wsX5_resolve_r2) ++ wsX50)
def wsX5_change : List Cond := .code yX5_change cX5_change 3 none :: ([.fieldLink RX5 9 "BranchPredictorModel" "counters" "[I", .methodLink RX5 131 Lib.Math.min.name, .static Lib.Math.min.name, .initialized "java/lang/Math", .code Lib.Math.min.name Lib.Math.min.code 2 (some .int), .methodLink RX5 136 Lib.Math.max.name, .static Lib.Math.max.name, .code Lib.Math.max.name Lib.Math.max.code 2 (some .int)] ++ wsX50)
def wsX5_audit : List Cond := .code yX5_audit cX5_audit 5 none :: ([.fieldLink RX5 13 "BranchPredictorModel" "latestPlaces" "[I", .fieldLink RX5 51 "BranchPredictorModel" "meetings" "[J", .methodLink RX5 95 yX5_says, .instanceMethod yX5_says, .selects RX5 yX5_says yX5_says, .initialized RX5, .code yX5_says cX5_says 2 (some .boolean), .fieldLink RX5 9 "BranchPredictorModel" "counters" "[I"] ++ wsX50)
def wsX5_makeLoop : List Cond := .code yX5_makeLoop cX5_makeLoop 4 none :: ([.fieldLink RX5 44 "BranchPredictorModel" "trusts" "[I", .fieldLink RX5 32 "BranchPredictorModel" "isLoop" "[Z", .fieldLink RX5 35 "BranchPredictorModel" "loopPlaces" "[I", .fieldLink RX5 38 "BranchPredictorModel" "loopCounts" "[I", .fieldLink RX5 41 "BranchPredictorModel" "trips" "[I"] ++ wsX50)
def wsX5_learnLoop : List Cond := .code yX5_learnLoop cX5_learnLoop 5 none :: ([.fieldLink RX5 38 "BranchPredictorModel" "loopCounts" "[I", .fieldLink RX5 32 "BranchPredictorModel" "isLoop" "[Z", .fieldLink RX5 41 "BranchPredictorModel" "trips" "[I", .fieldLink RX5 44 "BranchPredictorModel" "trusts" "[I", .methodLink RX5 131 Lib.Math.min.name, .static Lib.Math.min.name, .initialized "java/lang/Math", .code Lib.Math.min.name Lib.Math.min.code 2 (some .int), .methodLink RX5 105 yX5_loopOf, .instanceMethod yX5_loopOf, .selects RX5 yX5_loopOf yX5_loopOf, .initialized RX5, .code yX5_loopOf cX5_loopOf 3 (some .int), .fieldLink RX5 35 "BranchPredictorModel" "loopPlaces" "[I", .methodLink RX5 139 yX5_makeLoop, .instanceMethod yX5_makeLoop, .selects RX5 yX5_makeLoop yX5_makeLoop, .code yX5_makeLoop cX5_makeLoop 4 none] ++ wsX50)
def wsX5_learn_r1 : List Cond := [Cond.fieldLink RX5 16 "BranchPredictorModel" "places" "[I", Cond.fieldLink RX5 29 "BranchPredictorModel" "outcomes" "[Z", Cond.fieldLink RX5 22 "BranchPredictorModel" "predictions" "[Z", Cond.fieldLink RX5 19 "BranchPredictorModel" "histories" "[I", Cond.fieldLink RX5 47 "BranchPredictorModel" "misses" "[J", Cond.fieldLink RX5 77 "BranchPredictorModel" "commits" "J", Cond.fieldLink RX5 74 "BranchPredictorModel" "flying" "I", Cond.fieldLink RX5 26 "BranchPredictorModel" "areResolved" "[Z", Cond.methodLink RX5 119 yX5_isWrong, Cond.instanceMethod yX5_isWrong, Cond.selects RX5 yX5_isWrong yX5_isWrong, Cond.initialized RX5, Cond.code yX5_isWrong cX5_isWrong 2 (some .boolean), Cond.methodLink RX5 102 yX5_choiceIndex, Cond.instanceMethod yX5_choiceIndex, Cond.selects RX5 yX5_choiceIndex yX5_choiceIndex, Cond.code yX5_choiceIndex cX5_choiceIndex 2 (some .int), Cond.fieldLink RX5 62 "BranchPredictorModel" "p" "I", Cond.methodLink RX5 143 yX5_change, Cond.instanceMethod yX5_change, Cond.selects RX5 yX5_change yX5_change, Cond.code yX5_change cX5_change 3 none, Cond.fieldLink RX5 9 "BranchPredictorModel" "counters" "[I", Cond.methodLink RX5 131 Lib.Math.min.name]
def wsX5_learn_r2 : List Cond := [Cond.static Lib.Math.min.name, Cond.initialized "java/lang/Math", Cond.code Lib.Math.min.name Lib.Math.min.code 2 (some .int), Cond.methodLink RX5 136 Lib.Math.max.name, Cond.static Lib.Math.max.name, Cond.code Lib.Math.max.name Lib.Math.max.code 2 (some .int), Cond.methodLink RX5 98 yX5_globalIndex, Cond.instanceMethod yX5_globalIndex, Cond.selects RX5 yX5_globalIndex yX5_globalIndex, Cond.code yX5_globalIndex cX5_globalIndex 3 (some .int), Cond.fieldLink RX5 65 "BranchPredictorModel" "g" "I", Cond.methodLink RX5 91 yX5_plainIndex, Cond.instanceMethod yX5_plainIndex, Cond.selects RX5 yX5_plainIndex yX5_plainIndex, Cond.code yX5_plainIndex cX5_plainIndex 2 (some .int), Cond.methodLink RX5 147 yX5_audit, Cond.instanceMethod yX5_audit, Cond.selects RX5 yX5_audit yX5_audit, Cond.code yX5_audit cX5_audit 5 none, Cond.fieldLink RX5 13 "BranchPredictorModel" "latestPlaces" "[I", Cond.fieldLink RX5 51 "BranchPredictorModel" "meetings" "[J", Cond.methodLink RX5 95 yX5_says, Cond.instanceMethod yX5_says, Cond.selects RX5 yX5_says yX5_says]
def wsX5_learn_r3 : List Cond := [Cond.code yX5_says cX5_says 2 (some .boolean), Cond.methodLink RX5 151 yX5_learnLoop, Cond.instanceMethod yX5_learnLoop, Cond.selects RX5 yX5_learnLoop yX5_learnLoop, Cond.code yX5_learnLoop cX5_learnLoop 5 none, Cond.fieldLink RX5 38 "BranchPredictorModel" "loopCounts" "[I", Cond.fieldLink RX5 32 "BranchPredictorModel" "isLoop" "[Z", Cond.fieldLink RX5 41 "BranchPredictorModel" "trips" "[I", Cond.fieldLink RX5 44 "BranchPredictorModel" "trusts" "[I", Cond.methodLink RX5 105 yX5_loopOf, Cond.instanceMethod yX5_loopOf, Cond.selects RX5 yX5_loopOf yX5_loopOf, Cond.code yX5_loopOf cX5_loopOf 3 (some .int), Cond.fieldLink RX5 35 "BranchPredictorModel" "loopPlaces" "[I", Cond.methodLink RX5 139 yX5_makeLoop, Cond.instanceMethod yX5_makeLoop, Cond.selects RX5 yX5_makeLoop yX5_makeLoop, Cond.code yX5_makeLoop cX5_makeLoop 4 none]
def wsX5_learn : List Cond := .code yX5_learn cX5_learn 6 (some .boolean) :: ((wsX5_learn_r1 ++ (wsX5_learn_r2 ++ wsX5_learn_r3)) ++ wsX50)
def wsX5_commit_r1 : List Cond := [Cond.fieldLink RX5 58 "BranchPredictorModel" "thrown" "I", Cond.fieldLink RX5 74 "BranchPredictorModel" "flying" "I", Cond.fieldLink RX5 26 "BranchPredictorModel" "areResolved" "[Z", Cond.methodLink RX5 155 yX5_learn, Cond.instanceMethod yX5_learn, Cond.selects RX5 yX5_learn yX5_learn, Cond.initialized RX5, Cond.code yX5_learn cX5_learn 6 (some .boolean), Cond.fieldLink RX5 16 "BranchPredictorModel" "places" "[I", Cond.fieldLink RX5 29 "BranchPredictorModel" "outcomes" "[Z", Cond.fieldLink RX5 22 "BranchPredictorModel" "predictions" "[Z", Cond.fieldLink RX5 19 "BranchPredictorModel" "histories" "[I", Cond.fieldLink RX5 47 "BranchPredictorModel" "misses" "[J", Cond.fieldLink RX5 77 "BranchPredictorModel" "commits" "J", Cond.methodLink RX5 119 yX5_isWrong, Cond.instanceMethod yX5_isWrong, Cond.selects RX5 yX5_isWrong yX5_isWrong, Cond.code yX5_isWrong cX5_isWrong 2 (some .boolean), Cond.methodLink RX5 102 yX5_choiceIndex, Cond.instanceMethod yX5_choiceIndex, Cond.selects RX5 yX5_choiceIndex yX5_choiceIndex, Cond.code yX5_choiceIndex cX5_choiceIndex 2 (some .int), Cond.fieldLink RX5 62 "BranchPredictorModel" "p" "I", Cond.methodLink RX5 143 yX5_change]
def wsX5_commit_r2 : List Cond := [Cond.instanceMethod yX5_change, Cond.selects RX5 yX5_change yX5_change, Cond.code yX5_change cX5_change 3 none, Cond.fieldLink RX5 9 "BranchPredictorModel" "counters" "[I", Cond.methodLink RX5 131 Lib.Math.min.name, Cond.static Lib.Math.min.name, Cond.initialized "java/lang/Math", Cond.code Lib.Math.min.name Lib.Math.min.code 2 (some .int), Cond.methodLink RX5 136 Lib.Math.max.name, Cond.static Lib.Math.max.name, Cond.code Lib.Math.max.name Lib.Math.max.code 2 (some .int), Cond.methodLink RX5 98 yX5_globalIndex, Cond.instanceMethod yX5_globalIndex, Cond.selects RX5 yX5_globalIndex yX5_globalIndex, Cond.code yX5_globalIndex cX5_globalIndex 3 (some .int), Cond.fieldLink RX5 65 "BranchPredictorModel" "g" "I", Cond.methodLink RX5 91 yX5_plainIndex, Cond.instanceMethod yX5_plainIndex, Cond.selects RX5 yX5_plainIndex yX5_plainIndex, Cond.code yX5_plainIndex cX5_plainIndex 2 (some .int), Cond.methodLink RX5 147 yX5_audit, Cond.instanceMethod yX5_audit, Cond.selects RX5 yX5_audit yX5_audit, Cond.code yX5_audit cX5_audit 5 none]
def wsX5_commit_r3 : List Cond := [Cond.fieldLink RX5 13 "BranchPredictorModel" "latestPlaces" "[I", Cond.fieldLink RX5 51 "BranchPredictorModel" "meetings" "[J", Cond.methodLink RX5 95 yX5_says, Cond.instanceMethod yX5_says, Cond.selects RX5 yX5_says yX5_says, Cond.code yX5_says cX5_says 2 (some .boolean), Cond.methodLink RX5 151 yX5_learnLoop, Cond.instanceMethod yX5_learnLoop, Cond.selects RX5 yX5_learnLoop yX5_learnLoop, Cond.code yX5_learnLoop cX5_learnLoop 5 none, Cond.fieldLink RX5 38 "BranchPredictorModel" "loopCounts" "[I", Cond.fieldLink RX5 32 "BranchPredictorModel" "isLoop" "[Z", Cond.fieldLink RX5 41 "BranchPredictorModel" "trips" "[I", Cond.fieldLink RX5 44 "BranchPredictorModel" "trusts" "[I", Cond.methodLink RX5 105 yX5_loopOf, Cond.instanceMethod yX5_loopOf, Cond.selects RX5 yX5_loopOf yX5_loopOf, Cond.code yX5_loopOf cX5_loopOf 3 (some .int), Cond.fieldLink RX5 35 "BranchPredictorModel" "loopPlaces" "[I", Cond.methodLink RX5 139 yX5_makeLoop, Cond.instanceMethod yX5_makeLoop, Cond.selects RX5 yX5_makeLoop yX5_makeLoop, Cond.code yX5_makeLoop cX5_makeLoop 4 none, Cond.methodLink RX5 84 yX5_failed]
def wsX5_commit_r4 : List Cond := [Cond.instanceMethod yX5_failed, Cond.selects RX5 yX5_failed yX5_failed, Cond.code yX5_failed cX5_failed 2 (some .boolean)]
def wsX5_commit : List Cond := .code yX5_commit cX5_commit 1 (some .boolean) :: ((wsX5_commit_r1 ++ (wsX5_commit_r2 ++ (wsX5_commit_r3 ++ wsX5_commit_r4))) ++ wsX50)
def wsX5_train_r1 : List Cond := [Cond.fieldLink RX5 58 "BranchPredictorModel" "thrown" "I", Cond.constant RX5 115 (65536), Cond.fieldLink RX5 74 "BranchPredictorModel" "flying" "I", Cond.methodLink RX5 84 yX5_failed, Cond.instanceMethod yX5_failed, Cond.selects RX5 yX5_failed yX5_failed, Cond.initialized RX5, Cond.code yX5_failed cX5_failed 2 (some .boolean), Cond.methodLink RX5 116 yX5_add, Cond.instanceMethod yX5_add, Cond.selects RX5 yX5_add yX5_add, Cond.code yX5_add cX5_add 5 (some .boolean), Cond.fieldLink RX5 22 "BranchPredictorModel" "predictions" "[Z", Cond.fieldLink RX5 71 "BranchPredictorModel" "history" "I", Cond.fieldLink RX5 44 "BranchPredictorModel" "trusts" "[I", Cond.fieldLink RX5 41 "BranchPredictorModel" "trips" "[I", Cond.fieldLink RX5 16 "BranchPredictorModel" "places" "[I", Cond.fieldLink RX5 19 "BranchPredictorModel" "histories" "[I", Cond.fieldLink RX5 26 "BranchPredictorModel" "areResolved" "[Z", Cond.methodLink RX5 91 yX5_plainIndex, Cond.instanceMethod yX5_plainIndex, Cond.selects RX5 yX5_plainIndex yX5_plainIndex, Cond.code yX5_plainIndex cX5_plainIndex 2 (some .int), Cond.fieldLink RX5 62 "BranchPredictorModel" "p" "I"]
def wsX5_train_r2 : List Cond := [Cond.methodLink RX5 95 yX5_says, Cond.instanceMethod yX5_says, Cond.selects RX5 yX5_says yX5_says, Cond.code yX5_says cX5_says 2 (some .boolean), Cond.fieldLink RX5 9 "BranchPredictorModel" "counters" "[I", Cond.methodLink RX5 98 yX5_globalIndex, Cond.instanceMethod yX5_globalIndex, Cond.selects RX5 yX5_globalIndex yX5_globalIndex, Cond.code yX5_globalIndex cX5_globalIndex 3 (some .int), Cond.fieldLink RX5 65 "BranchPredictorModel" "g" "I", Cond.methodLink RX5 102 yX5_choiceIndex, Cond.instanceMethod yX5_choiceIndex, Cond.selects RX5 yX5_choiceIndex yX5_choiceIndex, Cond.code yX5_choiceIndex cX5_choiceIndex 2 (some .int), Cond.methodLink RX5 105 yX5_loopOf, Cond.instanceMethod yX5_loopOf, Cond.selects RX5 yX5_loopOf yX5_loopOf, Cond.code yX5_loopOf cX5_loopOf 3 (some .int), Cond.fieldLink RX5 32 "BranchPredictorModel" "isLoop" "[Z", Cond.fieldLink RX5 35 "BranchPredictorModel" "loopPlaces" "[I", Cond.methodLink RX5 108 yX5_presumed, Cond.instanceMethod yX5_presumed, Cond.selects RX5 yX5_presumed yX5_presumed, Cond.code yX5_presumed cX5_presumed 4 (some .int)]
def wsX5_train_r3 : List Cond := [Cond.fieldLink RX5 38 "BranchPredictorModel" "loopCounts" "[I", Cond.methodLink RX5 88 yX5_isTaken, Cond.instanceMethod yX5_isTaken, Cond.selects RX5 yX5_isTaken yX5_isTaken, Cond.code yX5_isTaken cX5_isTaken 2 (some .boolean), Cond.fieldLink RX5 29 "BranchPredictorModel" "outcomes" "[Z", Cond.methodLink RX5 111 yX5_appended, Cond.instanceMethod yX5_appended, Cond.selects RX5 yX5_appended yX5_appended, Cond.code yX5_appended cX5_appended 3 (some .int), Cond.fieldLink RX5 68 "BranchPredictorModel" "h" "I", Cond.methodLink RX5 128 yX5_settle, Cond.instanceMethod yX5_settle, Cond.selects RX5 yX5_settle yX5_settle, Cond.code yX5_settle cX5_settle 4 (some .int), Cond.fieldLink RX5 81 "BranchPredictorModel" "drops" "J", Cond.methodLink RX5 119 yX5_isWrong, Cond.instanceMethod yX5_isWrong, Cond.selects RX5 yX5_isWrong yX5_isWrong, Cond.code yX5_isWrong cX5_isWrong 2 (some .boolean), Cond.methodLink RX5 155 yX5_learn, Cond.instanceMethod yX5_learn, Cond.selects RX5 yX5_learn yX5_learn, Cond.code yX5_learn cX5_learn 6 (some .boolean)]
def wsX5_train_r4 : List Cond := [Cond.fieldLink RX5 47 "BranchPredictorModel" "misses" "[J", Cond.fieldLink RX5 77 "BranchPredictorModel" "commits" "J", Cond.methodLink RX5 143 yX5_change, Cond.instanceMethod yX5_change, Cond.selects RX5 yX5_change yX5_change, Cond.code yX5_change cX5_change 3 none, Cond.methodLink RX5 131 Lib.Math.min.name, Cond.static Lib.Math.min.name, Cond.initialized "java/lang/Math", Cond.code Lib.Math.min.name Lib.Math.min.code 2 (some .int), Cond.methodLink RX5 136 Lib.Math.max.name, Cond.static Lib.Math.max.name, Cond.code Lib.Math.max.name Lib.Math.max.code 2 (some .int), Cond.methodLink RX5 147 yX5_audit, Cond.instanceMethod yX5_audit, Cond.selects RX5 yX5_audit yX5_audit, Cond.code yX5_audit cX5_audit 5 none, Cond.fieldLink RX5 13 "BranchPredictorModel" "latestPlaces" "[I", Cond.fieldLink RX5 51 "BranchPredictorModel" "meetings" "[J", Cond.methodLink RX5 151 yX5_learnLoop, Cond.instanceMethod yX5_learnLoop, Cond.selects RX5 yX5_learnLoop yX5_learnLoop, Cond.code yX5_learnLoop cX5_learnLoop 5 none, Cond.methodLink RX5 139 yX5_makeLoop]
def wsX5_train_r5 : List Cond := [Cond.instanceMethod yX5_makeLoop, Cond.selects RX5 yX5_makeLoop yX5_makeLoop, Cond.code yX5_makeLoop cX5_makeLoop 4 none]
def wsX5_train : List Cond := .code yX5_train cX5_train 3 (some .boolean) :: ((wsX5_train_r1 ++ (wsX5_train_r2 ++ (wsX5_train_r3 ++ (wsX5_train_r4 ++ wsX5_train_r5)))) ++ wsX50)
def wsX5_flush : List Cond := .code yX5_flush cX5_flush 2 (some .int) :: ([.fieldLink RX5 58 "BranchPredictorModel" "thrown" "I", .fieldLink RX5 74 "BranchPredictorModel" "flying" "I", .fieldLink RX5 81 "BranchPredictorModel" "drops" "J", .fieldLink RX5 19 "BranchPredictorModel" "histories" "[I", .fieldLink RX5 71 "BranchPredictorModel" "history" "I", .methodLink RX5 125 yX5_fail, .instanceMethod yX5_fail, .selects RX5 yX5_fail yX5_fail, .initialized RX5, .code yX5_fail cX5_fail 2 (some .int)] ++ wsX50)
def wsX5_inFlight : List Cond := .code yX5_inFlight cX5_inFlight 1 (some .int) :: ([.fieldLink RX5 58 "BranchPredictorModel" "thrown" "I", .fieldLink RX5 74 "BranchPredictorModel" "flying" "I"] ++ wsX50)
def wsX5_place : List Cond := .code yX5_place cX5_place 2 (some .int) :: ([.fieldLink RX5 58 "BranchPredictorModel" "thrown" "I", .fieldLink RX5 16 "BranchPredictorModel" "places" "[I", .methodLink RX5 122 yX5_isFlying, .instanceMethod yX5_isFlying, .selects RX5 yX5_isFlying yX5_isFlying, .initialized RX5, .code yX5_isFlying cX5_isFlying 2 (some .boolean), .fieldLink RX5 74 "BranchPredictorModel" "flying" "I", .methodLink RX5 125 yX5_fail, .instanceMethod yX5_fail, .selects RX5 yX5_fail yX5_fail, .code yX5_fail cX5_fail 2 (some .int)] ++ wsX50)
def wsX5_stateOf : List Cond := .code yX5_stateOf cX5_stateOf 2 (some .int) :: ([.fieldLink RX5 26 "BranchPredictorModel" "areResolved" "[Z", .methodLink RX5 119 yX5_isWrong, .instanceMethod yX5_isWrong, .selects RX5 yX5_isWrong yX5_isWrong, .initialized RX5, .code yX5_isWrong cX5_isWrong 2 (some .boolean), .fieldLink RX5 29 "BranchPredictorModel" "outcomes" "[Z", .fieldLink RX5 22 "BranchPredictorModel" "predictions" "[Z"] ++ wsX50)
def wsX5_state : List Cond := .code yX5_state cX5_state 2 (some .int) :: ([.fieldLink RX5 58 "BranchPredictorModel" "thrown" "I", .methodLink RX5 122 yX5_isFlying, .instanceMethod yX5_isFlying, .selects RX5 yX5_isFlying yX5_isFlying, .initialized RX5, .code yX5_isFlying cX5_isFlying 2 (some .boolean), .fieldLink RX5 74 "BranchPredictorModel" "flying" "I", .methodLink RX5 159 yX5_stateOf, .instanceMethod yX5_stateOf, .selects RX5 yX5_stateOf yX5_stateOf, .code yX5_stateOf cX5_stateOf 2 (some .int), .fieldLink RX5 26 "BranchPredictorModel" "areResolved" "[Z", .methodLink RX5 119 yX5_isWrong, .instanceMethod yX5_isWrong, .selects RX5 yX5_isWrong yX5_isWrong, .code yX5_isWrong cX5_isWrong 2 (some .boolean), .fieldLink RX5 29 "BranchPredictorModel" "outcomes" "[Z", .fieldLink RX5 22 "BranchPredictorModel" "predictions" "[Z", .methodLink RX5 125 yX5_fail, .instanceMethod yX5_fail, .selects RX5 yX5_fail yX5_fail, .code yX5_fail cX5_fail 2 (some .int)] ++ wsX50)
def wsX5_isKind : List Cond := .code yX5_isKind cX5_isKind 1 (some .boolean) :: ([])
def wsX5_predicted : List Cond := .code yX5_predicted cX5_predicted 3 (some .boolean) :: ([.fieldLink RX5 58 "BranchPredictorModel" "thrown" "I", .fieldLink RX5 22 "BranchPredictorModel" "predictions" "[Z", .methodLink RX5 122 yX5_isFlying, .instanceMethod yX5_isFlying, .selects RX5 yX5_isFlying yX5_isFlying, .initialized RX5, .code yX5_isFlying cX5_isFlying 2 (some .boolean), .fieldLink RX5 74 "BranchPredictorModel" "flying" "I", .methodLink RX5 162 yX5_isKind, .static yX5_isKind, .code yX5_isKind cX5_isKind 1 (some .boolean), .methodLink RX5 84 yX5_failed, .instanceMethod yX5_failed, .selects RX5 yX5_failed yX5_failed, .code yX5_failed cX5_failed 2 (some .boolean)] ++ wsX50)
def wsX5_history : List Cond := .code yX5_history cX5_history 1 (some .int) :: ([.fieldLink RX5 58 "BranchPredictorModel" "thrown" "I", .fieldLink RX5 71 "BranchPredictorModel" "history" "I"] ++ wsX50)
def wsX5_sizeOf : List Cond := .code yX5_sizeOf cX5_sizeOf 2 (some .int) :: ([.fieldLink RX5 65 "BranchPredictorModel" "g" "I", .fieldLink RX5 62 "BranchPredictorModel" "p" "I"] ++ wsX50)
def wsX5_counter : List Cond := .code yX5_counter cX5_counter 3 (some .int) :: ([.fieldLink RX5 58 "BranchPredictorModel" "thrown" "I", .fieldLink RX5 9 "BranchPredictorModel" "counters" "[I", .methodLink RX5 165 yX5_sizeOf, .instanceMethod yX5_sizeOf, .selects RX5 yX5_sizeOf yX5_sizeOf, .initialized RX5, .code yX5_sizeOf cX5_sizeOf 2 (some .int), .fieldLink RX5 65 "BranchPredictorModel" "g" "I", .fieldLink RX5 62 "BranchPredictorModel" "p" "I", .methodLink RX5 125 yX5_fail, .instanceMethod yX5_fail, .selects RX5 yX5_fail yX5_fail, .code yX5_fail cX5_fail 2 (some .int)] ++ wsX50)
def wsX5_ofLoop : List Cond := .code yX5_ofLoop cX5_ofLoop 3 (some .int) :: ([.fieldLink RX5 32 "BranchPredictorModel" "isLoop" "[Z", .fieldLink RX5 35 "BranchPredictorModel" "loopPlaces" "[I", .fieldLink RX5 38 "BranchPredictorModel" "loopCounts" "[I", .fieldLink RX5 41 "BranchPredictorModel" "trips" "[I", .fieldLink RX5 44 "BranchPredictorModel" "trusts" "[I", .methodLink RX5 108 yX5_presumed, .instanceMethod yX5_presumed, .selects RX5 yX5_presumed yX5_presumed, .initialized RX5, .code yX5_presumed cX5_presumed 4 (some .int), .fieldLink RX5 74 "BranchPredictorModel" "flying" "I", .fieldLink RX5 16 "BranchPredictorModel" "places" "[I", .methodLink RX5 88 yX5_isTaken, .instanceMethod yX5_isTaken, .selects RX5 yX5_isTaken yX5_isTaken, .code yX5_isTaken cX5_isTaken 2 (some .boolean), .fieldLink RX5 26 "BranchPredictorModel" "areResolved" "[Z", .fieldLink RX5 29 "BranchPredictorModel" "outcomes" "[Z", .fieldLink RX5 22 "BranchPredictorModel" "predictions" "[Z"] ++ wsX50)
def wsX5_loop_r1 : List Cond := [Cond.fieldLink RX5 58 "BranchPredictorModel" "thrown" "I", Cond.methodLink RX5 168 yX5_ofLoop, Cond.instanceMethod yX5_ofLoop, Cond.selects RX5 yX5_ofLoop yX5_ofLoop, Cond.initialized RX5, Cond.code yX5_ofLoop cX5_ofLoop 3 (some .int), Cond.fieldLink RX5 32 "BranchPredictorModel" "isLoop" "[Z", Cond.fieldLink RX5 35 "BranchPredictorModel" "loopPlaces" "[I", Cond.fieldLink RX5 38 "BranchPredictorModel" "loopCounts" "[I", Cond.fieldLink RX5 41 "BranchPredictorModel" "trips" "[I", Cond.fieldLink RX5 44 "BranchPredictorModel" "trusts" "[I", Cond.methodLink RX5 108 yX5_presumed, Cond.instanceMethod yX5_presumed, Cond.selects RX5 yX5_presumed yX5_presumed, Cond.code yX5_presumed cX5_presumed 4 (some .int), Cond.fieldLink RX5 74 "BranchPredictorModel" "flying" "I", Cond.fieldLink RX5 16 "BranchPredictorModel" "places" "[I", Cond.methodLink RX5 88 yX5_isTaken, Cond.instanceMethod yX5_isTaken, Cond.selects RX5 yX5_isTaken yX5_isTaken, Cond.code yX5_isTaken cX5_isTaken 2 (some .boolean), Cond.fieldLink RX5 26 "BranchPredictorModel" "areResolved" "[Z", Cond.fieldLink RX5 29 "BranchPredictorModel" "outcomes" "[Z", Cond.fieldLink RX5 22 "BranchPredictorModel" "predictions" "[Z"]
def wsX5_loop_r2 : List Cond := [Cond.methodLink RX5 125 yX5_fail, Cond.instanceMethod yX5_fail, Cond.selects RX5 yX5_fail yX5_fail, Cond.code yX5_fail cX5_fail 2 (some .int)]
def wsX5_loop : List Cond := .code yX5_loop cX5_loop 3 (some .int) :: ((wsX5_loop_r1 ++ wsX5_loop_r2) ++ wsX50)
def wsX5_commits : List Cond := .code yX5_commits cX5_commits 1 (some .long) :: ([.fieldLink RX5 58 "BranchPredictorModel" "thrown" "I", .fieldLink RX5 77 "BranchPredictorModel" "commits" "J"] ++ wsX50)
def wsX5_misses : List Cond := .code yX5_misses cX5_misses 2 (some .long) :: ([.fieldLink RX5 58 "BranchPredictorModel" "thrown" "I", .fieldLink RX5 47 "BranchPredictorModel" "misses" "[J", .methodLink RX5 162 yX5_isKind, .static yX5_isKind, .initialized RX5, .code yX5_isKind cX5_isKind 1 (some .boolean), .methodLink RX5 125 yX5_fail, .instanceMethod yX5_fail, .selects RX5 yX5_fail yX5_fail, .code yX5_fail cX5_fail 2 (some .int)] ++ wsX50)
def wsX5_drops : List Cond := .code yX5_drops cX5_drops 1 (some .long) :: ([.fieldLink RX5 58 "BranchPredictorModel" "thrown" "I", .fieldLink RX5 81 "BranchPredictorModel" "drops" "J"] ++ wsX50)
def wsX5_meetings : List Cond := .code yX5_meetings cX5_meetings 3 (some .long) :: ([.fieldLink RX5 58 "BranchPredictorModel" "thrown" "I", .fieldLink RX5 51 "BranchPredictorModel" "meetings" "[J", .methodLink RX5 125 yX5_fail, .instanceMethod yX5_fail, .selects RX5 yX5_fail yX5_fail, .initialized RX5, .code yX5_fail cX5_fail 2 (some .int)] ++ wsX50)
def wsX5_accuracy : List Cond := .code yX5_accuracy cX5_accuracy 1 (some .double) :: ([.fieldLink RX5 58 "BranchPredictorModel" "thrown" "I", .fieldLink RX5 77 "BranchPredictorModel" "commits" "J", .fieldLink RX5 47 "BranchPredictorModel" "misses" "[J"] ++ wsX50)
def wsX5_digest_r1 : List Cond := [Cond.fieldLink RX5 58 "BranchPredictorModel" "thrown" "I", Cond.constantLong RX5 171 (2201), Cond.fieldLink RX5 62 "BranchPredictorModel" "p" "I", Cond.constantLong RX5 173 (31), Cond.fieldLink RX5 65 "BranchPredictorModel" "g" "I", Cond.fieldLink RX5 68 "BranchPredictorModel" "h" "I", Cond.fieldLink RX5 71 "BranchPredictorModel" "history" "I", Cond.fieldLink RX5 9 "BranchPredictorModel" "counters" "[I", Cond.fieldLink RX5 74 "BranchPredictorModel" "flying" "I", Cond.fieldLink RX5 16 "BranchPredictorModel" "places" "[I", Cond.fieldLink RX5 77 "BranchPredictorModel" "commits" "J", Cond.fieldLink RX5 81 "BranchPredictorModel" "drops" "J", Cond.fieldLink RX5 51 "BranchPredictorModel" "meetings" "[J", Cond.methodLink RX5 165 yX5_sizeOf, Cond.instanceMethod yX5_sizeOf, Cond.selects RX5 yX5_sizeOf yX5_sizeOf, Cond.initialized RX5, Cond.code yX5_sizeOf cX5_sizeOf 2 (some .int), Cond.methodLink RX5 168 yX5_ofLoop, Cond.instanceMethod yX5_ofLoop, Cond.selects RX5 yX5_ofLoop yX5_ofLoop, Cond.code yX5_ofLoop cX5_ofLoop 3 (some .int), Cond.fieldLink RX5 32 "BranchPredictorModel" "isLoop" "[Z", Cond.fieldLink RX5 35 "BranchPredictorModel" "loopPlaces" "[I"]
def wsX5_digest_r2 : List Cond := [Cond.fieldLink RX5 38 "BranchPredictorModel" "loopCounts" "[I", Cond.fieldLink RX5 41 "BranchPredictorModel" "trips" "[I", Cond.fieldLink RX5 44 "BranchPredictorModel" "trusts" "[I", Cond.methodLink RX5 108 yX5_presumed, Cond.instanceMethod yX5_presumed, Cond.selects RX5 yX5_presumed yX5_presumed, Cond.code yX5_presumed cX5_presumed 4 (some .int), Cond.methodLink RX5 88 yX5_isTaken, Cond.instanceMethod yX5_isTaken, Cond.selects RX5 yX5_isTaken yX5_isTaken, Cond.code yX5_isTaken cX5_isTaken 2 (some .boolean), Cond.fieldLink RX5 26 "BranchPredictorModel" "areResolved" "[Z", Cond.fieldLink RX5 29 "BranchPredictorModel" "outcomes" "[Z", Cond.fieldLink RX5 22 "BranchPredictorModel" "predictions" "[Z", Cond.methodLink RX5 159 yX5_stateOf, Cond.instanceMethod yX5_stateOf, Cond.selects RX5 yX5_stateOf yX5_stateOf, Cond.code yX5_stateOf cX5_stateOf 2 (some .int), Cond.methodLink RX5 119 yX5_isWrong, Cond.instanceMethod yX5_isWrong, Cond.selects RX5 yX5_isWrong yX5_isWrong, Cond.code yX5_isWrong cX5_isWrong 2 (some .boolean)]
def wsX5_digest : List Cond := .code yX5_digest cX5_digest 5 (some .long) :: ((wsX5_digest_r1 ++ wsX5_digest_r2) ++ wsX50)
def wsJ9_max_7cf53 : List Cond := .code yJ9_max_7cf53 cJ9_max_7cf53 2 (some .int) :: ([])
def wsJ9_min_7cf53 : List Cond := .code yJ9_min_7cf53 cJ9_min_7cf53 2 (some .int) :: ([])
def wsL_setSizes_r1 : List Cond := [Cond.classLink RL 13 "java/lang/IllegalArgumentException", Cond.methodLink RL 7 yX4_setSizes, Cond.instanceMethod yX4_setSizes, Cond.selects RX4 yX4_setSizes yX4_setSizes, Cond.initialized RX4, Cond.code yX4_setSizes cX4_setSizes 5 (some .boolean), Cond.classLink RX4 68 "java/lang/IllegalArgumentException", Cond.initialized "java/lang/IllegalArgumentException", Cond.fieldLink RX4 48 "BranchPredictor" "plainBits" "I", Cond.fieldLink RX4 52 "BranchPredictor" "globalBits" "I", Cond.fieldLink RX4 55 "BranchPredictor" "historyBits" "I", Cond.methodLink RX4 64 yX4_isTableBits, Cond.static yX4_isTableBits, Cond.code yX4_isTableBits cX4_isTableBits 1 (some .boolean), Cond.methodLink RX4 60 yX4_startAnew, Cond.instanceMethod yX4_startAnew, Cond.selects RX4 yX4_startAnew yX4_startAnew, Cond.code yX4_startAnew cX4_startAnew 5 none, Cond.fieldLink RX4 12 "BranchPredictor" "plainTable" "LBranchPredictor$CounterTable;", Cond.fieldLink RX4 16 "BranchPredictor" "globalTable" "LBranchPredictor$CounterTable;", Cond.fieldLink RX4 19 "BranchPredictor" "choiceTable" "LBranchPredictor$CounterTable;", Cond.fieldLink RX4 25 "BranchPredictor" "plainAudit" "LBranchPredictor$Audit;", Cond.fieldLink RX4 29 "BranchPredictor" "globalAudit" "LBranchPredictor$Audit;", Cond.fieldLink RX4 40 "BranchPredictor" "loops" "[LBranchPredictor$Loop;"]
def wsL_setSizes_r2 : List Cond := [Cond.fieldLink RX4 157 "BranchPredictor$Loop" "place" "I", Cond.fieldLink RX4 44 "BranchPredictor" "missed" "[J", Cond.fieldLink RX4 119 "BranchPredictor" "outcomes" "I", Cond.fieldLink RX4 210 "BranchPredictor" "oldest" "I", Cond.fieldLink RX4 79 "BranchPredictor" "flying" "I", Cond.fieldLink RX4 171 "BranchPredictor" "committed" "J", Cond.fieldLink RX4 175 "BranchPredictor" "dropped" "J", Cond.methodLink RX4 206 yX2_startAnew, Cond.instanceMethod yX2_startAnew, Cond.selects RX2 yX2_startAnew yX2_startAnew, Cond.initialized RX2, Cond.code yX2_startAnew cX2_startAnew 3 none, Cond.fieldLink RX2 15 "BranchPredictor$CounterTable" "size" "I", Cond.fieldLink RX2 9 "BranchPredictor$CounterTable" "values" "[I", Cond.methodLink RX4 208 yX0_startAnew, Cond.instanceMethod yX0_startAnew, Cond.selects RX0 yX0_startAnew yX0_startAnew, Cond.initialized RX0, Cond.code yX0_startAnew cX0_startAnew 2 none, Cond.fieldLink RX0 9 "BranchPredictor$Audit" "latestPlaces" "[I", Cond.fieldLink RX0 15 "BranchPredictor$Audit" "allMeetings" "J", Cond.fieldLink RX0 19 "BranchPredictor$Audit" "harmfulMeetings" "J"]
def wsL_setSizes : List Cond := .codeWith yL_setSizes cL_setSizes 6 (some .int) [(0, 19, 22, 13)] :: ((wsL_setSizes_r1 ++ wsL_setSizes_r2) ++ wsX40 ++ wsX30 ++ wsX20 ++ wsX00 ++ (vx_atS RX4 72 "java/lang/IllegalArgumentException" ["java/lang/RuntimeException", "java/lang/Exception"]).filter goodWord)
def wsL_predict_r1 : List Cond := [Cond.classLink RL 13 "java/lang/IllegalArgumentException", Cond.classLink RL 19 "java/lang/IllegalStateException", Cond.methodLink RL 15 yX4_predict, Cond.instanceMethod yX4_predict, Cond.selects RX4 yX4_predict yX4_predict, Cond.initialized RX4, Cond.code yX4_predict cX4_predict 2 (some .boolean), Cond.classLink RX4 82 "java/lang/IllegalStateException", Cond.initialized "java/lang/IllegalStateException", Cond.fieldLink RX4 79 "BranchPredictor" "flying" "I", Cond.methodLink RX4 75 yX4_requirePlace, Cond.static yX4_requirePlace, Cond.code yX4_requirePlace cX4_requirePlace 1 none, Cond.classLink RX4 68 "java/lang/IllegalArgumentException", Cond.initialized "java/lang/IllegalArgumentException", Cond.constant RX4 199 (65535), Cond.methodLink RX4 87 yX4_launch, Cond.instanceMethod yX4_launch, Cond.selects RX4 yX4_launch yX4_launch, Cond.code yX4_launch cX4_launch 3 (some .boolean), Cond.fieldLink RX4 126 "BranchPredictor$Branch" "place" "I", Cond.fieldLink RX4 97 "BranchPredictor$Branch" "state" "I", Cond.fieldLink RX4 119 "BranchPredictor" "outcomes" "I", Cond.fieldLink RX4 116 "BranchPredictor$Branch" "historyAhead" "I"]
def wsL_predict_r2 : List Cond := [Cond.fieldLink RX4 12 "BranchPredictor" "plainTable" "LBranchPredictor$CounterTable;", Cond.fieldLink RX4 216 "BranchPredictor$Branch" "plainIndex" "I", Cond.fieldLink RX4 16 "BranchPredictor" "globalTable" "LBranchPredictor$CounterTable;", Cond.fieldLink RX4 219 "BranchPredictor$Branch" "globalIndex" "I", Cond.fieldLink RX4 225 "BranchPredictor$Branch" "isPlainTaken" "Z", Cond.fieldLink RX4 229 "BranchPredictor$Branch" "isGlobalTaken" "Z", Cond.fieldLink RX4 19 "BranchPredictor" "choiceTable" "LBranchPredictor$CounterTable;", Cond.fieldLink RX4 232 "BranchPredictor$Branch" "isChoiceTaken" "Z", Cond.fieldLink RX4 239 "BranchPredictor$Branch" "isPredictedTaken" "Z", Cond.methodLink RX4 93 yX4_branchAt, Cond.instanceMethod yX4_branchAt, Cond.selects RX4 yX4_branchAt yX4_branchAt, Cond.code yX4_branchAt cX4_branchAt 2 (some (.object "BranchPredictor$Branch")), Cond.fieldLink RX4 34 "BranchPredictor" "ring" "[LBranchPredictor$Branch;", Cond.fieldLink RX4 210 "BranchPredictor" "oldest" "I", Cond.methodLink RX4 213 yX2_indexFor, Cond.instanceMethod yX2_indexFor, Cond.selects RX2 yX2_indexFor yX2_indexFor, Cond.initialized RX2, Cond.code yX2_indexFor cX2_indexFor 2 (some .int), Cond.fieldLink RX2 15 "BranchPredictor$CounterTable" "size" "I", Cond.methodLink RX4 222 yX2_saysTaken, Cond.instanceMethod yX2_saysTaken, Cond.selects RX2 yX2_saysTaken yX2_saysTaken]
def wsL_predict_r3 : List Cond := [Cond.code yX2_saysTaken cX2_saysTaken 2 (some .boolean), Cond.methodLink RX2 19 yX2_valueAt, Cond.instanceMethod yX2_valueAt, Cond.selects RX2 yX2_valueAt yX2_valueAt, Cond.code yX2_valueAt cX2_valueAt 2 (some .int), Cond.fieldLink RX2 9 "BranchPredictor$CounterTable" "values" "[I", Cond.methodLink RX4 235 yX4_loopPrediction, Cond.instanceMethod yX4_loopPrediction, Cond.selects RX4 yX4_loopPrediction yX4_loopPrediction, Cond.code yX4_loopPrediction cX4_loopPrediction 4 (some .boolean), Cond.fieldLink RX4 40 "BranchPredictor" "loops" "[LBranchPredictor$Loop;", Cond.fieldLink RX4 164 "BranchPredictor$Loop" "trust" "I", Cond.fieldLink RX4 161 "BranchPredictor$Loop" "trip" "I", Cond.methodLink RX4 245 yX4_loopWith, Cond.instanceMethod yX4_loopWith, Cond.selects RX4 yX4_loopWith yX4_loopWith, Cond.code yX4_loopWith cX4_loopWith 3 (some .int), Cond.fieldLink RX4 157 "BranchPredictor$Loop" "place" "I", Cond.methodLink RX4 167 yX4_presumedCount, Cond.instanceMethod yX4_presumedCount, Cond.selects RX4 yX4_presumedCount yX4_presumedCount, Cond.code yX4_presumedCount cX4_presumedCount 5 (some .int), Cond.fieldLink RX4 158 "BranchPredictor$Loop" "count" "I", Cond.methodLink RX4 248 yX1_isPresumedTaken]
def wsL_predict_r4 : List Cond := [Cond.instanceMethod yX1_isPresumedTaken, Cond.selects RX1 yX1_isPresumedTaken yX1_isPresumedTaken, Cond.initialized RX1, Cond.code yX1_isPresumedTaken cX1_isPresumedTaken 1 (some .boolean), Cond.fieldLink RX1 24 "BranchPredictor$Branch" "state" "I", Cond.fieldLink RX1 21 "BranchPredictor$Branch" "isPredictedTaken" "Z", Cond.methodLink RX4 242 yX4_appended, Cond.instanceMethod yX4_appended, Cond.selects RX4 yX4_appended yX4_appended, Cond.code yX4_appended cX4_appended 4 (some .int), Cond.fieldLink RX4 55 "BranchPredictor" "historyBits" "I"]
def wsL_predict : List Cond := .codeWith yL_predict cL_predict 4 (some .int) [(0, 16, 19, 13), (0, 16, 22, 19)] :: ((wsL_predict_r1 ++ (wsL_predict_r2 ++ (wsL_predict_r3 ++ wsL_predict_r4))) ++ wsX40 ++ wsX10 ++ wsX20 ++ wsX30 ++ (vx_atS RX4 86 "java/lang/IllegalStateException" ["java/lang/RuntimeException", "java/lang/Exception"]).filter goodWord ++ (vx_atS RX4 72 "java/lang/IllegalArgumentException" ["java/lang/RuntimeException", "java/lang/Exception"]).filter goodWord)
def wsL_resolve_r1 : List Cond := [Cond.classLink RL 25 "java/lang/IndexOutOfBoundsException", Cond.classLink RL 19 "java/lang/IllegalStateException", Cond.methodLink RL 21 yX4_resolve, Cond.instanceMethod yX4_resolve, Cond.selects RX4 yX4_resolve yX4_resolve, Cond.initialized RX4, Cond.code yX4_resolve cX4_resolve 3 (some .int), Cond.classLink RX4 82 "java/lang/IllegalStateException", Cond.initialized "java/lang/IllegalStateException", Cond.fieldLink RX4 97 "BranchPredictor$Branch" "state" "I", Cond.methodLink RX4 90 yX4_requireInFlight, Cond.instanceMethod yX4_requireInFlight, Cond.selects RX4 yX4_requireInFlight yX4_requireInFlight, Cond.code yX4_requireInFlight cX4_requireInFlight 2 none, Cond.classLink RX4 135 "java/lang/IndexOutOfBoundsException", Cond.initialized "java/lang/IndexOutOfBoundsException", Cond.fieldLink RX4 79 "BranchPredictor" "flying" "I", Cond.methodLink RX4 93 yX4_branchAt, Cond.instanceMethod yX4_branchAt, Cond.selects RX4 yX4_branchAt yX4_branchAt, Cond.code yX4_branchAt cX4_branchAt 2 (some (.object "BranchPredictor$Branch")), Cond.fieldLink RX4 34 "BranchPredictor" "ring" "[LBranchPredictor$Branch;", Cond.fieldLink RX4 210 "BranchPredictor" "oldest" "I", Cond.methodLink RX4 102 yX4_settle]
def wsL_resolve_r2 : List Cond := [Cond.instanceMethod yX4_settle, Cond.selects RX4 yX4_settle yX4_settle, Cond.code yX4_settle cX4_settle 4 (some .int), Cond.fieldLink RX4 239 "BranchPredictor$Branch" "isPredictedTaken" "Z", Cond.fieldLink RX4 116 "BranchPredictor$Branch" "historyAhead" "I", Cond.fieldLink RX4 119 "BranchPredictor" "outcomes" "I", Cond.methodLink RX4 242 yX4_appended, Cond.instanceMethod yX4_appended, Cond.selects RX4 yX4_appended yX4_appended, Cond.code yX4_appended cX4_appended 4 (some .int), Cond.fieldLink RX4 55 "BranchPredictor" "historyBits" "I", Cond.methodLink RX4 122 yX4_dropFrom, Cond.instanceMethod yX4_dropFrom, Cond.selects RX4 yX4_dropFrom yX4_dropFrom, Cond.code yX4_dropFrom cX4_dropFrom 3 (some .int), Cond.fieldLink RX4 175 "BranchPredictor" "dropped" "J"]
def wsL_resolve : List Cond := .codeWith yL_resolve cL_resolve 5 (some .int) [(0, 10, 13, 25), (0, 10, 17, 19)] :: ((wsL_resolve_r1 ++ wsL_resolve_r2) ++ wsX10 ++ wsX40 ++ (vx_atS RX4 86 "java/lang/IllegalStateException" ["java/lang/RuntimeException", "java/lang/Exception"]).filter goodWord ++ (vx_atS RX4 139 "java/lang/IndexOutOfBoundsException" ["java/lang/RuntimeException", "java/lang/Exception"]).filter goodWord)
def wsL_commit_r1 : List Cond := [Cond.classLink RL 19 "java/lang/IllegalStateException", Cond.methodLink RL 27 yX4_commit, Cond.instanceMethod yX4_commit, Cond.selects RX4 yX4_commit yX4_commit, Cond.initialized RX4, Cond.code yX4_commit cX4_commit 1 (some .boolean), Cond.classLink RX4 82 "java/lang/IllegalStateException", Cond.initialized "java/lang/IllegalStateException", Cond.fieldLink RX4 79 "BranchPredictor" "flying" "I", Cond.fieldLink RX4 97 "BranchPredictor$Branch" "state" "I", Cond.methodLink RX4 93 yX4_branchAt, Cond.instanceMethod yX4_branchAt, Cond.selects RX4 yX4_branchAt yX4_branchAt, Cond.code yX4_branchAt cX4_branchAt 2 (some (.object "BranchPredictor$Branch")), Cond.fieldLink RX4 34 "BranchPredictor" "ring" "[LBranchPredictor$Branch;", Cond.fieldLink RX4 210 "BranchPredictor" "oldest" "I", Cond.methodLink RX4 108 yX4_retire, Cond.instanceMethod yX4_retire, Cond.selects RX4 yX4_retire yX4_retire, Cond.code yX4_retire cX4_retire 3 (some .boolean), Cond.fieldLink RX4 12 "BranchPredictor" "plainTable" "LBranchPredictor$CounterTable;", Cond.fieldLink RX4 25 "BranchPredictor" "plainAudit" "LBranchPredictor$Audit;", Cond.fieldLink RX4 216 "BranchPredictor$Branch" "plainIndex" "I", Cond.fieldLink RX4 126 "BranchPredictor$Branch" "place" "I"]
def wsL_commit_r2 : List Cond := [Cond.fieldLink RX4 16 "BranchPredictor" "globalTable" "LBranchPredictor$CounterTable;", Cond.fieldLink RX4 29 "BranchPredictor" "globalAudit" "LBranchPredictor$Audit;", Cond.fieldLink RX4 219 "BranchPredictor$Branch" "globalIndex" "I", Cond.fieldLink RX4 171 "BranchPredictor" "committed" "J", Cond.methodLink RX4 248 yX1_isPresumedTaken, Cond.instanceMethod yX1_isPresumedTaken, Cond.selects RX1 yX1_isPresumedTaken yX1_isPresumedTaken, Cond.initialized RX1, Cond.code yX1_isPresumedTaken cX1_isPresumedTaken 1 (some .boolean), Cond.fieldLink RX1 24 "BranchPredictor$Branch" "state" "I", Cond.fieldLink RX1 21 "BranchPredictor$Branch" "isPredictedTaken" "Z", Cond.methodLink RX4 251 yX4_countMisses, Cond.instanceMethod yX4_countMisses, Cond.selects RX4 yX4_countMisses yX4_countMisses, Cond.code yX4_countMisses cX4_countMisses 4 none, Cond.fieldLink RX4 44 "BranchPredictor" "missed" "[J", Cond.methodLink RX4 132 yX1_saidTaken, Cond.instanceMethod yX1_saidTaken, Cond.selects RX1 yX1_saidTaken yX1_saidTaken, Cond.code yX1_saidTaken cX1_saidTaken 2 (some .boolean), Cond.fieldLink RX1 9 "BranchPredictor$Branch" "isPlainTaken" "Z", Cond.fieldLink RX1 15 "BranchPredictor$Branch" "isGlobalTaken" "Z", Cond.fieldLink RX1 18 "BranchPredictor$Branch" "isChoiceTaken" "Z", Cond.methodLink RX4 255 yX4_learnChoice]
def wsL_commit_r3 : List Cond := [Cond.instanceMethod yX4_learnChoice, Cond.selects RX4 yX4_learnChoice yX4_learnChoice, Cond.code yX4_learnChoice cX4_learnChoice 3 none, Cond.fieldLink RX4 225 "BranchPredictor$Branch" "isPlainTaken" "Z", Cond.fieldLink RX4 229 "BranchPredictor$Branch" "isGlobalTaken" "Z", Cond.fieldLink RX4 19 "BranchPredictor" "choiceTable" "LBranchPredictor$CounterTable;", Cond.methodLink RX4 265 yX2_move, Cond.instanceMethod yX2_move, Cond.selects RX2 yX2_move yX2_move, Cond.initialized RX2, Cond.code yX2_move cX2_move 5 none, Cond.methodLink RX2 23 Lib.Math.min.name, Cond.static Lib.Math.min.name, Cond.initialized "java/lang/Math", Cond.code Lib.Math.min.name Lib.Math.min.code 2 (some .int), Cond.methodLink RX2 29 Lib.Math.max.name, Cond.static Lib.Math.max.name, Cond.code Lib.Math.max.name Lib.Math.max.code 2 (some .int), Cond.fieldLink RX2 9 "BranchPredictor$CounterTable" "values" "[I", Cond.methodLink RX2 19 yX2_valueAt, Cond.instanceMethod yX2_valueAt, Cond.selects RX2 yX2_valueAt yX2_valueAt, Cond.code yX2_valueAt cX2_valueAt 2 (some .int), Cond.methodLink RX4 258 yX4_learnOutcome]
def wsL_commit_r4 : List Cond := [Cond.static yX4_learnOutcome, Cond.code yX4_learnOutcome cX4_learnOutcome 5 none, Cond.methodLink RX4 222 yX2_saysTaken, Cond.instanceMethod yX2_saysTaken, Cond.selects RX2 yX2_saysTaken yX2_saysTaken, Cond.code yX2_saysTaken cX2_saysTaken 2 (some .boolean), Cond.methodLink RX4 269 yX0_note, Cond.instanceMethod yX0_note, Cond.selects RX0 yX0_note yX0_note, Cond.initialized RX0, Cond.code yX0_note cX0_note 6 none, Cond.fieldLink RX0 9 "BranchPredictor$Audit" "latestPlaces" "[I", Cond.fieldLink RX0 15 "BranchPredictor$Audit" "allMeetings" "J", Cond.fieldLink RX0 19 "BranchPredictor$Audit" "harmfulMeetings" "J", Cond.methodLink RX4 262 yX4_learnLoop, Cond.instanceMethod yX4_learnLoop, Cond.selects RX4 yX4_learnLoop yX4_learnLoop, Cond.code yX4_learnLoop cX4_learnLoop 4 none, Cond.fieldLink RX4 40 "BranchPredictor" "loops" "[LBranchPredictor$Loop;", Cond.methodLink RX4 245 yX4_loopWith, Cond.instanceMethod yX4_loopWith, Cond.selects RX4 yX4_loopWith yX4_loopWith, Cond.code yX4_loopWith cX4_loopWith 3 (some .int), Cond.fieldLink RX4 157 "BranchPredictor$Loop" "place" "I"]
def wsL_commit_r5 : List Cond := [Cond.methodLink RX4 273 yX3_learn, Cond.instanceMethod yX3_learn, Cond.selects RX3 yX3_learn yX3_learn, Cond.initialized RX3, Cond.code yX3_learn cX3_learn 2 none, Cond.fieldLink RX3 15 "BranchPredictor$Loop" "count" "I", Cond.fieldLink RX3 9 "BranchPredictor$Loop" "place" "I", Cond.fieldLink RX3 18 "BranchPredictor$Loop" "trip" "I", Cond.fieldLink RX3 21 "BranchPredictor$Loop" "trust" "I", Cond.methodLink RX3 24 Lib.Math.min.name, Cond.methodLink RX4 277 yX4_numberForNewLoop, Cond.instanceMethod yX4_numberForNewLoop, Cond.selects RX4 yX4_numberForNewLoop yX4_numberForNewLoop, Cond.code yX4_numberForNewLoop cX4_numberForNewLoop 3 (some .int), Cond.fieldLink RX4 164 "BranchPredictor$Loop" "trust" "I", Cond.methodLink RX4 154 yX3_isFree, Cond.instanceMethod yX3_isFree, Cond.selects RX3 yX3_isFree yX3_isFree, Cond.code yX3_isFree cX3_isFree 1 (some .boolean), Cond.methodLink RX4 281 yX3_startAnew, Cond.instanceMethod yX3_startAnew, Cond.selects RX3 yX3_startAnew yX3_startAnew, Cond.code yX3_startAnew cX3_startAnew 2 none]
def wsL_commit : List Cond := .codeWith yL_commit cL_commit 3 (some .int) [(0, 15, 18, 19)] :: ((wsL_commit_r1 ++ (wsL_commit_r2 ++ (wsL_commit_r3 ++ (wsL_commit_r4 ++ wsL_commit_r5)))) ++ wsX40 ++ wsX10 ++ wsX20 ++ wsX00 ++ wsX30 ++ (vx_atS RX4 86 "java/lang/IllegalStateException" ["java/lang/RuntimeException", "java/lang/Exception"]).filter goodWord)
def wsL_train_r1 : List Cond := [Cond.classLink RL 13 "java/lang/IllegalArgumentException", Cond.classLink RL 19 "java/lang/IllegalStateException", Cond.methodLink RL 31 yX4_train, Cond.instanceMethod yX4_train, Cond.selects RX4 yX4_train yX4_train, Cond.initialized RX4, Cond.code yX4_train cX4_train 3 (some .boolean), Cond.classLink RX4 82 "java/lang/IllegalStateException", Cond.initialized "java/lang/IllegalStateException", Cond.fieldLink RX4 79 "BranchPredictor" "flying" "I", Cond.methodLink RX4 75 yX4_requirePlace, Cond.static yX4_requirePlace, Cond.code yX4_requirePlace cX4_requirePlace 1 none, Cond.classLink RX4 68 "java/lang/IllegalArgumentException", Cond.initialized "java/lang/IllegalArgumentException", Cond.constant RX4 199 (65535), Cond.methodLink RX4 87 yX4_launch, Cond.instanceMethod yX4_launch, Cond.selects RX4 yX4_launch yX4_launch, Cond.code yX4_launch cX4_launch 3 (some .boolean), Cond.fieldLink RX4 126 "BranchPredictor$Branch" "place" "I", Cond.fieldLink RX4 97 "BranchPredictor$Branch" "state" "I", Cond.fieldLink RX4 119 "BranchPredictor" "outcomes" "I", Cond.fieldLink RX4 116 "BranchPredictor$Branch" "historyAhead" "I"]
def wsL_train_r2 : List Cond := [Cond.fieldLink RX4 12 "BranchPredictor" "plainTable" "LBranchPredictor$CounterTable;", Cond.fieldLink RX4 216 "BranchPredictor$Branch" "plainIndex" "I", Cond.fieldLink RX4 16 "BranchPredictor" "globalTable" "LBranchPredictor$CounterTable;", Cond.fieldLink RX4 219 "BranchPredictor$Branch" "globalIndex" "I", Cond.fieldLink RX4 225 "BranchPredictor$Branch" "isPlainTaken" "Z", Cond.fieldLink RX4 229 "BranchPredictor$Branch" "isGlobalTaken" "Z", Cond.fieldLink RX4 19 "BranchPredictor" "choiceTable" "LBranchPredictor$CounterTable;", Cond.fieldLink RX4 232 "BranchPredictor$Branch" "isChoiceTaken" "Z", Cond.fieldLink RX4 239 "BranchPredictor$Branch" "isPredictedTaken" "Z", Cond.methodLink RX4 93 yX4_branchAt, Cond.instanceMethod yX4_branchAt, Cond.selects RX4 yX4_branchAt yX4_branchAt, Cond.code yX4_branchAt cX4_branchAt 2 (some (.object "BranchPredictor$Branch")), Cond.fieldLink RX4 34 "BranchPredictor" "ring" "[LBranchPredictor$Branch;", Cond.fieldLink RX4 210 "BranchPredictor" "oldest" "I", Cond.methodLink RX4 213 yX2_indexFor, Cond.instanceMethod yX2_indexFor, Cond.selects RX2 yX2_indexFor yX2_indexFor, Cond.initialized RX2, Cond.code yX2_indexFor cX2_indexFor 2 (some .int), Cond.fieldLink RX2 15 "BranchPredictor$CounterTable" "size" "I", Cond.methodLink RX4 222 yX2_saysTaken, Cond.instanceMethod yX2_saysTaken, Cond.selects RX2 yX2_saysTaken yX2_saysTaken]
def wsL_train_r3 : List Cond := [Cond.code yX2_saysTaken cX2_saysTaken 2 (some .boolean), Cond.methodLink RX2 19 yX2_valueAt, Cond.instanceMethod yX2_valueAt, Cond.selects RX2 yX2_valueAt yX2_valueAt, Cond.code yX2_valueAt cX2_valueAt 2 (some .int), Cond.fieldLink RX2 9 "BranchPredictor$CounterTable" "values" "[I", Cond.methodLink RX4 235 yX4_loopPrediction, Cond.instanceMethod yX4_loopPrediction, Cond.selects RX4 yX4_loopPrediction yX4_loopPrediction, Cond.code yX4_loopPrediction cX4_loopPrediction 4 (some .boolean), Cond.fieldLink RX4 40 "BranchPredictor" "loops" "[LBranchPredictor$Loop;", Cond.fieldLink RX4 164 "BranchPredictor$Loop" "trust" "I", Cond.fieldLink RX4 161 "BranchPredictor$Loop" "trip" "I", Cond.methodLink RX4 245 yX4_loopWith, Cond.instanceMethod yX4_loopWith, Cond.selects RX4 yX4_loopWith yX4_loopWith, Cond.code yX4_loopWith cX4_loopWith 3 (some .int), Cond.fieldLink RX4 157 "BranchPredictor$Loop" "place" "I", Cond.methodLink RX4 167 yX4_presumedCount, Cond.instanceMethod yX4_presumedCount, Cond.selects RX4 yX4_presumedCount yX4_presumedCount, Cond.code yX4_presumedCount cX4_presumedCount 5 (some .int), Cond.fieldLink RX4 158 "BranchPredictor$Loop" "count" "I", Cond.methodLink RX4 248 yX1_isPresumedTaken]
def wsL_train_r4 : List Cond := [Cond.instanceMethod yX1_isPresumedTaken, Cond.selects RX1 yX1_isPresumedTaken yX1_isPresumedTaken, Cond.initialized RX1, Cond.code yX1_isPresumedTaken cX1_isPresumedTaken 1 (some .boolean), Cond.fieldLink RX1 24 "BranchPredictor$Branch" "state" "I", Cond.fieldLink RX1 21 "BranchPredictor$Branch" "isPredictedTaken" "Z", Cond.methodLink RX4 242 yX4_appended, Cond.instanceMethod yX4_appended, Cond.selects RX4 yX4_appended yX4_appended, Cond.code yX4_appended cX4_appended 4 (some .int), Cond.fieldLink RX4 55 "BranchPredictor" "historyBits" "I", Cond.methodLink RX4 102 yX4_settle, Cond.instanceMethod yX4_settle, Cond.selects RX4 yX4_settle yX4_settle, Cond.code yX4_settle cX4_settle 4 (some .int), Cond.methodLink RX4 122 yX4_dropFrom, Cond.instanceMethod yX4_dropFrom, Cond.selects RX4 yX4_dropFrom yX4_dropFrom, Cond.code yX4_dropFrom cX4_dropFrom 3 (some .int), Cond.fieldLink RX4 175 "BranchPredictor" "dropped" "J", Cond.methodLink RX4 108 yX4_retire, Cond.instanceMethod yX4_retire, Cond.selects RX4 yX4_retire yX4_retire, Cond.code yX4_retire cX4_retire 3 (some .boolean)]
def wsL_train_r5 : List Cond := [Cond.fieldLink RX4 25 "BranchPredictor" "plainAudit" "LBranchPredictor$Audit;", Cond.fieldLink RX4 29 "BranchPredictor" "globalAudit" "LBranchPredictor$Audit;", Cond.fieldLink RX4 171 "BranchPredictor" "committed" "J", Cond.methodLink RX4 251 yX4_countMisses, Cond.instanceMethod yX4_countMisses, Cond.selects RX4 yX4_countMisses yX4_countMisses, Cond.code yX4_countMisses cX4_countMisses 4 none, Cond.fieldLink RX4 44 "BranchPredictor" "missed" "[J", Cond.methodLink RX4 132 yX1_saidTaken, Cond.instanceMethod yX1_saidTaken, Cond.selects RX1 yX1_saidTaken yX1_saidTaken, Cond.code yX1_saidTaken cX1_saidTaken 2 (some .boolean), Cond.fieldLink RX1 9 "BranchPredictor$Branch" "isPlainTaken" "Z", Cond.fieldLink RX1 15 "BranchPredictor$Branch" "isGlobalTaken" "Z", Cond.fieldLink RX1 18 "BranchPredictor$Branch" "isChoiceTaken" "Z", Cond.methodLink RX4 255 yX4_learnChoice, Cond.instanceMethod yX4_learnChoice, Cond.selects RX4 yX4_learnChoice yX4_learnChoice, Cond.code yX4_learnChoice cX4_learnChoice 3 none, Cond.methodLink RX4 265 yX2_move, Cond.instanceMethod yX2_move, Cond.selects RX2 yX2_move yX2_move, Cond.code yX2_move cX2_move 5 none, Cond.methodLink RX2 23 Lib.Math.min.name]
def wsL_train_r6 : List Cond := [Cond.static Lib.Math.min.name, Cond.initialized "java/lang/Math", Cond.code Lib.Math.min.name Lib.Math.min.code 2 (some .int), Cond.methodLink RX2 29 Lib.Math.max.name, Cond.static Lib.Math.max.name, Cond.code Lib.Math.max.name Lib.Math.max.code 2 (some .int), Cond.methodLink RX4 258 yX4_learnOutcome, Cond.static yX4_learnOutcome, Cond.code yX4_learnOutcome cX4_learnOutcome 5 none, Cond.methodLink RX4 269 yX0_note, Cond.instanceMethod yX0_note, Cond.selects RX0 yX0_note yX0_note, Cond.initialized RX0, Cond.code yX0_note cX0_note 6 none, Cond.fieldLink RX0 9 "BranchPredictor$Audit" "latestPlaces" "[I", Cond.fieldLink RX0 15 "BranchPredictor$Audit" "allMeetings" "J", Cond.fieldLink RX0 19 "BranchPredictor$Audit" "harmfulMeetings" "J", Cond.methodLink RX4 262 yX4_learnLoop, Cond.instanceMethod yX4_learnLoop, Cond.selects RX4 yX4_learnLoop yX4_learnLoop, Cond.code yX4_learnLoop cX4_learnLoop 4 none, Cond.methodLink RX4 273 yX3_learn, Cond.instanceMethod yX3_learn, Cond.selects RX3 yX3_learn yX3_learn]
def wsL_train_r7 : List Cond := [Cond.initialized RX3, Cond.code yX3_learn cX3_learn 2 none, Cond.fieldLink RX3 15 "BranchPredictor$Loop" "count" "I", Cond.fieldLink RX3 9 "BranchPredictor$Loop" "place" "I", Cond.fieldLink RX3 18 "BranchPredictor$Loop" "trip" "I", Cond.fieldLink RX3 21 "BranchPredictor$Loop" "trust" "I", Cond.methodLink RX3 24 Lib.Math.min.name, Cond.methodLink RX4 277 yX4_numberForNewLoop, Cond.instanceMethod yX4_numberForNewLoop, Cond.selects RX4 yX4_numberForNewLoop yX4_numberForNewLoop, Cond.code yX4_numberForNewLoop cX4_numberForNewLoop 3 (some .int), Cond.methodLink RX4 154 yX3_isFree, Cond.instanceMethod yX3_isFree, Cond.selects RX3 yX3_isFree yX3_isFree, Cond.code yX3_isFree cX3_isFree 1 (some .boolean), Cond.methodLink RX4 281 yX3_startAnew, Cond.instanceMethod yX3_startAnew, Cond.selects RX3 yX3_startAnew yX3_startAnew, Cond.code yX3_startAnew cX3_startAnew 2 none]
def wsL_train : List Cond := .codeWith yL_train cL_train 5 (some .int) [(0, 17, 20, 13), (0, 17, 24, 19)] :: ((wsL_train_r1 ++ (wsL_train_r2 ++ (wsL_train_r3 ++ (wsL_train_r4 ++ (wsL_train_r5 ++ (wsL_train_r6 ++ wsL_train_r7)))))) ++ wsX40 ++ wsX10 ++ wsX20 ++ wsX30 ++ wsX00 ++ (vx_atS RX4 86 "java/lang/IllegalStateException" ["java/lang/RuntimeException", "java/lang/Exception"]).filter goodWord ++ (vx_atS RX4 72 "java/lang/IllegalArgumentException" ["java/lang/RuntimeException", "java/lang/Exception"]).filter goodWord)
def wsL_flush : List Cond := .codeWith yL_flush cL_flush 4 (some .int) [(0, 9, 12, 13)] :: ([.classLink RL 13 "java/lang/IllegalArgumentException", .methodLink RL 35 yX4_flush, .instanceMethod yX4_flush, .selects RX4 yX4_flush yX4_flush, .initialized RX4, .code yX4_flush cX4_flush 3 (some .int), .classLink RX4 68 "java/lang/IllegalArgumentException", .initialized "java/lang/IllegalArgumentException", .fieldLink RX4 79 "BranchPredictor" "flying" "I", .fieldLink RX4 116 "BranchPredictor$Branch" "historyAhead" "I", .fieldLink RX4 119 "BranchPredictor" "outcomes" "I", .methodLink RX4 93 yX4_branchAt, .instanceMethod yX4_branchAt, .selects RX4 yX4_branchAt yX4_branchAt, .code yX4_branchAt cX4_branchAt 2 (some (.object "BranchPredictor$Branch")), .fieldLink RX4 34 "BranchPredictor" "ring" "[LBranchPredictor$Branch;", .fieldLink RX4 210 "BranchPredictor" "oldest" "I", .methodLink RX4 122 yX4_dropFrom, .instanceMethod yX4_dropFrom, .selects RX4 yX4_dropFrom yX4_dropFrom, .code yX4_dropFrom cX4_dropFrom 3 (some .int), .fieldLink RX4 175 "BranchPredictor" "dropped" "J"] ++ wsX40 ++ wsX10 ++ (vx_atS RX4 72 "java/lang/IllegalArgumentException" ["java/lang/RuntimeException", "java/lang/Exception"]).filter goodWord)
def wsL_place : List Cond := .codeWith yL_place cL_place 4 (some .int) [(0, 9, 12, 25)] :: ([.classLink RL 25 "java/lang/IndexOutOfBoundsException", .methodLink RL 39 yX4_place, .instanceMethod yX4_place, .selects RX4 yX4_place yX4_place, .initialized RX4, .code yX4_place cX4_place 2 (some .int), .fieldLink RX4 126 "BranchPredictor$Branch" "place" "I", .methodLink RX4 90 yX4_requireInFlight, .instanceMethod yX4_requireInFlight, .selects RX4 yX4_requireInFlight yX4_requireInFlight, .code yX4_requireInFlight cX4_requireInFlight 2 none, .classLink RX4 135 "java/lang/IndexOutOfBoundsException", .initialized "java/lang/IndexOutOfBoundsException", .fieldLink RX4 79 "BranchPredictor" "flying" "I", .methodLink RX4 93 yX4_branchAt, .instanceMethod yX4_branchAt, .selects RX4 yX4_branchAt yX4_branchAt, .code yX4_branchAt cX4_branchAt 2 (some (.object "BranchPredictor$Branch")), .fieldLink RX4 34 "BranchPredictor" "ring" "[LBranchPredictor$Branch;", .fieldLink RX4 210 "BranchPredictor" "oldest" "I"] ++ wsX10 ++ wsX40 ++ (vx_atS RX4 139 "java/lang/IndexOutOfBoundsException" ["java/lang/RuntimeException", "java/lang/Exception"]).filter goodWord)
def wsL_state : List Cond := .codeWith yL_state cL_state 4 (some .int) [(0, 9, 12, 25)] :: ([.classLink RL 25 "java/lang/IndexOutOfBoundsException", .methodLink RL 42 yX4_state, .instanceMethod yX4_state, .selects RX4 yX4_state yX4_state, .initialized RX4, .code yX4_state cX4_state 2 (some .int), .fieldLink RX4 97 "BranchPredictor$Branch" "state" "I", .methodLink RX4 90 yX4_requireInFlight, .instanceMethod yX4_requireInFlight, .selects RX4 yX4_requireInFlight yX4_requireInFlight, .code yX4_requireInFlight cX4_requireInFlight 2 none, .classLink RX4 135 "java/lang/IndexOutOfBoundsException", .initialized "java/lang/IndexOutOfBoundsException", .fieldLink RX4 79 "BranchPredictor" "flying" "I", .methodLink RX4 93 yX4_branchAt, .instanceMethod yX4_branchAt, .selects RX4 yX4_branchAt yX4_branchAt, .code yX4_branchAt cX4_branchAt 2 (some (.object "BranchPredictor$Branch")), .fieldLink RX4 34 "BranchPredictor" "ring" "[LBranchPredictor$Branch;", .fieldLink RX4 210 "BranchPredictor" "oldest" "I"] ++ wsX10 ++ wsX40 ++ (vx_atS RX4 139 "java/lang/IndexOutOfBoundsException" ["java/lang/RuntimeException", "java/lang/Exception"]).filter goodWord)
def wsL_predicted_r1 : List Cond := [Cond.classLink RL 25 "java/lang/IndexOutOfBoundsException", Cond.methodLink RL 45 yX4_predicted, Cond.instanceMethod yX4_predicted, Cond.selects RX4 yX4_predicted yX4_predicted, Cond.initialized RX4, Cond.code yX4_predicted cX4_predicted 3 (some .boolean), Cond.methodLink RX4 90 yX4_requireInFlight, Cond.instanceMethod yX4_requireInFlight, Cond.selects RX4 yX4_requireInFlight yX4_requireInFlight, Cond.code yX4_requireInFlight cX4_requireInFlight 2 none, Cond.classLink RX4 135 "java/lang/IndexOutOfBoundsException", Cond.initialized "java/lang/IndexOutOfBoundsException", Cond.fieldLink RX4 79 "BranchPredictor" "flying" "I", Cond.methodLink RX4 129 yX4_requireKind, Cond.static yX4_requireKind, Cond.code yX4_requireKind cX4_requireKind 1 none, Cond.methodLink RX4 93 yX4_branchAt, Cond.instanceMethod yX4_branchAt, Cond.selects RX4 yX4_branchAt yX4_branchAt, Cond.code yX4_branchAt cX4_branchAt 2 (some (.object "BranchPredictor$Branch")), Cond.fieldLink RX4 34 "BranchPredictor" "ring" "[LBranchPredictor$Branch;", Cond.fieldLink RX4 210 "BranchPredictor" "oldest" "I", Cond.methodLink RX4 132 yX1_saidTaken, Cond.instanceMethod yX1_saidTaken]
def wsL_predicted_r2 : List Cond := [Cond.selects RX1 yX1_saidTaken yX1_saidTaken, Cond.initialized RX1, Cond.code yX1_saidTaken cX1_saidTaken 2 (some .boolean), Cond.fieldLink RX1 9 "BranchPredictor$Branch" "isPlainTaken" "Z", Cond.fieldLink RX1 15 "BranchPredictor$Branch" "isGlobalTaken" "Z", Cond.fieldLink RX1 18 "BranchPredictor$Branch" "isChoiceTaken" "Z", Cond.fieldLink RX1 21 "BranchPredictor$Branch" "isPredictedTaken" "Z"]
def wsL_predicted : List Cond := .codeWith yL_predicted cL_predicted 5 (some .int) [(0, 17, 20, 25)] :: ((wsL_predicted_r1 ++ wsL_predicted_r2) ++ wsX40 ++ wsX10 ++ (vx_atS RX4 139 "java/lang/IndexOutOfBoundsException" ["java/lang/RuntimeException", "java/lang/Exception"]).filter goodWord)
def wsL_counter : List Cond := .codeWith yL_counter cL_counter 5 (some .int) [(0, 10, 13, 25)] :: ([.classLink RL 25 "java/lang/IndexOutOfBoundsException", .methodLink RL 49 yX4_counter, .instanceMethod yX4_counter, .selects RX4 yX4_counter yX4_counter, .initialized RX4, .code yX4_counter cX4_counter 4 (some .int), .classLink RX4 135 "java/lang/IndexOutOfBoundsException", .initialized "java/lang/IndexOutOfBoundsException", .fieldLink RX4 144 "BranchPredictor$CounterTable" "size" "I", .methodLink RX4 140 yX4_tableWith, .instanceMethod yX4_tableWith, .selects RX4 yX4_tableWith yX4_tableWith, .code yX4_tableWith cX4_tableWith 2 (some (.object "BranchPredictor$CounterTable")), .fieldLink RX4 12 "BranchPredictor" "plainTable" "LBranchPredictor$CounterTable;", .fieldLink RX4 16 "BranchPredictor" "globalTable" "LBranchPredictor$CounterTable;", .fieldLink RX4 19 "BranchPredictor" "choiceTable" "LBranchPredictor$CounterTable;", .methodLink RX4 149 yX2_valueAt, .instanceMethod yX2_valueAt, .selects RX2 yX2_valueAt yX2_valueAt, .initialized RX2, .code yX2_valueAt cX2_valueAt 2 (some .int), .fieldLink RX2 9 "BranchPredictor$CounterTable" "values" "[I"] ++ wsX20 ++ wsX40 ++ (vx_atS RX4 139 "java/lang/IndexOutOfBoundsException" ["java/lang/RuntimeException", "java/lang/Exception"]).filter goodWord)
def wsL_loop_r1 : List Cond := [Cond.classLink RL 25 "java/lang/IndexOutOfBoundsException", Cond.methodLink RL 53 yX4_loop, Cond.instanceMethod yX4_loop, Cond.selects RX4 yX4_loop yX4_loop, Cond.initialized RX4, Cond.code yX4_loop cX4_loop 4 (some .int), Cond.classLink RX4 135 "java/lang/IndexOutOfBoundsException", Cond.initialized "java/lang/IndexOutOfBoundsException", Cond.fieldLink RX4 40 "BranchPredictor" "loops" "[LBranchPredictor$Loop;", Cond.fieldLink RX4 157 "BranchPredictor$Loop" "place" "I", Cond.fieldLink RX4 158 "BranchPredictor$Loop" "count" "I", Cond.fieldLink RX4 161 "BranchPredictor$Loop" "trip" "I", Cond.fieldLink RX4 164 "BranchPredictor$Loop" "trust" "I", Cond.methodLink RX4 154 yX3_isFree, Cond.instanceMethod yX3_isFree, Cond.selects RX3 yX3_isFree yX3_isFree, Cond.initialized RX3, Cond.code yX3_isFree cX3_isFree 1 (some .boolean), Cond.fieldLink RX3 9 "BranchPredictor$Loop" "place" "I", Cond.methodLink RX4 167 yX4_presumedCount, Cond.instanceMethod yX4_presumedCount, Cond.selects RX4 yX4_presumedCount yX4_presumedCount, Cond.code yX4_presumedCount cX4_presumedCount 5 (some .int), Cond.fieldLink RX4 79 "BranchPredictor" "flying" "I"]
def wsL_loop_r2 : List Cond := [Cond.fieldLink RX4 126 "BranchPredictor$Branch" "place" "I", Cond.methodLink RX4 93 yX4_branchAt, Cond.instanceMethod yX4_branchAt, Cond.selects RX4 yX4_branchAt yX4_branchAt, Cond.code yX4_branchAt cX4_branchAt 2 (some (.object "BranchPredictor$Branch")), Cond.fieldLink RX4 34 "BranchPredictor" "ring" "[LBranchPredictor$Branch;", Cond.fieldLink RX4 210 "BranchPredictor" "oldest" "I", Cond.methodLink RX4 248 yX1_isPresumedTaken, Cond.instanceMethod yX1_isPresumedTaken, Cond.selects RX1 yX1_isPresumedTaken yX1_isPresumedTaken, Cond.initialized RX1, Cond.code yX1_isPresumedTaken cX1_isPresumedTaken 1 (some .boolean), Cond.fieldLink RX1 24 "BranchPredictor$Branch" "state" "I", Cond.fieldLink RX1 21 "BranchPredictor$Branch" "isPredictedTaken" "Z"]
def wsL_loop : List Cond := .codeWith yL_loop cL_loop 5 (some .int) [(0, 10, 13, 25)] :: ((wsL_loop_r1 ++ wsL_loop_r2) ++ wsX40 ++ wsX30 ++ wsX10 ++ (vx_atS RX4 139 "java/lang/IndexOutOfBoundsException" ["java/lang/RuntimeException", "java/lang/Exception"]).filter goodWord)
def wsL_misses : List Cond := .codeWith yL_misses cL_misses 4 (some .int) [(0, 8, 11, 25)] :: ([.classLink RL 25 "java/lang/IndexOutOfBoundsException", .methodLink RL 56 yX4_misses, .instanceMethod yX4_misses, .selects RX4 yX4_misses yX4_misses, .initialized RX4, .code yX4_misses cX4_misses 2 (some .long), .fieldLink RX4 44 "BranchPredictor" "missed" "[J", .methodLink RX4 129 yX4_requireKind, .static yX4_requireKind, .code yX4_requireKind cX4_requireKind 1 none, .classLink RX4 135 "java/lang/IndexOutOfBoundsException", .initialized "java/lang/IndexOutOfBoundsException"] ++ wsX40 ++ (vx_atS RX4 139 "java/lang/IndexOutOfBoundsException" ["java/lang/RuntimeException", "java/lang/Exception"]).filter goodWord)
def wsL_meetings : List Cond := .codeWith yL_meetings cL_meetings 5 (some .int) [(0, 9, 12, 25)] :: ([.classLink RL 25 "java/lang/IndexOutOfBoundsException", .methodLink RL 60 yX4_meetings, .instanceMethod yX4_meetings, .selects RX4 yX4_meetings yX4_meetings, .initialized RX4, .code yX4_meetings cX4_meetings 4 (some .long), .classLink RX4 135 "java/lang/IndexOutOfBoundsException", .initialized "java/lang/IndexOutOfBoundsException", .fieldLink RX4 25 "BranchPredictor" "plainAudit" "LBranchPredictor$Audit;", .fieldLink RX4 29 "BranchPredictor" "globalAudit" "LBranchPredictor$Audit;", .fieldLink RX4 180 "BranchPredictor$Audit" "harmfulMeetings" "J", .fieldLink RX4 183 "BranchPredictor$Audit" "allMeetings" "J"] ++ wsX40 ++ wsX00 ++ (vx_atS RX4 139 "java/lang/IndexOutOfBoundsException" ["java/lang/RuntimeException", "java/lang/Exception"]).filter goodWord)
def wsL_law0_r1 : List Cond := [Cond.classLink RL 8 RX4, Cond.instantiable RX4 16, Cond.initialized RX4, Cond.classLink RL 65 RX5, Cond.instantiable RX5 22, Cond.initialized RX5, Cond.arrayClass .long, Cond.methodLink RL 64 yX4_init, Cond.instanceMethod yX4_init, Cond.code yX4_init cX4_init 2 none, Cond.methodLink RX4 3 objectInit, Cond.instanceMethod objectInit, Cond.code objectInit ⟨#[0xb1]⟩ 1 none, Cond.classLink RX4 9 RX2, Cond.instantiable RX2 2, Cond.initialized RX2, Cond.fieldLink RX4 12 "BranchPredictor" "plainTable" "LBranchPredictor$CounterTable;", Cond.fieldLink RX4 16 "BranchPredictor" "globalTable" "LBranchPredictor$CounterTable;", Cond.fieldLink RX4 19 "BranchPredictor" "choiceTable" "LBranchPredictor$CounterTable;", Cond.classLink RX4 22 RX0, Cond.instantiable RX0 3, Cond.initialized RX0, Cond.fieldLink RX4 25 "BranchPredictor" "plainAudit" "LBranchPredictor$Audit;", Cond.fieldLink RX4 29 "BranchPredictor" "globalAudit" "LBranchPredictor$Audit;"]
def wsL_law0_r2 : List Cond := [Cond.classLink RX4 32 RX1, Cond.fieldLink RX4 34 "BranchPredictor" "ring" "[LBranchPredictor$Branch;", Cond.classLink RX4 38 RX3, Cond.fieldLink RX4 40 "BranchPredictor" "loops" "[LBranchPredictor$Loop;", Cond.fieldLink RX4 44 "BranchPredictor" "missed" "[J", Cond.fieldLink RX4 48 "BranchPredictor" "plainBits" "I", Cond.fieldLink RX4 52 "BranchPredictor" "globalBits" "I", Cond.fieldLink RX4 55 "BranchPredictor" "historyBits" "I", Cond.instantiable RX1 9, Cond.initialized RX1, Cond.instantiable RX3 4, Cond.initialized RX3, Cond.instanceMethod yX2_init, Cond.code yX2_init cX2_init 1 none, Cond.methodLink RX2 3 objectInit, Cond.arrayClass .int, Cond.fieldLink RX2 9 "BranchPredictor$CounterTable" "values" "[I", Cond.fieldLink RX2 15 "BranchPredictor$CounterTable" "size" "I", Cond.instanceMethod yX0_init, Cond.code yX0_init cX0_init 1 none, Cond.methodLink RX0 3 objectInit, Cond.fieldLink RX0 9 "BranchPredictor$Audit" "latestPlaces" "[I", Cond.instanceMethod yX1_init, Cond.code yX1_init cX1_init 1 none]
def wsL_law0_r3 : List Cond := [Cond.methodLink RX1 3 objectInit, Cond.instanceMethod yX3_init, Cond.code yX3_init cX3_init 1 none, Cond.methodLink RX3 3 objectInit, Cond.fieldLink RX3 9 "BranchPredictor$Loop" "place" "I", Cond.methodLink RX4 60 yX4_startAnew, Cond.instanceMethod yX4_startAnew, Cond.selects RX4 yX4_startAnew yX4_startAnew, Cond.code yX4_startAnew cX4_startAnew 5 none, Cond.fieldLink RX4 157 "BranchPredictor$Loop" "place" "I", Cond.fieldLink RX4 119 "BranchPredictor" "outcomes" "I", Cond.fieldLink RX4 210 "BranchPredictor" "oldest" "I", Cond.fieldLink RX4 79 "BranchPredictor" "flying" "I", Cond.fieldLink RX4 171 "BranchPredictor" "committed" "J", Cond.fieldLink RX4 175 "BranchPredictor" "dropped" "J", Cond.methodLink RX4 206 yX2_startAnew, Cond.instanceMethod yX2_startAnew, Cond.selects RX2 yX2_startAnew yX2_startAnew, Cond.code yX2_startAnew cX2_startAnew 3 none, Cond.methodLink RX4 208 yX0_startAnew, Cond.instanceMethod yX0_startAnew, Cond.selects RX0 yX0_startAnew yX0_startAnew, Cond.code yX0_startAnew cX0_startAnew 2 none, Cond.fieldLink RX0 15 "BranchPredictor$Audit" "allMeetings" "J"]
def wsL_law0_r4 : List Cond := [Cond.fieldLink RX0 19 "BranchPredictor$Audit" "harmfulMeetings" "J", Cond.methodLink RL 67 yX5_init, Cond.instanceMethod yX5_init, Cond.code yX5_init cX5_init 1 none, Cond.methodLink RX5 1 objectInit, Cond.fieldLink RX5 9 "BranchPredictorModel" "counters" "[I", Cond.fieldLink RX5 13 "BranchPredictorModel" "latestPlaces" "[I", Cond.fieldLink RX5 16 "BranchPredictorModel" "places" "[I", Cond.fieldLink RX5 19 "BranchPredictorModel" "histories" "[I", Cond.arrayClass .boolean, Cond.fieldLink RX5 22 "BranchPredictorModel" "predictions" "[Z", Cond.fieldLink RX5 26 "BranchPredictorModel" "areResolved" "[Z", Cond.fieldLink RX5 29 "BranchPredictorModel" "outcomes" "[Z", Cond.fieldLink RX5 32 "BranchPredictorModel" "isLoop" "[Z", Cond.fieldLink RX5 35 "BranchPredictorModel" "loopPlaces" "[I", Cond.fieldLink RX5 38 "BranchPredictorModel" "loopCounts" "[I", Cond.fieldLink RX5 41 "BranchPredictorModel" "trips" "[I", Cond.fieldLink RX5 44 "BranchPredictorModel" "trusts" "[I", Cond.fieldLink RX5 47 "BranchPredictorModel" "misses" "[J", Cond.fieldLink RX5 51 "BranchPredictorModel" "meetings" "[J", Cond.methodLink RX5 54 yX5_begin, Cond.instanceMethod yX5_begin, Cond.selects RX5 yX5_begin yX5_begin, Cond.code yX5_begin cX5_begin 5 none]
def wsL_law0_r5 : List Cond := [Cond.fieldLink RX5 62 "BranchPredictorModel" "p" "I", Cond.fieldLink RX5 65 "BranchPredictorModel" "g" "I", Cond.fieldLink RX5 68 "BranchPredictorModel" "h" "I", Cond.fieldLink RX5 71 "BranchPredictorModel" "history" "I", Cond.fieldLink RX5 74 "BranchPredictorModel" "flying" "I", Cond.fieldLink RX5 77 "BranchPredictorModel" "commits" "J", Cond.fieldLink RX5 81 "BranchPredictorModel" "drops" "J", Cond.methodLink RL 68 yL_setSizes, Cond.static yL_setSizes, Cond.initialized RL, Cond.codeWith yL_setSizes cL_setSizes 6 (some .int) [(0, 19, 22, 13)], Cond.classLink RL 13 "java/lang/IllegalArgumentException", Cond.methodLink RL 7 yX4_setSizes, Cond.instanceMethod yX4_setSizes, Cond.selects RX4 yX4_setSizes yX4_setSizes, Cond.code yX4_setSizes cX4_setSizes 5 (some .boolean), Cond.classLink RX4 68 "java/lang/IllegalArgumentException", Cond.initialized "java/lang/IllegalArgumentException", Cond.methodLink RX4 64 yX4_isTableBits, Cond.static yX4_isTableBits, Cond.code yX4_isTableBits cX4_isTableBits 1 (some .boolean), Cond.methodLink RL 73 yX5_setSizes, Cond.instanceMethod yX5_setSizes, Cond.selects RX5 yX5_setSizes yX5_setSizes]
def wsL_law0_r6 : List Cond := [Cond.code yX5_setSizes cX5_setSizes 5 (some .boolean), Cond.fieldLink RX5 58 "BranchPredictorModel" "thrown" "I", Cond.methodLink RX5 84 yX5_failed, Cond.instanceMethod yX5_failed, Cond.selects RX5 yX5_failed yX5_failed, Cond.code yX5_failed cX5_failed 2 (some .boolean), Cond.methodLink RL 74 yX5_thrown, Cond.instanceMethod yX5_thrown, Cond.selects RX5 yX5_thrown yX5_thrown, Cond.code yX5_thrown cX5_thrown 1 (some .int), Cond.methodLink RL 78 yL_predict, Cond.static yL_predict, Cond.codeWith yL_predict cL_predict 4 (some .int) [(0, 16, 19, 13), (0, 16, 22, 19)], Cond.classLink RL 19 "java/lang/IllegalStateException", Cond.methodLink RL 15 yX4_predict, Cond.instanceMethod yX4_predict, Cond.selects RX4 yX4_predict yX4_predict, Cond.code yX4_predict cX4_predict 2 (some .boolean), Cond.classLink RX4 82 "java/lang/IllegalStateException", Cond.initialized "java/lang/IllegalStateException", Cond.methodLink RX4 75 yX4_requirePlace, Cond.static yX4_requirePlace, Cond.code yX4_requirePlace cX4_requirePlace 1 none, Cond.constant RX4 199 (65535)]
def wsL_law0_r7 : List Cond := [Cond.methodLink RX4 87 yX4_launch, Cond.instanceMethod yX4_launch, Cond.selects RX4 yX4_launch yX4_launch, Cond.code yX4_launch cX4_launch 3 (some .boolean), Cond.fieldLink RX4 126 "BranchPredictor$Branch" "place" "I", Cond.fieldLink RX4 97 "BranchPredictor$Branch" "state" "I", Cond.fieldLink RX4 116 "BranchPredictor$Branch" "historyAhead" "I", Cond.fieldLink RX4 216 "BranchPredictor$Branch" "plainIndex" "I", Cond.fieldLink RX4 219 "BranchPredictor$Branch" "globalIndex" "I", Cond.fieldLink RX4 225 "BranchPredictor$Branch" "isPlainTaken" "Z", Cond.fieldLink RX4 229 "BranchPredictor$Branch" "isGlobalTaken" "Z", Cond.fieldLink RX4 232 "BranchPredictor$Branch" "isChoiceTaken" "Z", Cond.fieldLink RX4 239 "BranchPredictor$Branch" "isPredictedTaken" "Z", Cond.methodLink RX4 93 yX4_branchAt, Cond.instanceMethod yX4_branchAt, Cond.selects RX4 yX4_branchAt yX4_branchAt, Cond.code yX4_branchAt cX4_branchAt 2 (some (.object "BranchPredictor$Branch")), Cond.methodLink RX4 213 yX2_indexFor, Cond.instanceMethod yX2_indexFor, Cond.selects RX2 yX2_indexFor yX2_indexFor, Cond.code yX2_indexFor cX2_indexFor 2 (some .int), Cond.methodLink RX4 222 yX2_saysTaken, Cond.instanceMethod yX2_saysTaken, Cond.selects RX2 yX2_saysTaken yX2_saysTaken]
def wsL_law0_r8 : List Cond := [Cond.code yX2_saysTaken cX2_saysTaken 2 (some .boolean), Cond.methodLink RX2 19 yX2_valueAt, Cond.instanceMethod yX2_valueAt, Cond.selects RX2 yX2_valueAt yX2_valueAt, Cond.code yX2_valueAt cX2_valueAt 2 (some .int), Cond.methodLink RX4 235 yX4_loopPrediction, Cond.instanceMethod yX4_loopPrediction, Cond.selects RX4 yX4_loopPrediction yX4_loopPrediction, Cond.code yX4_loopPrediction cX4_loopPrediction 4 (some .boolean), Cond.fieldLink RX4 164 "BranchPredictor$Loop" "trust" "I", Cond.fieldLink RX4 161 "BranchPredictor$Loop" "trip" "I", Cond.methodLink RX4 245 yX4_loopWith, Cond.instanceMethod yX4_loopWith, Cond.selects RX4 yX4_loopWith yX4_loopWith, Cond.code yX4_loopWith cX4_loopWith 3 (some .int), Cond.methodLink RX4 167 yX4_presumedCount, Cond.instanceMethod yX4_presumedCount, Cond.selects RX4 yX4_presumedCount yX4_presumedCount, Cond.code yX4_presumedCount cX4_presumedCount 5 (some .int), Cond.fieldLink RX4 158 "BranchPredictor$Loop" "count" "I", Cond.methodLink RX4 248 yX1_isPresumedTaken, Cond.instanceMethod yX1_isPresumedTaken, Cond.selects RX1 yX1_isPresumedTaken yX1_isPresumedTaken, Cond.code yX1_isPresumedTaken cX1_isPresumedTaken 1 (some .boolean)]
def wsL_law0_r9 : List Cond := [Cond.fieldLink RX1 24 "BranchPredictor$Branch" "state" "I", Cond.fieldLink RX1 21 "BranchPredictor$Branch" "isPredictedTaken" "Z", Cond.methodLink RX4 242 yX4_appended, Cond.instanceMethod yX4_appended, Cond.selects RX4 yX4_appended yX4_appended, Cond.code yX4_appended cX4_appended 4 (some .int), Cond.methodLink RL 81 yX5_predict, Cond.instanceMethod yX5_predict, Cond.selects RX5 yX5_predict yX5_predict, Cond.code yX5_predict cX5_predict 2 (some .boolean), Cond.constant RX5 115 (65536), Cond.methodLink RX5 116 yX5_add, Cond.instanceMethod yX5_add, Cond.selects RX5 yX5_add yX5_add, Cond.code yX5_add cX5_add 5 (some .boolean), Cond.methodLink RX5 91 yX5_plainIndex, Cond.instanceMethod yX5_plainIndex, Cond.selects RX5 yX5_plainIndex yX5_plainIndex, Cond.code yX5_plainIndex cX5_plainIndex 2 (some .int), Cond.methodLink RX5 95 yX5_says, Cond.instanceMethod yX5_says, Cond.selects RX5 yX5_says yX5_says, Cond.code yX5_says cX5_says 2 (some .boolean), Cond.methodLink RX5 98 yX5_globalIndex]
def wsL_law0_r10 : List Cond := [Cond.instanceMethod yX5_globalIndex, Cond.selects RX5 yX5_globalIndex yX5_globalIndex, Cond.code yX5_globalIndex cX5_globalIndex 3 (some .int), Cond.methodLink RX5 102 yX5_choiceIndex, Cond.instanceMethod yX5_choiceIndex, Cond.selects RX5 yX5_choiceIndex yX5_choiceIndex, Cond.code yX5_choiceIndex cX5_choiceIndex 2 (some .int), Cond.methodLink RX5 105 yX5_loopOf, Cond.instanceMethod yX5_loopOf, Cond.selects RX5 yX5_loopOf yX5_loopOf, Cond.code yX5_loopOf cX5_loopOf 3 (some .int), Cond.methodLink RX5 108 yX5_presumed, Cond.instanceMethod yX5_presumed, Cond.selects RX5 yX5_presumed yX5_presumed, Cond.code yX5_presumed cX5_presumed 4 (some .int), Cond.methodLink RX5 88 yX5_isTaken, Cond.instanceMethod yX5_isTaken, Cond.selects RX5 yX5_isTaken yX5_isTaken, Cond.code yX5_isTaken cX5_isTaken 2 (some .boolean), Cond.methodLink RX5 111 yX5_appended, Cond.instanceMethod yX5_appended, Cond.selects RX5 yX5_appended yX5_appended, Cond.code yX5_appended cX5_appended 3 (some .int), Cond.methodLink RL 82 yL_resolve]
def wsL_law0_r11 : List Cond := [Cond.static yL_resolve, Cond.codeWith yL_resolve cL_resolve 5 (some .int) [(0, 10, 13, 25), (0, 10, 17, 19)], Cond.classLink RL 25 "java/lang/IndexOutOfBoundsException", Cond.methodLink RL 21 yX4_resolve, Cond.instanceMethod yX4_resolve, Cond.selects RX4 yX4_resolve yX4_resolve, Cond.code yX4_resolve cX4_resolve 3 (some .int), Cond.methodLink RX4 90 yX4_requireInFlight, Cond.instanceMethod yX4_requireInFlight, Cond.selects RX4 yX4_requireInFlight yX4_requireInFlight, Cond.code yX4_requireInFlight cX4_requireInFlight 2 none, Cond.classLink RX4 135 "java/lang/IndexOutOfBoundsException", Cond.initialized "java/lang/IndexOutOfBoundsException", Cond.methodLink RX4 102 yX4_settle, Cond.instanceMethod yX4_settle, Cond.selects RX4 yX4_settle yX4_settle, Cond.code yX4_settle cX4_settle 4 (some .int), Cond.methodLink RX4 122 yX4_dropFrom, Cond.instanceMethod yX4_dropFrom, Cond.selects RX4 yX4_dropFrom yX4_dropFrom, Cond.code yX4_dropFrom cX4_dropFrom 3 (some .int), Cond.methodLink RL 85 yX5_resolve, Cond.instanceMethod yX5_resolve, Cond.selects RX5 yX5_resolve yX5_resolve]
def wsL_law0_r12 : List Cond := [Cond.code yX5_resolve cX5_resolve 3 (some .int), Cond.methodLink RX5 122 yX5_isFlying, Cond.instanceMethod yX5_isFlying, Cond.selects RX5 yX5_isFlying yX5_isFlying, Cond.code yX5_isFlying cX5_isFlying 2 (some .boolean), Cond.methodLink RX5 125 yX5_fail, Cond.instanceMethod yX5_fail, Cond.selects RX5 yX5_fail yX5_fail, Cond.code yX5_fail cX5_fail 2 (some .int), Cond.methodLink RX5 128 yX5_settle, Cond.instanceMethod yX5_settle, Cond.selects RX5 yX5_settle yX5_settle, Cond.code yX5_settle cX5_settle 4 (some .int), Cond.methodLink RX5 119 yX5_isWrong, Cond.instanceMethod yX5_isWrong, Cond.selects RX5 yX5_isWrong yX5_isWrong, Cond.code yX5_isWrong cX5_isWrong 2 (some .boolean), Cond.methodLink RL 86 yL_commit, Cond.static yL_commit, Cond.codeWith yL_commit cL_commit 3 (some .int) [(0, 15, 18, 19)], Cond.methodLink RL 27 yX4_commit, Cond.instanceMethod yX4_commit, Cond.selects RX4 yX4_commit yX4_commit, Cond.code yX4_commit cX4_commit 1 (some .boolean)]
def wsL_law0_r13 : List Cond := [Cond.methodLink RX4 108 yX4_retire, Cond.instanceMethod yX4_retire, Cond.selects RX4 yX4_retire yX4_retire, Cond.code yX4_retire cX4_retire 3 (some .boolean), Cond.methodLink RX4 251 yX4_countMisses, Cond.instanceMethod yX4_countMisses, Cond.selects RX4 yX4_countMisses yX4_countMisses, Cond.code yX4_countMisses cX4_countMisses 4 none, Cond.methodLink RX4 132 yX1_saidTaken, Cond.instanceMethod yX1_saidTaken, Cond.selects RX1 yX1_saidTaken yX1_saidTaken, Cond.code yX1_saidTaken cX1_saidTaken 2 (some .boolean), Cond.fieldLink RX1 9 "BranchPredictor$Branch" "isPlainTaken" "Z", Cond.fieldLink RX1 15 "BranchPredictor$Branch" "isGlobalTaken" "Z", Cond.fieldLink RX1 18 "BranchPredictor$Branch" "isChoiceTaken" "Z", Cond.methodLink RX4 255 yX4_learnChoice, Cond.instanceMethod yX4_learnChoice, Cond.selects RX4 yX4_learnChoice yX4_learnChoice, Cond.code yX4_learnChoice cX4_learnChoice 3 none, Cond.methodLink RX4 265 yX2_move, Cond.instanceMethod yX2_move, Cond.selects RX2 yX2_move yX2_move, Cond.code yX2_move cX2_move 5 none, Cond.methodLink RX2 23 Lib.Math.min.name]
def wsL_law0_r14 : List Cond := [Cond.static Lib.Math.min.name, Cond.initialized "java/lang/Math", Cond.code Lib.Math.min.name Lib.Math.min.code 2 (some .int), Cond.methodLink RX2 29 Lib.Math.max.name, Cond.static Lib.Math.max.name, Cond.code Lib.Math.max.name Lib.Math.max.code 2 (some .int), Cond.methodLink RX4 258 yX4_learnOutcome, Cond.static yX4_learnOutcome, Cond.code yX4_learnOutcome cX4_learnOutcome 5 none, Cond.methodLink RX4 269 yX0_note, Cond.instanceMethod yX0_note, Cond.selects RX0 yX0_note yX0_note, Cond.code yX0_note cX0_note 6 none, Cond.methodLink RX4 262 yX4_learnLoop, Cond.instanceMethod yX4_learnLoop, Cond.selects RX4 yX4_learnLoop yX4_learnLoop, Cond.code yX4_learnLoop cX4_learnLoop 4 none, Cond.methodLink RX4 273 yX3_learn, Cond.instanceMethod yX3_learn, Cond.selects RX3 yX3_learn yX3_learn, Cond.code yX3_learn cX3_learn 2 none, Cond.fieldLink RX3 15 "BranchPredictor$Loop" "count" "I", Cond.fieldLink RX3 18 "BranchPredictor$Loop" "trip" "I", Cond.fieldLink RX3 21 "BranchPredictor$Loop" "trust" "I"]
def wsL_law0_r15 : List Cond := [Cond.methodLink RX3 24 Lib.Math.min.name, Cond.methodLink RX4 277 yX4_numberForNewLoop, Cond.instanceMethod yX4_numberForNewLoop, Cond.selects RX4 yX4_numberForNewLoop yX4_numberForNewLoop, Cond.code yX4_numberForNewLoop cX4_numberForNewLoop 3 (some .int), Cond.methodLink RX4 154 yX3_isFree, Cond.instanceMethod yX3_isFree, Cond.selects RX3 yX3_isFree yX3_isFree, Cond.code yX3_isFree cX3_isFree 1 (some .boolean), Cond.methodLink RX4 281 yX3_startAnew, Cond.instanceMethod yX3_startAnew, Cond.selects RX3 yX3_startAnew yX3_startAnew, Cond.code yX3_startAnew cX3_startAnew 2 none, Cond.methodLink RL 89 yX5_commit, Cond.instanceMethod yX5_commit, Cond.selects RX5 yX5_commit yX5_commit, Cond.code yX5_commit cX5_commit 1 (some .boolean), Cond.methodLink RX5 155 yX5_learn, Cond.instanceMethod yX5_learn, Cond.selects RX5 yX5_learn yX5_learn, Cond.code yX5_learn cX5_learn 6 (some .boolean), Cond.methodLink RX5 143 yX5_change, Cond.instanceMethod yX5_change, Cond.selects RX5 yX5_change yX5_change]
def wsL_law0_r16 : List Cond := [Cond.code yX5_change cX5_change 3 none, Cond.methodLink RX5 131 Lib.Math.min.name, Cond.methodLink RX5 136 Lib.Math.max.name, Cond.methodLink RX5 147 yX5_audit, Cond.instanceMethod yX5_audit, Cond.selects RX5 yX5_audit yX5_audit, Cond.code yX5_audit cX5_audit 5 none, Cond.methodLink RX5 151 yX5_learnLoop, Cond.instanceMethod yX5_learnLoop, Cond.selects RX5 yX5_learnLoop yX5_learnLoop, Cond.code yX5_learnLoop cX5_learnLoop 5 none, Cond.methodLink RX5 139 yX5_makeLoop, Cond.instanceMethod yX5_makeLoop, Cond.selects RX5 yX5_makeLoop yX5_makeLoop, Cond.code yX5_makeLoop cX5_makeLoop 4 none, Cond.methodLink RL 90 yL_train, Cond.static yL_train, Cond.codeWith yL_train cL_train 5 (some .int) [(0, 17, 20, 13), (0, 17, 24, 19)], Cond.methodLink RL 31 yX4_train, Cond.instanceMethod yX4_train, Cond.selects RX4 yX4_train yX4_train, Cond.code yX4_train cX4_train 3 (some .boolean), Cond.methodLink RL 92 yX5_train, Cond.instanceMethod yX5_train]
def wsL_law0_r17 : List Cond := [Cond.selects RX5 yX5_train yX5_train, Cond.code yX5_train cX5_train 3 (some .boolean), Cond.methodLink RL 93 yL_flush, Cond.static yL_flush, Cond.codeWith yL_flush cL_flush 4 (some .int) [(0, 9, 12, 13)], Cond.methodLink RL 35 yX4_flush, Cond.instanceMethod yX4_flush, Cond.selects RX4 yX4_flush yX4_flush, Cond.code yX4_flush cX4_flush 3 (some .int), Cond.methodLink RL 95 yX5_flush, Cond.instanceMethod yX5_flush, Cond.selects RX5 yX5_flush yX5_flush, Cond.code yX5_flush cX5_flush 2 (some .int), Cond.methodLink RL 96 yX4_inFlight, Cond.instanceMethod yX4_inFlight, Cond.selects RX4 yX4_inFlight yX4_inFlight, Cond.code yX4_inFlight cX4_inFlight 1 (some .int), Cond.methodLink RL 99 yX5_inFlight, Cond.instanceMethod yX5_inFlight, Cond.selects RX5 yX5_inFlight yX5_inFlight, Cond.code yX5_inFlight cX5_inFlight 1 (some .int), Cond.methodLink RL 100 yL_place, Cond.static yL_place, Cond.codeWith yL_place cL_place 4 (some .int) [(0, 9, 12, 25)]]
def wsL_law0_r18 : List Cond := [Cond.methodLink RL 39 yX4_place, Cond.instanceMethod yX4_place, Cond.selects RX4 yX4_place yX4_place, Cond.code yX4_place cX4_place 2 (some .int), Cond.methodLink RL 102 yX5_place, Cond.instanceMethod yX5_place, Cond.selects RX5 yX5_place yX5_place, Cond.code yX5_place cX5_place 2 (some .int), Cond.methodLink RL 103 yL_state, Cond.static yL_state, Cond.codeWith yL_state cL_state 4 (some .int) [(0, 9, 12, 25)], Cond.methodLink RL 42 yX4_state, Cond.instanceMethod yX4_state, Cond.selects RX4 yX4_state yX4_state, Cond.code yX4_state cX4_state 2 (some .int), Cond.methodLink RL 105 yX5_state, Cond.instanceMethod yX5_state, Cond.selects RX5 yX5_state yX5_state, Cond.code yX5_state cX5_state 2 (some .int), Cond.methodLink RX5 159 yX5_stateOf, Cond.instanceMethod yX5_stateOf, Cond.selects RX5 yX5_stateOf yX5_stateOf, Cond.code yX5_stateOf cX5_stateOf 2 (some .int), Cond.methodLink RL 106 yL_predicted]
def wsL_law0_r19 : List Cond := [Cond.static yL_predicted, Cond.codeWith yL_predicted cL_predicted 5 (some .int) [(0, 17, 20, 25)], Cond.methodLink RL 45 yX4_predicted, Cond.instanceMethod yX4_predicted, Cond.selects RX4 yX4_predicted yX4_predicted, Cond.code yX4_predicted cX4_predicted 3 (some .boolean), Cond.methodLink RX4 129 yX4_requireKind, Cond.static yX4_requireKind, Cond.code yX4_requireKind cX4_requireKind 1 none, Cond.methodLink RL 109 yX5_predicted, Cond.instanceMethod yX5_predicted, Cond.selects RX5 yX5_predicted yX5_predicted, Cond.code yX5_predicted cX5_predicted 3 (some .boolean), Cond.methodLink RX5 162 yX5_isKind, Cond.static yX5_isKind, Cond.code yX5_isKind cX5_isKind 1 (some .boolean), Cond.methodLink RL 110 yX4_history, Cond.instanceMethod yX4_history, Cond.selects RX4 yX4_history yX4_history, Cond.code yX4_history cX4_history 1 (some .int), Cond.methodLink RL 113 yX5_history, Cond.instanceMethod yX5_history, Cond.selects RX5 yX5_history yX5_history, Cond.code yX5_history cX5_history 1 (some .int)]
def wsL_law0_r20 : List Cond := [Cond.methodLink RL 114 yL_counter, Cond.static yL_counter, Cond.codeWith yL_counter cL_counter 5 (some .int) [(0, 10, 13, 25)], Cond.methodLink RL 49 yX4_counter, Cond.instanceMethod yX4_counter, Cond.selects RX4 yX4_counter yX4_counter, Cond.code yX4_counter cX4_counter 4 (some .int), Cond.fieldLink RX4 144 "BranchPredictor$CounterTable" "size" "I", Cond.methodLink RX4 140 yX4_tableWith, Cond.instanceMethod yX4_tableWith, Cond.selects RX4 yX4_tableWith yX4_tableWith, Cond.code yX4_tableWith cX4_tableWith 2 (some (.object "BranchPredictor$CounterTable")), Cond.methodLink RX4 149 yX2_valueAt, Cond.methodLink RL 116 yX5_counter, Cond.instanceMethod yX5_counter, Cond.selects RX5 yX5_counter yX5_counter, Cond.code yX5_counter cX5_counter 3 (some .int), Cond.methodLink RX5 165 yX5_sizeOf, Cond.instanceMethod yX5_sizeOf, Cond.selects RX5 yX5_sizeOf yX5_sizeOf, Cond.code yX5_sizeOf cX5_sizeOf 2 (some .int), Cond.methodLink RL 117 yL_loop, Cond.static yL_loop, Cond.codeWith yL_loop cL_loop 5 (some .int) [(0, 10, 13, 25)]]
def wsL_law0_r21 : List Cond := [Cond.methodLink RL 53 yX4_loop, Cond.instanceMethod yX4_loop, Cond.selects RX4 yX4_loop yX4_loop, Cond.code yX4_loop cX4_loop 4 (some .int), Cond.methodLink RL 119 yX5_loop, Cond.instanceMethod yX5_loop, Cond.selects RX5 yX5_loop yX5_loop, Cond.code yX5_loop cX5_loop 3 (some .int), Cond.methodLink RX5 168 yX5_ofLoop, Cond.instanceMethod yX5_ofLoop, Cond.selects RX5 yX5_ofLoop yX5_ofLoop, Cond.code yX5_ofLoop cX5_ofLoop 3 (some .int), Cond.methodLink RL 120 yX4_commits, Cond.instanceMethod yX4_commits, Cond.selects RX4 yX4_commits yX4_commits, Cond.code yX4_commits cX4_commits 1 (some .long), Cond.methodLink RL 124 yX5_commits, Cond.instanceMethod yX5_commits, Cond.selects RX5 yX5_commits yX5_commits, Cond.code yX5_commits cX5_commits 1 (some .long), Cond.methodLink RL 125 yL_misses, Cond.static yL_misses, Cond.codeWith yL_misses cL_misses 4 (some .int) [(0, 8, 11, 25)], Cond.methodLink RL 56 yX4_misses]
def wsL_law0_r22 : List Cond := [Cond.instanceMethod yX4_misses, Cond.selects RX4 yX4_misses yX4_misses, Cond.code yX4_misses cX4_misses 2 (some .long), Cond.methodLink RL 127 yX5_misses, Cond.instanceMethod yX5_misses, Cond.selects RX5 yX5_misses yX5_misses, Cond.code yX5_misses cX5_misses 2 (some .long), Cond.methodLink RL 128 yX4_drops, Cond.instanceMethod yX4_drops, Cond.selects RX4 yX4_drops yX4_drops, Cond.code yX4_drops cX4_drops 1 (some .long), Cond.methodLink RL 131 yX5_drops, Cond.instanceMethod yX5_drops, Cond.selects RX5 yX5_drops yX5_drops, Cond.code yX5_drops cX5_drops 1 (some .long), Cond.methodLink RL 132 yL_meetings, Cond.static yL_meetings, Cond.codeWith yL_meetings cL_meetings 5 (some .int) [(0, 9, 12, 25)], Cond.methodLink RL 60 yX4_meetings, Cond.instanceMethod yX4_meetings, Cond.selects RX4 yX4_meetings yX4_meetings, Cond.code yX4_meetings cX4_meetings 4 (some .long), Cond.fieldLink RX4 180 "BranchPredictor$Audit" "harmfulMeetings" "J", Cond.fieldLink RX4 183 "BranchPredictor$Audit" "allMeetings" "J"]
def wsL_law0_r23 : List Cond := [Cond.methodLink RL 134 yX5_meetings, Cond.instanceMethod yX5_meetings, Cond.selects RX5 yX5_meetings yX5_meetings, Cond.code yX5_meetings cX5_meetings 3 (some .long), Cond.methodLink RL 135 yX4_accuracy, Cond.instanceMethod yX4_accuracy, Cond.selects RX4 yX4_accuracy yX4_accuracy, Cond.code yX4_accuracy cX4_accuracy 3 (some .double), Cond.methodLink RL 139 yX5_accuracy, Cond.instanceMethod yX5_accuracy, Cond.selects RX5 yX5_accuracy yX5_accuracy, Cond.code yX5_accuracy cX5_accuracy 1 (some .double), Cond.methodLink RL 140 yX4_digest, Cond.instanceMethod yX4_digest, Cond.selects RX4 yX4_digest yX4_digest, Cond.code yX4_digest cX4_digest 4 (some .long), Cond.constantLong RX4 186 (71), Cond.methodLink RX4 188 yX4_mix, Cond.static yX4_mix, Cond.code yX4_mix cX4_mix 4 (some .long), Cond.constantLong RX4 197 (31), Cond.methodLink RX4 192 yX2_mixInto, Cond.instanceMethod yX2_mixInto, Cond.selects RX2 yX2_mixInto yX2_mixInto]
def wsL_law0_r24 : List Cond := [Cond.code yX2_mixInto cX2_mixInto 6 (some .long), Cond.methodLink RX4 196 yX3_mixInto, Cond.instanceMethod yX3_mixInto, Cond.selects RX3 yX3_mixInto yX3_mixInto, Cond.code yX3_mixInto cX3_mixInto 6 (some .long), Cond.constantLong RX3 34 (-1), Cond.methodLink RX3 30 yX3_isFree, Cond.methodLink RL 143 yX5_digest, Cond.instanceMethod yX5_digest, Cond.selects RX5 yX5_digest yX5_digest, Cond.code yX5_digest cX5_digest 5 (some .long), Cond.constantLong RX5 171 (2201), Cond.constantLong RX5 173 (31)]
def wsL_law0 : List Cond := (wsL_law0_r1 ++ (wsL_law0_r2 ++ (wsL_law0_r3 ++ (wsL_law0_r4 ++ (wsL_law0_r5 ++ (wsL_law0_r6 ++ (wsL_law0_r7 ++ (wsL_law0_r8 ++ (wsL_law0_r9 ++ (wsL_law0_r10 ++ (wsL_law0_r11 ++ (wsL_law0_r12 ++ (wsL_law0_r13 ++ (wsL_law0_r14 ++ (wsL_law0_r15 ++ (wsL_law0_r16 ++ (wsL_law0_r17 ++ (wsL_law0_r18 ++ (wsL_law0_r19 ++ (wsL_law0_r20 ++ (wsL_law0_r21 ++ (wsL_law0_r22 ++ (wsL_law0_r23 ++ wsL_law0_r24))))))))))))))))))))))) ++ wsX40 ++ wsX50 ++ wsX20 ++ wsX00 ++ wsX10 ++ wsX30 ++ ([] : List Cond)
def wsL_law : List Cond := wsL_law0 ++ (vx_atS RX4 72 "java/lang/IllegalArgumentException" ["java/lang/RuntimeException", "java/lang/Exception"]).filter goodWord ++ (vx_atS RX4 86 "java/lang/IllegalStateException" ["java/lang/RuntimeException", "java/lang/Exception"]).filter goodWord ++ (vx_atS RX4 139 "java/lang/IndexOutOfBoundsException" ["java/lang/RuntimeException", "java/lang/Exception"]).filter goodWord
