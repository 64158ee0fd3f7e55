section
-- ===== PART A: goes FIRST, ahead of the names: the tables' words, and 'selects' of the private methods out of them =====
/-- a private method of a class that the tables say can be made, by its rows of tables_1 -/
def lw_okq (q : MethodName × Nat) : Prop := (q.1.cls ≠ "java/lang/invoke/MethodHandle" ∧ q.1.cls ≠ "java/lang/invoke/VarHandle") ∧ Cond.instantiable q.1.cls q.2 ∈ tables_1 ∧ Cond.privateMethod q.1 ∈ tables_1 ∧ Cond.instanceMethod q.1 ∈ tables_1
theorem lw_p0 : lw_okq (⟨"Kickroom", "isMudBarrier", "()Z"⟩, 8) := ⟨⟨by decide +kernel, by decide +kernel⟩, List.mem_of_getElem? (i := 16) (by decide +kernel), List.mem_of_getElem? (i := 179) (by decide +kernel), List.mem_of_getElem? (i := 180) (by decide +kernel)⟩
theorem lw_p1 : lw_okq (⟨"Kickroom$Well", "hasInflow", "()Z"⟩, 15) := ⟨⟨by decide +kernel, by decide +kernel⟩, List.mem_of_getElem? (i := 50) (by decide +kernel), List.mem_of_getElem? (i := 183) (by decide +kernel), List.mem_of_getElem? (i := 184) (by decide +kernel)⟩
theorem lw_p2 : lw_okq (⟨"Kickroom$Well", "hasGas", "()Z"⟩, 15) := ⟨⟨by decide +kernel, by decide +kernel⟩, List.mem_of_getElem? (i := 50) (by decide +kernel), List.mem_of_getElem? (i := 187) (by decide +kernel), List.mem_of_getElem? (i := 188) (by decide +kernel)⟩
theorem lw_p3 : lw_okq (⟨"Kickroom$Well", "bottom", "()I"⟩, 15) := ⟨⟨by decide +kernel, by decide +kernel⟩, List.mem_of_getElem? (i := 50) (by decide +kernel), List.mem_of_getElem? (i := 191) (by decide +kernel), List.mem_of_getElem? (i := 192) (by decide +kernel)⟩
theorem lw_p4 : lw_okq (⟨"Kickroom$Well", "column", "()I"⟩, 15) := ⟨⟨by decide +kernel, by decide +kernel⟩, List.mem_of_getElem? (i := 50) (by decide +kernel), List.mem_of_getElem? (i := 195) (by decide +kernel), List.mem_of_getElem? (i := 196) (by decide +kernel)⟩
theorem lw_p5 : lw_okq (⟨"Kickroom$Rock", "poreAt", "(I)I"⟩, 5) := ⟨⟨by decide +kernel, by decide +kernel⟩, List.mem_of_getElem? (i := 24) (by decide +kernel), List.mem_of_getElem? (i := 202) (by decide +kernel), List.mem_of_getElem? (i := 203) (by decide +kernel)⟩
theorem lw_p6 : lw_okq (⟨"Kickroom", "isValveBarrier", "()Z"⟩, 8) := ⟨⟨by decide +kernel, by decide +kernel⟩, List.mem_of_getElem? (i := 16) (by decide +kernel), List.mem_of_getElem? (i := 212) (by decide +kernel), List.mem_of_getElem? (i := 213) (by decide +kernel)⟩
theorem lw_p7 : lw_okq (⟨"Kickroom$Tests", "isPassed", "(I)Z"⟩, 7) := ⟨⟨by decide +kernel, by decide +kernel⟩, List.mem_of_getElem? (i := 115) (by decide +kernel), List.mem_of_getElem? (i := 216) (by decide +kernel), List.mem_of_getElem? (i := 217) (by decide +kernel)⟩
theorem lw_p8 : lw_okq (⟨"Kickroom", "isCementBarrier", "()Z"⟩, 8) := ⟨⟨by decide +kernel, by decide +kernel⟩, List.mem_of_getElem? (i := 16) (by decide +kernel), List.mem_of_getElem? (i := 222) (by decide +kernel), List.mem_of_getElem? (i := 223) (by decide +kernel)⟩
theorem lw_p9 : lw_okq (⟨"java/lang/Throwable", "fillInStackTrace", "(I)Ljava/lang/Throwable;"⟩, 6) := ⟨⟨by decide +kernel, by decide +kernel⟩, List.mem_of_getElem? (i := 288) (by decide +kernel), List.mem_of_getElem? (i := 286) (by decide +kernel), List.mem_of_getElem? (i := 287) (by decide +kernel)⟩
theorem lw_p10 : lw_okq (⟨"Kickroom$Rock", "tellLayer", "(IIIIZ)V"⟩, 5) := ⟨⟨by decide +kernel, by decide +kernel⟩, List.mem_of_getElem? (i := 24) (by decide +kernel), List.mem_of_getElem? (i := 350) (by decide +kernel), List.mem_of_getElem? (i := 351) (by decide +kernel)⟩
theorem lw_p11 : lw_okq (⟨"Kickroom", "hasMinutes", "(I)Z"⟩, 8) := ⟨⟨by decide +kernel, by decide +kernel⟩, List.mem_of_getElem? (i := 16) (by decide +kernel), List.mem_of_getElem? (i := 375) (by decide +kernel), List.mem_of_getElem? (i := 376) (by decide +kernel)⟩
theorem lw_p12 : lw_okq (⟨"Kickroom$Well", "letMinuteGo", "(Z)Z"⟩, 15) := ⟨⟨by decide +kernel, by decide +kernel⟩, List.mem_of_getElem? (i := 50) (by decide +kernel), List.mem_of_getElem? (i := 381) (by decide +kernel), List.mem_of_getElem? (i := 382) (by decide +kernel)⟩
theorem lw_p13 : lw_okq (⟨"Kickroom$Well", "raiseGas", "(Z)V"⟩, 15) := ⟨⟨by decide +kernel, by decide +kernel⟩, List.mem_of_getElem? (i := 50) (by decide +kernel), List.mem_of_getElem? (i := 385) (by decide +kernel), List.mem_of_getElem? (i := 386) (by decide +kernel)⟩
theorem lw_p14 : lw_okq (⟨"Kickroom$Well", "ventGas", "(Z)V"⟩, 15) := ⟨⟨by decide +kernel, by decide +kernel⟩, List.mem_of_getElem? (i := 50) (by decide +kernel), List.mem_of_getElem? (i := 389) (by decide +kernel), List.mem_of_getElem? (i := 390) (by decide +kernel)⟩
theorem lw_p15 : lw_okq (⟨"Kickroom$Well", "measureGas", "()V"⟩, 15) := ⟨⟨by decide +kernel, by decide +kernel⟩, List.mem_of_getElem? (i := 50) (by decide +kernel), List.mem_of_getElem? (i := 393) (by decide +kernel), List.mem_of_getElem? (i := 394) (by decide +kernel)⟩
def lw_privs_1 : List (MethodName × Nat) := [(⟨"Kickroom", "isMudBarrier", "()Z"⟩, 8), (⟨"Kickroom$Well", "hasInflow", "()Z"⟩, 15), (⟨"Kickroom$Well", "hasGas", "()Z"⟩, 15), (⟨"Kickroom$Well", "bottom", "()I"⟩, 15), (⟨"Kickroom$Well", "column", "()I"⟩, 15), (⟨"Kickroom$Rock", "poreAt", "(I)I"⟩, 5), (⟨"Kickroom", "isValveBarrier", "()Z"⟩, 8), (⟨"Kickroom$Tests", "isPassed", "(I)Z"⟩, 7), (⟨"Kickroom", "isCementBarrier", "()Z"⟩, 8), (⟨"java/lang/Throwable", "fillInStackTrace", "(I)Ljava/lang/Throwable;"⟩, 6), (⟨"Kickroom$Rock", "tellLayer", "(IIIIZ)V"⟩, 5), (⟨"Kickroom", "hasMinutes", "(I)Z"⟩, 8), (⟨"Kickroom$Well", "letMinuteGo", "(Z)Z"⟩, 15), (⟨"Kickroom$Well", "raiseGas", "(Z)V"⟩, 15), (⟨"Kickroom$Well", "ventGas", "(Z)V"⟩, 15), (⟨"Kickroom$Well", "measureGas", "()V"⟩, 15)]
theorem lw_r1 : ∀ q ∈ lw_privs_1, lw_okq q := List.forall_mem_cons.mpr ⟨lw_p0, List.forall_mem_cons.mpr ⟨lw_p1, List.forall_mem_cons.mpr ⟨lw_p2, List.forall_mem_cons.mpr ⟨lw_p3, List.forall_mem_cons.mpr ⟨lw_p4, List.forall_mem_cons.mpr ⟨lw_p5, List.forall_mem_cons.mpr ⟨lw_p6, List.forall_mem_cons.mpr ⟨lw_p7, List.forall_mem_cons.mpr ⟨lw_p8, List.forall_mem_cons.mpr ⟨lw_p9, List.forall_mem_cons.mpr ⟨lw_p10, List.forall_mem_cons.mpr ⟨lw_p11, List.forall_mem_cons.mpr ⟨lw_p12, List.forall_mem_cons.mpr ⟨lw_p13, List.forall_mem_cons.mpr ⟨lw_p14, List.forall_mem_cons.mpr ⟨lw_p15, fun _ h => absurd h List.not_mem_nil⟩⟩⟩⟩⟩⟩⟩⟩⟩⟩⟩⟩⟩⟩⟩⟩
theorem lw_p16 : lw_okq (⟨"Kickroom$Well", "gasPressure", "()I"⟩, 15) := ⟨⟨by decide +kernel, by decide +kernel⟩, List.mem_of_getElem? (i := 50) (by decide +kernel), List.mem_of_getElem? (i := 397) (by decide +kernel), List.mem_of_getElem? (i := 398) (by decide +kernel)⟩
theorem lw_p17 : lw_okq (⟨"Kickroom$Well", "setChoke", "()V"⟩, 15) := ⟨⟨by decide +kernel, by decide +kernel⟩, List.mem_of_getElem? (i := 50) (by decide +kernel), List.mem_of_getElem? (i := 404) (by decide +kernel), List.mem_of_getElem? (i := 405) (by decide +kernel)⟩
theorem lw_p18 : lw_okq (⟨"Kickroom$Well", "flowIn", "()Z"⟩, 15) := ⟨⟨by decide +kernel, by decide +kernel⟩, List.mem_of_getElem? (i := 50) (by decide +kernel), List.mem_of_getElem? (i := 409) (by decide +kernel), List.mem_of_getElem? (i := 410) (by decide +kernel)⟩
theorem lw_p19 : lw_okq (⟨"Kickroom$Rock", "rateAt", "(I)I"⟩, 5) := ⟨⟨by decide +kernel, by decide +kernel⟩, List.mem_of_getElem? (i := 24) (by decide +kernel), List.mem_of_getElem? (i := 414) (by decide +kernel), List.mem_of_getElem? (i := 415) (by decide +kernel)⟩
theorem lw_p20 : lw_okq (⟨"Kickroom$Rock", "bearsGasAt", "(I)Z"⟩, 5) := ⟨⟨by decide +kernel, by decide +kernel⟩, List.mem_of_getElem? (i := 24) (by decide +kernel), List.mem_of_getElem? (i := 421) (by decide +kernel), List.mem_of_getElem? (i := 422) (by decide +kernel)⟩
theorem lw_p21 : lw_okq (⟨"Kickroom$Well", "loseAtShoe", "()V"⟩, 15) := ⟨⟨by decide +kernel, by decide +kernel⟩, List.mem_of_getElem? (i := 50) (by decide +kernel), List.mem_of_getElem? (i := 425) (by decide +kernel), List.mem_of_getElem? (i := 426) (by decide +kernel)⟩
theorem lw_p22 : lw_okq (⟨"Kickroom$Well", "foot", "()I"⟩, 15) := ⟨⟨by decide +kernel, by decide +kernel⟩, List.mem_of_getElem? (i := 50) (by decide +kernel), List.mem_of_getElem? (i := 429) (by decide +kernel), List.mem_of_getElem? (i := 430) (by decide +kernel)⟩
theorem lw_p23 : lw_okq (⟨"Kickroom$Rock", "breakAt", "(I)I"⟩, 5) := ⟨⟨by decide +kernel, by decide +kernel⟩, List.mem_of_getElem? (i := 24) (by decide +kernel), List.mem_of_getElem? (i := 433) (by decide +kernel), List.mem_of_getElem? (i := 434) (by decide +kernel)⟩
theorem lw_p24 : lw_okq (⟨"Kickroom$Well", "letMinutesGo", "(I)I"⟩, 15) := ⟨⟨by decide +kernel, by decide +kernel⟩, List.mem_of_getElem? (i := 50) (by decide +kernel), List.mem_of_getElem? (i := 446) (by decide +kernel), List.mem_of_getElem? (i := 447) (by decide +kernel)⟩
theorem lw_p25 : lw_okq (⟨"Kickroom", "pumpOn", "(I)V"⟩, 8) := ⟨⟨by decide +kernel, by decide +kernel⟩, List.mem_of_getElem? (i := 16) (by decide +kernel), List.mem_of_getElem? (i := 475) (by decide +kernel), List.mem_of_getElem? (i := 476) (by decide +kernel)⟩
theorem lw_p26 : lw_okq (⟨"Kickroom$Tests", "keep", "(IIZI)V"⟩, 7) := ⟨⟨by decide +kernel, by decide +kernel⟩, List.mem_of_getElem? (i := 115) (by decide +kernel), List.mem_of_getElem? (i := 505) (by decide +kernel), List.mem_of_getElem? (i := 506) (by decide +kernel)⟩
theorem lw_p27 : lw_okq (⟨"Kickroom$Rock", "leastBreak", "(II)I"⟩, 5) := ⟨⟨by decide +kernel, by decide +kernel⟩, List.mem_of_getElem? (i := 24) (by decide +kernel), List.mem_of_getElem? (i := 563) (by decide +kernel), List.mem_of_getElem? (i := 564) (by decide +kernel)⟩
theorem lw_p28 : lw_okq (⟨"Kickroom$Rock", "greatestPore", "(II)I"⟩, 5) := ⟨⟨by decide +kernel, by decide +kernel⟩, List.mem_of_getElem? (i := 24) (by decide +kernel), List.mem_of_getElem? (i := 568) (by decide +kernel), List.mem_of_getElem? (i := 569) (by decide +kernel)⟩
theorem lw_p29 : lw_okq (⟨"Kickroom$Rock", "piecesFromAbove", "(I)I"⟩, 5) := ⟨⟨by decide +kernel, by decide +kernel⟩, List.mem_of_getElem? (i := 24) (by decide +kernel), List.mem_of_getElem? (i := 581) (by decide +kernel), List.mem_of_getElem? (i := 582) (by decide +kernel)⟩
theorem lw_p30 : lw_okq (⟨"Kickroom$Rock", "piecesFromAll", "(I)I"⟩, 5) := ⟨⟨by decide +kernel, by decide +kernel⟩, List.mem_of_getElem? (i := 24) (by decide +kernel), List.mem_of_getElem? (i := 592) (by decide +kernel), List.mem_of_getElem? (i := 593) (by decide +kernel)⟩
theorem lw_p31 : lw_okq (⟨"Kickroom$Rock", "leastPiecesTo", "(I)I"⟩, 5) := ⟨⟨by decide +kernel, by decide +kernel⟩, List.mem_of_getElem? (i := 24) (by decide +kernel), List.mem_of_getElem? (i := 596) (by decide +kernel), List.mem_of_getElem? (i := 597) (by decide +kernel)⟩
def lw_privs_2 : List (MethodName × Nat) := [(⟨"Kickroom$Well", "gasPressure", "()I"⟩, 15), (⟨"Kickroom$Well", "setChoke", "()V"⟩, 15), (⟨"Kickroom$Well", "flowIn", "()Z"⟩, 15), (⟨"Kickroom$Rock", "rateAt", "(I)I"⟩, 5), (⟨"Kickroom$Rock", "bearsGasAt", "(I)Z"⟩, 5), (⟨"Kickroom$Well", "loseAtShoe", "()V"⟩, 15), (⟨"Kickroom$Well", "foot", "()I"⟩, 15), (⟨"Kickroom$Rock", "breakAt", "(I)I"⟩, 5), (⟨"Kickroom$Well", "letMinutesGo", "(I)I"⟩, 15), (⟨"Kickroom", "pumpOn", "(I)V"⟩, 8), (⟨"Kickroom$Tests", "keep", "(IIZI)V"⟩, 7), (⟨"Kickroom$Rock", "leastBreak", "(II)I"⟩, 5), (⟨"Kickroom$Rock", "greatestPore", "(II)I"⟩, 5), (⟨"Kickroom$Rock", "piecesFromAbove", "(I)I"⟩, 5), (⟨"Kickroom$Rock", "piecesFromAll", "(I)I"⟩, 5), (⟨"Kickroom$Rock", "leastPiecesTo", "(I)I"⟩, 5)]
theorem lw_r2 : ∀ q ∈ lw_privs_2, lw_okq q := List.forall_mem_cons.mpr ⟨lw_p16, List.forall_mem_cons.mpr ⟨lw_p17, List.forall_mem_cons.mpr ⟨lw_p18, List.forall_mem_cons.mpr ⟨lw_p19, List.forall_mem_cons.mpr ⟨lw_p20, List.forall_mem_cons.mpr ⟨lw_p21, List.forall_mem_cons.mpr ⟨lw_p22, List.forall_mem_cons.mpr ⟨lw_p23, List.forall_mem_cons.mpr ⟨lw_p24, List.forall_mem_cons.mpr ⟨lw_p25, List.forall_mem_cons.mpr ⟨lw_p26, List.forall_mem_cons.mpr ⟨lw_p27, List.forall_mem_cons.mpr ⟨lw_p28, List.forall_mem_cons.mpr ⟨lw_p29, List.forall_mem_cons.mpr ⟨lw_p30, List.forall_mem_cons.mpr ⟨lw_p31, fun _ h => absurd h List.not_mem_nil⟩⟩⟩⟩⟩⟩⟩⟩⟩⟩⟩⟩⟩⟩⟩⟩
theorem lw_p32 : lw_okq (⟨"Kickroom$Well", "become", "(LKickroom$Well;)V"⟩, 15) := ⟨⟨by decide +kernel, by decide +kernel⟩, List.mem_of_getElem? (i := 50) (by decide +kernel), List.mem_of_getElem? (i := 615) (by decide +kernel), List.mem_of_getElem? (i := 616) (by decide +kernel)⟩
theorem lw_p33 : lw_okq (⟨"KickroomModel", "goesWell", "(I)Z"⟩, 31) := ⟨⟨by decide +kernel, by decide +kernel⟩, List.mem_of_getElem? (i := 619) (by decide +kernel), List.mem_of_getElem? (i := 732) (by decide +kernel), List.mem_of_getElem? (i := 733) (by decide +kernel)⟩
theorem lw_p34 : lw_okq (⟨"KickroomModel", "barsNow", "()I"⟩, 31) := ⟨⟨by decide +kernel, by decide +kernel⟩, List.mem_of_getElem? (i := 619) (by decide +kernel), List.mem_of_getElem? (i := 744) (by decide +kernel), List.mem_of_getElem? (i := 745) (by decide +kernel)⟩
theorem lw_p35 : lw_okq (⟨"KickroomModel", "barriersNow", "()I"⟩, 31) := ⟨⟨by decide +kernel, by decide +kernel⟩, List.mem_of_getElem? (i := 619) (by decide +kernel), List.mem_of_getElem? (i := 748) (by decide +kernel), List.mem_of_getElem? (i := 749) (by decide +kernel)⟩
theorem lw_p36 : lw_okq (⟨"KickroomModel", "bottom", "()I"⟩, 31) := ⟨⟨by decide +kernel, by decide +kernel⟩, List.mem_of_getElem? (i := 619) (by decide +kernel), List.mem_of_getElem? (i := 752) (by decide +kernel), List.mem_of_getElem? (i := 753) (by decide +kernel)⟩
theorem lw_p37 : lw_okq (⟨"KickroomModel", "column", "()I"⟩, 31) := ⟨⟨by decide +kernel, by decide +kernel⟩, List.mem_of_getElem? (i := 619) (by decide +kernel), List.mem_of_getElem? (i := 756) (by decide +kernel), List.mem_of_getElem? (i := 757) (by decide +kernel)⟩
theorem lw_p38 : lw_okq (⟨"KickroomModel", "poreAt", "(I)I"⟩, 31) := ⟨⟨by decide +kernel, by decide +kernel⟩, List.mem_of_getElem? (i := 619) (by decide +kernel), List.mem_of_getElem? (i := 760) (by decide +kernel), List.mem_of_getElem? (i := 761) (by decide +kernel)⟩
theorem lw_p39 : lw_okq (⟨"KickroomModel", "latest", "(II)I"⟩, 31) := ⟨⟨by decide +kernel, by decide +kernel⟩, List.mem_of_getElem? (i := 619) (by decide +kernel), List.mem_of_getElem? (i := 767) (by decide +kernel), List.mem_of_getElem? (i := 768) (by decide +kernel)⟩
theorem lw_p40 : lw_okq (⟨"KickroomModel", "passOne", "(Z)V"⟩, 31) := ⟨⟨by decide +kernel, by decide +kernel⟩, List.mem_of_getElem? (i := 619) (by decide +kernel), List.mem_of_getElem? (i := 772) (by decide +kernel), List.mem_of_getElem? (i := 773) (by decide +kernel)⟩
theorem lw_p41 : lw_okq (⟨"KickroomModel", "rise", "(Z)V"⟩, 31) := ⟨⟨by decide +kernel, by decide +kernel⟩, List.mem_of_getElem? (i := 619) (by decide +kernel), List.mem_of_getElem? (i := 776) (by decide +kernel), List.mem_of_getElem? (i := 777) (by decide +kernel)⟩
theorem lw_p42 : lw_okq (⟨"KickroomModel", "measure", "()V"⟩, 31) := ⟨⟨by decide +kernel, by decide +kernel⟩, List.mem_of_getElem? (i := 619) (by decide +kernel), List.mem_of_getElem? (i := 780) (by decide +kernel), List.mem_of_getElem? (i := 781) (by decide +kernel)⟩
theorem lw_p43 : lw_okq (⟨"KickroomModel", "gasPressure", "()I"⟩, 31) := ⟨⟨by decide +kernel, by decide +kernel⟩, List.mem_of_getElem? (i := 619) (by decide +kernel), List.mem_of_getElem? (i := 784) (by decide +kernel), List.mem_of_getElem? (i := 785) (by decide +kernel)⟩
theorem lw_p44 : lw_okq (⟨"KickroomModel", "shut", "()V"⟩, 31) := ⟨⟨by decide +kernel, by decide +kernel⟩, List.mem_of_getElem? (i := 619) (by decide +kernel), List.mem_of_getElem? (i := 788) (by decide +kernel), List.mem_of_getElem? (i := 789) (by decide +kernel)⟩
theorem lw_p45 : lw_okq (⟨"KickroomModel", "flow", "()V"⟩, 31) := ⟨⟨by decide +kernel, by decide +kernel⟩, List.mem_of_getElem? (i := 619) (by decide +kernel), List.mem_of_getElem? (i := 792) (by decide +kernel), List.mem_of_getElem? (i := 793) (by decide +kernel)⟩
theorem lw_p46 : lw_okq (⟨"KickroomModel", "foot", "()I"⟩, 31) := ⟨⟨by decide +kernel, by decide +kernel⟩, List.mem_of_getElem? (i := 619) (by decide +kernel), List.mem_of_getElem? (i := 798) (by decide +kernel), List.mem_of_getElem? (i := 799) (by decide +kernel)⟩
theorem lw_p47 : lw_okq (⟨"KickroomModel", "breakAt", "(I)I"⟩, 31) := ⟨⟨by decide +kernel, by decide +kernel⟩, List.mem_of_getElem? (i := 619) (by decide +kernel), List.mem_of_getElem? (i := 802) (by decide +kernel), List.mem_of_getElem? (i := 803) (by decide +kernel)⟩
def lw_privs_3 : List (MethodName × Nat) := [(⟨"Kickroom$Well", "become", "(LKickroom$Well;)V"⟩, 15), (⟨"KickroomModel", "goesWell", "(I)Z"⟩, 31), (⟨"KickroomModel", "barsNow", "()I"⟩, 31), (⟨"KickroomModel", "barriersNow", "()I"⟩, 31), (⟨"KickroomModel", "bottom", "()I"⟩, 31), (⟨"KickroomModel", "column", "()I"⟩, 31), (⟨"KickroomModel", "poreAt", "(I)I"⟩, 31), (⟨"KickroomModel", "latest", "(II)I"⟩, 31), (⟨"KickroomModel", "passOne", "(Z)V"⟩, 31), (⟨"KickroomModel", "rise", "(Z)V"⟩, 31), (⟨"KickroomModel", "measure", "()V"⟩, 31), (⟨"KickroomModel", "gasPressure", "()I"⟩, 31), (⟨"KickroomModel", "shut", "()V"⟩, 31), (⟨"KickroomModel", "flow", "()V"⟩, 31), (⟨"KickroomModel", "foot", "()I"⟩, 31), (⟨"KickroomModel", "breakAt", "(I)I"⟩, 31)]
theorem lw_r3 : ∀ q ∈ lw_privs_3, lw_okq q := List.forall_mem_cons.mpr ⟨lw_p32, List.forall_mem_cons.mpr ⟨lw_p33, List.forall_mem_cons.mpr ⟨lw_p34, List.forall_mem_cons.mpr ⟨lw_p35, List.forall_mem_cons.mpr ⟨lw_p36, List.forall_mem_cons.mpr ⟨lw_p37, List.forall_mem_cons.mpr ⟨lw_p38, List.forall_mem_cons.mpr ⟨lw_p39, List.forall_mem_cons.mpr ⟨lw_p40, List.forall_mem_cons.mpr ⟨lw_p41, List.forall_mem_cons.mpr ⟨lw_p42, List.forall_mem_cons.mpr ⟨lw_p43, List.forall_mem_cons.mpr ⟨lw_p44, List.forall_mem_cons.mpr ⟨lw_p45, List.forall_mem_cons.mpr ⟨lw_p46, List.forall_mem_cons.mpr ⟨lw_p47, fun _ h => absurd h List.not_mem_nil⟩⟩⟩⟩⟩⟩⟩⟩⟩⟩⟩⟩⟩⟩⟩⟩
theorem lw_p48 : lw_okq (⟨"KickroomModel", "bound", "(IIZ)I"⟩, 31) := ⟨⟨by decide +kernel, by decide +kernel⟩, List.mem_of_getElem? (i := 619) (by decide +kernel), List.mem_of_getElem? (i := 868) (by decide +kernel), List.mem_of_getElem? (i := 869) (by decide +kernel)⟩
theorem lw_p49 : lw_okq (⟨"KickroomModel", "casingsOf", "(I)I"⟩, 31) := ⟨⟨by decide +kernel, by decide +kernel⟩, List.mem_of_getElem? (i := 619) (by decide +kernel), List.mem_of_getElem? (i := 876) (by decide +kernel), List.mem_of_getElem? (i := 877) (by decide +kernel)⟩
theorem lw_p50 : lw_okq (⟨"KickroomModel", "keep", "()V"⟩, 31) := ⟨⟨by decide +kernel, by decide +kernel⟩, List.mem_of_getElem? (i := 619) (by decide +kernel), List.mem_of_getElem? (i := 892) (by decide +kernel), List.mem_of_getElem? (i := 893) (by decide +kernel)⟩
theorem lw_p51 : lw_okq (⟨"KickroomModel", "comeBack", "()V"⟩, 31) := ⟨⟨by decide +kernel, by decide +kernel⟩, List.mem_of_getElem? (i := 619) (by decide +kernel), List.mem_of_getElem? (i := 896) (by decide +kernel), List.mem_of_getElem? (i := 897) (by decide +kernel)⟩
def lw_privs_4 : List (MethodName × Nat) := [(⟨"KickroomModel", "bound", "(IIZ)I"⟩, 31), (⟨"KickroomModel", "casingsOf", "(I)I"⟩, 31), (⟨"KickroomModel", "keep", "()V"⟩, 31), (⟨"KickroomModel", "comeBack", "()V"⟩, 31)]
theorem lw_r4 : ∀ q ∈ lw_privs_4, lw_okq q := List.forall_mem_cons.mpr ⟨lw_p48, List.forall_mem_cons.mpr ⟨lw_p49, List.forall_mem_cons.mpr ⟨lw_p50, List.forall_mem_cons.mpr ⟨lw_p51, fun _ h => absurd h List.not_mem_nil⟩⟩⟩⟩
def lw_privs : List (MethodName × Nat) := lw_privs_1 ++ (lw_privs_2 ++ (lw_privs_3 ++ (lw_privs_4)))
def lw_tbl : List Cond := k2_sels lw_privs ++ tables_1
theorem lw_privs_ok : ∀ q ∈ lw_privs, lw_okq q := by
  show ∀ q ∈ lw_privs_1 ++ (lw_privs_2 ++ (lw_privs_3 ++ (lw_privs_4))), lw_okq q
  exact List.forall_mem_append.mpr ⟨lw_r1, List.forall_mem_append.mpr ⟨lw_r2, List.forall_mem_append.mpr ⟨lw_r3, lw_r4⟩⟩⟩
/-- the streams that the claim lets the run draw from -/
abbrev lw_cs : List Choice := [Jvm.Choice.named "NaN.bits"]
theorem lw_bits : nanBits ∈ lw_cs := by first | decide | exact List.mem_cons_self | simp [lw_cs, nanBits]
-- ===== end of PART A; then your names; then what follows =====
end
section
/-! ===== BEGIN words of one list among another's, by their places ===== -/
theorem goodIn_r {big : List Cond} (ws : List Cond) (ps : List Nat) (hp : ws = ps.filterMap (fun i => big[i]?)) (h : ws.all goodWord = true) : GoodIn big ws := by
  intro w hw
  have h1 := List.all_eq_true.mp h w hw
  rw [hp] at hw
  obtain ⟨i, -, hi⟩ := List.mem_filterMap.mp hw
  have hm : w ∈ big := by first | exact List.mem_of_getElem? hi | exact List.getElem?_mem hi
  exact ⟨hm, good_of_word h1⟩
theorem goodIn_app {big a b : List Cond} (ha : GoodIn big a) (hb : GoodIn big b) : GoodIn big (a ++ b) := fun w h => (List.mem_append.mp h).elim (ha w) (hb w)
theorem goodIn_ca {big a b : List Cond} {c : Cond} (ha : GoodIn big (c :: a)) (hb : GoodIn big b) : GoodIn big (c :: (a ++ b)) := fun w h => (List.mem_cons.mp h).elim (fun e => ha w (List.mem_cons.mpr (Or.inl e))) (fun h => (List.mem_append.mp h).elim (fun h => ha w (List.mem_cons.mpr (Or.inr h))) (hb w))
theorem goodIn_sub {big ws : List Cond} (hm : ∀ w ∈ ws, w ∈ big) (h : ws.all goodWord = true) : GoodIn big ws := fun w hw => ⟨hm w hw, good_of_word (List.all_eq_true.mp h w hw)⟩
/-! ===== END ===== -/

/-! ===== BEGIN exceptions that leave a method, and their catching by the caller (launches without stack traces) ===== -/
section VXA
/-! The laws vx_back, vx_callV, vx_callS, vx_callSW, vx_throw0, vx_throwS follow proofs of the library, with one case more: JvmDerived/Free/Laws.lean (Back.of_free), Shelf42/LK1.lean (callV, callS), Shelf/KitTraced.lean (throwNew0V, throwNewS). -/
/-- where a method has thrown q: the class by its name, the cell, what was written, the world -/
def vx_T (XC : String → State → State → Prop) (st : State) (q : Addr) (t : State) (mc ms : Nat) (free : Addr → Prop) : Prop :=
  ∃ (E : String) (ce : Cell) (L : List Loc), XC E st t ∧ t.heap[q]? = some ce ∧ ce.vm = .none ∧ st.vm.findClass E = some ce.cls ∧ st.WarmedH t.vm ∧ st.sameButNew ({ t with vm := st.vm } : State) L mc ms ∧ ∀ z ∈ L, free z.base
def vx_Q (Qc : Array Value → State → Outcome → State → Prop) (XC : String → State → State → Prop) (mc ms : Nat) (free : Addr → Prop) : Array Value → State → Outcome → State → Prop := fun a st o t =>
  (Qc a st o t ∧ ∃ L, FrameEnd st o t L mc ms ∧ ∀ q ∈ L, free q.base) ∨ ∃ q, o = .threw q ∧ vx_T XC st q t mc ms free
/-- a callee that returns or throws -/
def vx_Met (l : Launch) (y : MethodName) (ws : List Cond) (rm : Room) (Pc : Array Value → State → Prop) (Qc : Array Value → State → Outcome → State → Prop) (XC : String → State → State → Prop) (mc ms : Nat) (free : Addr → Prop) : Prop :=
  MetFree l y (headSpec ws rm) Pc (fun _ _ _ _ _ => True) (vx_Q Qc XC mc ms free)
def vx_Post (XC : String → State → State → Prop) (mc ms : Nat) (free : Addr → Prop) : Pt → Array Value → Addr → Pt → Prop := fun A a q B =>
  ∃ (g : JFrame) (mk : MethodId) (t : State) (L : List Loc) (E : String) (ce : Cell), B.U.heap = t.heap ∧ B.U.vm = t.vm ∧ XC E (A.U.calling g mk a) t ∧ t.heap[q]? = some ce ∧ ce.vm = .none ∧ A.U.vm.findClass E = some ce.cls ∧ B.locs = A.locs ++ L ∧ (∀ z ∈ L, free z.base) ∧ B.cells = A.cells + mc ∧ B.slots = A.slots + ms
def vx_Back (l : Launch) (R : Room) (p : Program) (e : Env) (below : List Frame) (s : State) (sargs : Array Value) (y : MethodName) (len W9 : Nat)
    (Pre : Pt → Array Value → Prop) (Post : Pt → Array Value → Option Value → Pt → Prop) (PostX : Pt → Array Value → Addr → Pt → Prop) : Prop :=
  ∀ (m : MethodId) (meth : Method) (c : Code) (A : Pt) (g : JFrame) (ig : Instr) (mk : MethodId) (a : Array Value),
    Stand p l e R s m sargs below meth c A.U A.locs A.cells A.slots → g.method = m → g.locals.size = c.maxLocals → decode c.code g.pc = .ok (ig, len) →
    2 * g.monitorRoom + (g.stack.map fun v => v.category).sum ≤ W9 → A.U.methodNamed? y = some mk → Pre A a →
    (∃ (v : Option Value) (B : Pt), Stand p l e R s m sargs below meth c B.U B.locs B.cells B.slots ∧ Post A a v B ∧
      Steps p.tables e below (doInvoke e (A.U.setTop g) [] mk a).1 (B.U.setTop { g with pc := g.pc + len, stack := v.toList ++ g.stack })) ∨
    (∃ (q : Addr) (B : Pt), Stand p l e R s m sargs below meth c B.U B.locs B.cells B.slots ∧ PostX A a q B ∧
      Steps p.tables e below (doInvoke e (A.U.setTop g) [] mk a).1 ((B.U.setTop g).pushFrame (.throwing q)))
section Payer
variable {l : Launch} {R : Room} {p : Program} {e : Env} {below : List Frame} {s : State} {sargs : Array Value} {y : MethodName} {len W9 : Nat}
theorem vx_back {ws : List Cond} {rm : Room} {Pc : Array Value → State → Prop} {Qc : Array Value → State → Outcome → State → Prop} {XC : String → State → State → Prop} {mc ms : Nat} {free : Addr → Prop} {bytes : ByteArray} {maxL : Nat} {ret : Option FieldType}
    (hM : vx_Met l y ws rm Pc Qc XC mc ms free) (hblind : FrameBlind Pc) (hrc : rm.cells = mc) (hrs : rm.slots = ms)
    (hframes : rm.frames + 1 ≤ R.frames) (hlocals : W9 + (maxL + 11) + rm.locals ≤ R.locals)
    (hws : ∀ w ∈ ws, ∀ a' U, s.WarmedH U.vm → w.before a' U = true) (hcode : Cond.code y bytes maxL ret ∈ ws) (hinit : ∀ a' U, s.WarmedH U.vm → (Cond.initialized y.cls).before a' U = true) :
    vx_Back l R p e below s sargs y len W9 (PreOf R mc ms Pc) (PostOf Qc mc ms free) (vx_Post XC mc ms free) := by
  intro m meth c A g ig mk a X hg hsize hdg hW hn hp
  have h1 : (headSpec ws rm).pre.before a A.U = true := atoms_intro fun w hw => hws w hw _ _ X.warmed
  have h2 : (Cond.code y bytes maxL ret).before a A.U = true := hws _ hcode _ _ X.warmed
  have h3 : (Cond.initialized y.cls).before a A.U = true := hinit _ _ X.warmed
  have h4 : A.cells + (headSpec ws rm).room.cells ≤ R.cells := by rw [show (headSpec ws rm).room.cells = mc from hrc]; exact hp.1
  have h5 : A.slots + (headSpec ws rm).room.slots ≤ R.slots := by rw [show (headSpec ws rm).room.slots = ms from hrs]; exact hp.2.1
  have hPc : Pc a (A.U.calling g mk a) := hblind _ _ _ _ hp.2.2
  obtain ⟨U, Ls, c0, s0⟩ := A
  dsimp only [Pt.U, Pt.locs, Pt.cells, Pt.slots] at h1 h2 h3 h4 h5 X hn hPc ⊢
  obtain ⟨methY, cY, hmY, hcY, -, hlY, -, -, -, -⟩ := Cond.code_spec hn h2
  obtain ⟨kY, hkY, -⟩ := className_of_methodNamed hn
  have hinitY : kY.init = .initialized := Cond.initialized_spec (findClass_of_methodNamed hn) hkY h3
  have h : At U g.method c below := by rw [hg]; exact X.here
  have hlocals9 : W9 + (maxL + 11) + (headSpec ws rm).room.locals ≤ R.locals := hlocals
  have happ : (headSpec ws rm).appliesLoose y e.platform (U.calling g mk a) = true :=
    Spec.appliesLoose_calling (g := g) h hdg hn hkY hinitY
      (X.room_calling (g := g) (R' := (headSpec ws rm).room) hsize hmY hcY hframes (by rw [hlY]; omega) h4 h5) h1
  obtain ⟨mid, hmid⟩ := h.above
  have hfr : (U.setTop g).frames = (.java g :: mid) ++ below := by rw [State.frames_setTop' g h.top, hmid]; rfl
  obtain ⟨o, s₂, hsteps, -, hend, hq⟩ := Steps.callFree hM p X.admits X.cas X.clock (acts := []) hfr happ hPc trivial
  have hq' : vx_Q Qc XC mc ms free a (U.calling g mk a) o s₂ := hq
  rw [State.frames_setTop' g h.top] at hend
  obtain ⟨g₀, hg0⟩ := Option.isSome_iff_exists.mp h.top
  obtain ⟨r, hr⟩ := State.topJava?_eq_some.mp hg0
  have hr' : (({ U with heap := s₂.heap, slotsUsed := s₂.slotsUsed } : State).setVm s₂.vm).frames = .java g₀ :: r := hr
  rcases hq' with ⟨hqc, L, hfe, hL⟩ | ⟨q, rfl, E, ce, L, hx, hce, hcv, hcl, hW₂, hsm, hL⟩
  · obtain ⟨⟨v, rfl⟩, hW₂, e2, q2, q3, q4, q5, q6⟩ := id hfe
    have e3 : s₂ = ({ (U.calling g mk a).setFrames s₂.frames with heap := s₂.heap, slotsUsed := s₂.slotsUsed } : State).setVm s₂.vm := by
      have : s₂ = ({ s₂ with vm := (U.calling g mk a).vm } : State).setVm s₂.vm := rfl
      rw [e2] at this
      exact this
    obtain ⟨c₂, i₂, len₂, hc₂, hd₂, hf₂⟩ := hend
    have hW' : U.WarmedH s₂.vm := hW₂
    have hcc : c₂ = c := by
      have h1 : s₂.code? g.method = U.code? g.method := by
        rw [State.code?_eq, State.code?_eq, hW'.alike.method?]
      exact Option.some.inj (hc₂.symm.trans (h1.trans h.code))
    subst hcc
    have hlen : len₂ = len := by rw [hdg] at hd₂; cases hd₂; rfl
    subst hlen
    have hs₂ : s₂ = (({ U with heap := s₂.heap, slotsUsed := s₂.slotsUsed } : State).setVm s₂.vm).setTop { g with pc := g.pc + len₂, stack := v.toList ++ g.stack } := by
      refine e3.trans ?_
      rw [hf₂, State.calling_eq h.top, State.setFrames_setFrames, State.setTop_of_frames _ hr', hr]
      rfl
    have hsame : U.sameButNew ({ U with heap := s₂.heap, slotsUsed := s₂.slotsUsed } : State) L mc ms := by
      refine ⟨?_, q2, q3, q4, q5, q6⟩
      obtain ⟨t, ht, -⟩ := State.frames_cons hr
      show ({ U with heap := s₂.heap, slotsUsed := s₂.slotsUsed } : State) = { U.setFrames U.frames with heap := s₂.heap, slotsUsed := s₂.slotsUsed }
      rw [State.setFrames_self ht]
    subst hg
    refine Or.inl ⟨v, ⟨(({ U with heap := s₂.heap, slotsUsed := s₂.slotsUsed } : State).setVm s₂.vm), Ls ++ L, c0 + mc, s0 + ms⟩,
      ⟨X.admits, X.cas, X.clock, X.frames, X.room, X.hears, X.method, X.code, (X.here.setHeapUsed s₂.heap s₂.slotsUsed).setVm hW'.alike, X.tail, State.WarmedH.trans X.warmed hW', X.limits, X.bytes, X.same.trans (hsame.setVm s.vm)⟩,
      ⟨g, mk, s₂, L, rfl, rfl, hqc, rfl, hL, rfl, rfl⟩, ?_⟩
    show Steps p.tables e below _ ((({ U with heap := s₂.heap, slotsUsed := s₂.slotsUsed } : State).setVm s₂.vm).setTop { g with pc := g.pc + len₂, stack := v.toList ++ g.stack })
    rw [← hs₂]
    exact hsteps
  · obtain ⟨e2, q2, q3, q4, q5, q6⟩ := id hsm
    have e3 : s₂ = ({ (U.calling g mk a).setFrames s₂.frames with heap := s₂.heap, slotsUsed := s₂.slotsUsed } : State).setVm s₂.vm := by
      have : s₂ = ({ s₂ with vm := (U.calling g mk a).vm } : State).setVm s₂.vm := rfl
      rw [e2] at this
      exact this
    have hf₂ : s₂.frames = .throwing q :: .java g :: U.frames.tail := hend
    have hW' : U.WarmedH s₂.vm := hW₂
    have hs₂ : s₂ = ((({ U with heap := s₂.heap, slotsUsed := s₂.slotsUsed } : State).setVm s₂.vm).setTop g).pushFrame (.throwing q) := by
      refine e3.trans ?_
      rw [hf₂, State.calling_eq h.top, State.setFrames_setFrames, State.pushFrame, State.frames_setTop _ hr', State.setTop_of_frames _ hr', State.setFrames_setFrames, hr]
      rfl
    have hsame : U.sameButNew ({ U with heap := s₂.heap, slotsUsed := s₂.slotsUsed } : State) L mc ms := by
      refine ⟨?_, q2, q3, q4, q5, q6⟩
      obtain ⟨t, ht, -⟩ := State.frames_cons hr
      show ({ U with heap := s₂.heap, slotsUsed := s₂.slotsUsed } : State) = { U.setFrames U.frames with heap := s₂.heap, slotsUsed := s₂.slotsUsed }
      rw [State.setFrames_self ht]
    subst hg
    refine Or.inr ⟨q, ⟨(({ U with heap := s₂.heap, slotsUsed := s₂.slotsUsed } : State).setVm s₂.vm), Ls ++ L, c0 + mc, s0 + ms⟩,
      ⟨X.admits, X.cas, X.clock, X.frames, X.room, X.hears, X.method, X.code, (X.here.setHeapUsed s₂.heap s₂.slotsUsed).setVm hW'.alike, X.tail, State.WarmedH.trans X.warmed hW', X.limits, X.bytes, X.same.trans (hsame.setVm s.vm)⟩,
      ⟨g, mk, s₂, L, E, ce, rfl, rfl, hx, hce, hcv, hcl, rfl, hL, rfl, rfl⟩, ?_⟩
    show Steps p.tables e below _ (((({ U with heap := s₂.heap, slotsUsed := s₂.slotsUsed } : State).setVm s₂.vm).setTop g).pushFrame (.throwing q))
    rw [← hs₂]
    exact hsteps
end Payer
section Calls
variable {p : Program} {l : Launch} {e : Env} {R : Room} {s : State} {m : MethodId} {args : Array Value} {below : List Frame} {meth : Method} {c : Code} {T : State} {locs : List Loc} {cells slots : Nat}
theorem vx_callV (X : Stand p l e R s m args below meth c T locs cells slots) (hexec : p.tables.exec = Jvm.exec) {own C : String} {index : Nat} {y : MethodName} {bytes : ByteArray} {maxL : Nat} {ret : Option FieldType}
    (hown : s.vm.findClass own = some m.cls) (hlink : (Cond.methodLink own index y).before args s = true) (hinst : (Cond.instanceMethod y).before args s = true) (hsel : (Cond.selects C y y).before args s = true)
    (hcode : (Cond.code y bytes maxL ret).before args s = true) (hy : y.cls ≠ "java/lang/invoke/MethodHandle" ∧ y.cls ≠ "java/lang/invoke/VarHandle")
    {W9 : Nat} {Pre : Pt → Array Value → Prop} {Post : Pt → Array Value → Option Value → Pt → Prop} {PostX : Pt → Array Value → Addr → Pt → Prop} (hK : vx_Back l R p e below s args y 3 W9 Pre Post PostX)
    {b : Addr} {cellB : Cell} (hcell : T.heap[b]? = some cellB) (hobj : cellB.vm.isStatics = false) (hcls : s.vm.findClass C = some cellB.cls)
    {g : JFrame} (hg : g.method = m) (hsize : g.locals.size = c.maxLocals) {argsL rest : List Value} (hlen : ∀ sig, parseMethodDescriptor y.desc = some sig → argsL.length = sig.parameters.length)
    (hstack : g.stack = argsL.reverse ++ .ref b :: rest) (hW : 2 * g.monitorRoom + (rest.map fun v => v.category).sum ≤ W9) (hdg : decode c.code g.pc = .ok (.invokevirtual index, 3))
    (hpre : ∀ vm₁, s.WarmedH vm₁ → Pre ⟨T.setVm vm₁, locs, cells, slots⟩ (Value.ref b :: argsL).toArray) :
    (∃ (v : Option Value) (vm₁ : Vm) (B : Pt), s.WarmedH vm₁ ∧ Stand p l e R s m args below meth c B.U B.locs B.cells B.slots ∧ Post ⟨T.setVm vm₁, locs, cells, slots⟩ (Value.ref b :: argsL).toArray v B ∧
      ∀ target, Steps p.tables e below (B.U.setTop { g with pc := g.pc + 3, stack := v.toList ++ rest }) target → Steps p.tables e below (T.setTop g) target) ∨
    (∃ (q : Addr) (vm₁ : Vm) (B : Pt), s.WarmedH vm₁ ∧ Stand p l e R s m args below meth c B.U B.locs B.cells B.slots ∧ PostX ⟨T.setVm vm₁, locs, cells, slots⟩ (Value.ref b :: argsL).toArray q B ∧
      Steps p.tables e below (T.setTop g) ((B.U.setTop { g with stack := rest }).pushFrame (.throwing q))) := by
  obtain ⟨mk, methM, hnamed, hmethM, hstM, habM⟩ := Cond.instanceMethod_spec hinst
  obtain ⟨methM', cM, hmethM', -, -, -, -, -, -, hsigM⟩ := Cond.code_spec hnamed hcode
  cases hmethM.symm.trans hmethM'
  obtain ⟨c2, r2, m2, q1, q2, q3, q4, kP, hkP, hkPi⟩ := Cond.selects_spec hsel
  cases hcls.symm.trans q1
  cases (State.methodFound?_of_named hnamed hy).symm.trans q2
  cases hnamed.symm.trans q3
  have hselP : selectMethod e.platform s.vm cellB.cls mk = .method mk := by rw [Launch.admits_selectMethod X.admits]; exact q4
  obtain ⟨vm₁, X₁, hstep₁⟩ := X.invokevirtual hexec hown hlink hnamed hmethM hstM hkP hkPi hy (a := b) (cell := cellB) hcell
    (fun z h => by rw [h] at hobj; cases hobj) hselP hmethM habM hkP hkPi (g := g) hg (argsL := argsL) (rest := rest) (hlen _ hsigM) hstack hdg
  rcases hK m meth c ⟨T.setVm vm₁, locs, cells, slots⟩ { g with stack := rest } (.invokevirtual index) mk (Value.ref b :: argsL).toArray X₁ hg hsize hdg hW (X₁.named hnamed) (hpre vm₁ X₁.warmed) with ⟨v, B, X', hpost, hsteps⟩ | ⟨q, B, X', hpost, hsteps⟩
  · exact Or.inl ⟨v, vm₁, B, X₁.warmed, X', hpost, fun target h => hstep₁ _ fun acts => by rw [doInvoke_state]; exact hsteps.trans h⟩
  · exact Or.inr ⟨q, vm₁, B, X₁.warmed, X', hpost, hstep₁ _ fun acts => by rw [doInvoke_state]; exact hsteps⟩
theorem vx_callS (X : Stand p l e R s m args below meth c T locs cells slots) (hexec : p.tables.exec = Jvm.exec) {own : String} {index : Nat} {y : MethodName} {bytes : ByteArray} {maxL : Nat} {ret : Option FieldType}
    (hown : s.vm.findClass own = some m.cls) (hlink : (Cond.methodLink own index y).before args s = true) (hstat : (Cond.static y).before args s = true) (hinit : (Cond.initialized y.cls).before args s = true)
    (hcode : (Cond.code y bytes maxL ret).before args s = true) (hy : y.cls ≠ "java/lang/invoke/MethodHandle" ∧ y.cls ≠ "java/lang/invoke/VarHandle")
    {W9 : Nat} {Pre : Pt → Array Value → Prop} {Post : Pt → Array Value → Option Value → Pt → Prop} {PostX : Pt → Array Value → Addr → Pt → Prop} (hK : vx_Back l R p e below s args y 3 W9 Pre Post PostX)
    {g : JFrame} (hg : g.method = m) (hsize : g.locals.size = c.maxLocals) {argsL rest : List Value} (hlen : ∀ sig, parseMethodDescriptor y.desc = some sig → argsL.length = sig.parameters.length)
    (hstack : g.stack = argsL.reverse ++ rest) (hW : 2 * g.monitorRoom + (rest.map fun v => v.category).sum ≤ W9) (hdg : decode c.code g.pc = .ok (.invokestatic index, 3))
    (hpre : ∀ vm₁, s.WarmedH vm₁ → Pre ⟨T.setVm vm₁, locs, cells, slots⟩ argsL.toArray) :
    (∃ (v : Option Value) (vm₁ : Vm) (B : Pt), s.WarmedH vm₁ ∧ Stand p l e R s m args below meth c B.U B.locs B.cells B.slots ∧ Post ⟨T.setVm vm₁, locs, cells, slots⟩ argsL.toArray v B ∧
      ∀ target, Steps p.tables e below (B.U.setTop { g with pc := g.pc + 3, stack := v.toList ++ rest }) target → Steps p.tables e below (T.setTop g) target) ∨
    (∃ (q : Addr) (vm₁ : Vm) (B : Pt), s.WarmedH vm₁ ∧ Stand p l e R s m args below meth c B.U B.locs B.cells B.slots ∧ PostX ⟨T.setVm vm₁, locs, cells, slots⟩ argsL.toArray q B ∧
      Steps p.tables e below (T.setTop g) ((B.U.setTop { g with stack := rest }).pushFrame (.throwing q))) := by
  obtain ⟨mk, hnamed⟩ := Cond.code_named hcode
  obtain ⟨methM, cM, hmethM, -, -, -, -, -, -, hsigM⟩ := Cond.code_spec hnamed hcode
  have hstatic : methM.isStatic = true := Cond.static_spec hnamed hmethM hstat
  obtain ⟨kP, hkP, -⟩ := className_of_methodNamed hnamed
  have hinitP : kP.init = .initialized := Cond.initialized_spec (findClass_of_methodNamed hnamed) hkP hinit
  obtain ⟨vm₁, X₁, hstep₁⟩ := X.invokestatic hexec hown hlink hnamed hmethM hstatic hkP hinitP hy (g := g) hg (argsL := argsL) (rest := rest) (hlen _ hsigM) hstack hdg
  rcases hK m meth c ⟨T.setVm vm₁, locs, cells, slots⟩ { g with stack := rest } (.invokestatic index) mk argsL.toArray X₁ hg hsize hdg hW (X₁.named hnamed) (hpre vm₁ X₁.warmed) with ⟨v, B, X', hpost, hsteps⟩ | ⟨q, B, X', hpost, hsteps⟩
  · exact Or.inl ⟨v, vm₁, B, X₁.warmed, X', hpost, fun target h => hstep₁ _ fun acts => by rw [doInvoke_state]; exact hsteps.trans h⟩
  · exact Or.inr ⟨q, vm₁, B, X₁.warmed, X', hpost, hstep₁ _ fun acts => by rw [doInvoke_state]; exact hsteps⟩
end Calls
theorem vx_cls {s : State} {T : State} {vm₁ : Vm} {E : String} {k : ClassId} (hW : s.WarmedH vm₁) (h : (T.setVm vm₁).vm.findClass E = some k) : s.vm.findClass E = some k := by
  have h1 : vm₁.findClass E = some k := h
  rw [hW.alike.findClass] at h1
  exact h1
/-- the method's frame g, with q thrown over it -/
def vx_W (p : Program) (l : Launch) (e : Env) (R : Room) (s : State) (m : MethodId) (args : Array Value) (below : List Frame) (meth : Method) (c : Code) (H : Heap) (locs : List Loc) (cells slots : Nat) (Q : State → Prop) (g : JFrame) (q : Addr) : Prop :=
  ∀ T : State, T.heap = H → Stand p l e R s m args below meth c T locs cells slots → ∃ t, Steps p.tables e below ((T.setTop g).pushFrame (.throwing q)) t ∧ Q t
def vx_Run (p : Program) (l : Launch) (e : Env) (R : Room) (s : State) (m : MethodId) (args : Array Value) (below : List Frame) (meth : Method) (c : Code) (H : Heap) (locs : List Loc) (cells slots mc ms : Nat) (g : JFrame) (rest : List Value) (Qa : State → Outcome → State → Prop) (XC : String → State → State → Prop) (free : Addr → Prop) : Prop :=
  ∀ T : State, T.heap = H → Stand p l e R s m args below meth c T locs cells slots →
    (∃ (v : Option Value) (st₀ t T' : State) (L : List Loc), st₀.heap = H ∧ Stand p l e R s m args below meth c T' (locs ++ L) (cells + mc) (slots + ms) ∧ (∀ q ∈ L, free q.base) ∧ T'.heap = t.heap ∧ T'.vm = t.vm ∧ Qa st₀ (.returned v) t ∧
      Goes p e below T g T' { g with pc := g.pc + 3, stack := v.toList ++ rest }) ∨
    (∃ (q : Addr) (st₀ t T' : State) (L : List Loc) (E : String) (ce : Cell), st₀.heap = H ∧ Stand p l e R s m args below meth c T' (locs ++ L) (cells + mc) (slots + ms) ∧ (∀ z ∈ L, free z.base) ∧ T'.heap = t.heap ∧ T'.vm = t.vm ∧ XC E st₀ t ∧ t.heap[q]? = some ce ∧ ce.vm = .none ∧ s.vm.findClass E = some ce.cls ∧
      Steps p.tables e below (T.setTop g) ((T'.setTop { g with stack := rest }).pushFrame (.throwing q)))
def vx_X {S : Type} (px : S → Prop) (B : String → S → State → Prop) (A : Nat → Prop) : String → State → State → Prop := fun E st t => ∃ u : S, px u ∧ B E u t ∧ va_F A st t
section Runs
variable {p : Program} {l : Launch} {e : Env} {R : Room} {s : State} {m : MethodId} {args : Array Value} {below : List Frame} {meth : Method} {c : Code} {H : Heap} {locs : List Loc} {cells slots : Nat}
variable {y : MethodName} {bytes cc : ByteArray} {maxL nL mc ms n index : Nat} {ret : Option FieldType} {ws : List Cond} {rm : Room} {Pc : Array Value → State → Prop} {Qc : Array Value → State → Outcome → State → Prop} {XC : String → State → State → Prop} {free : Addr → Prop} {Ts : List Cond} {own C : String} {b : Addr} {As rest : List Value} {g : JFrame}
theorem vx_callBack (cb : CallB R s args own index y bytes maxL ret ws rm mc ms n) (hM : vx_Met l y ws rm Pc Qc XC mc ms free) (hbl : FrameBlind Pc) : vx_Back l R p e below s args y 3 8 (PreOf R mc ms Pc) (PostOf Qc mc ms free) (vx_Post XC mc ms free) := by
  obtain ⟨hrc, hrs, hfr, hlo, hws, hcw, -, hini, -⟩ := cb
  exact vx_back (bytes := bytes) (maxL := maxL) (ret := ret) hM hbl hrc hrs hfr hlo hws hcw (fun a' U hW => word_at hW (Or.inl (by first | rfl | simp [Cond.onTables, Cond.keeps, Cond.steady])) hini)
theorem vx_runV (S : CallFix p m c cc nL s args Ts own) (hM : vx_Met l y ws rm Pc Qc XC mc ms free) (cw : CallW R s args own C index y bytes maxL ret ws rm mc ms n) (hp : PreV s H C b Pc As)
    (hg : g.method = m) (hn : As.length = n) (hsize : g.locals.size = nL) (hstack : g.stack = As.reverse ++ .ref b :: rest) (hW : 2 * g.monitorRoom + (rest.map fun v => v.category).sum ≤ 8) (hdg : decode cc g.pc = .ok (.invokevirtual index, 3)) (hf : cells + mc ≤ R.cells ∧ slots + ms ≤ R.slots) :
    vx_Run p l e R s m args below meth c H locs cells slots mc ms g rest (Qc (Value.ref b :: As).toArray) XC free := by
  have hK : vx_Back l R p e below s args y 3 8 (PreOf R mc ms Pc) (PostOf Qc mc ms free) (vx_Post XC mc ms free) := vx_callBack cw.1 hM hp.1
  obtain ⟨⟨-, -, -, -, -, -, hcode, -, hy, hlen, hl⟩, hin, hse⟩ := cw
  obtain ⟨hx, hb, hml, ho, -⟩ := S
  obtain ⟨-, ⟨cellB, hcB, hoB, hclB⟩, hPc⟩ := hp
  intro T hT X
  rcases vx_callV X hx (C := C) (bytes := bytes) (maxL := maxL) (ret := ret) ho hl hin hse hcode hy hK (by rw [hT]; exact hcB) hoB hclB hg (hsize.trans hml.symm) (argsL := As) (rest := rest) (fun sig h => hn.trans (hlen sig h)) hstack hW (by rw [hb]; exact hdg)
    (fun vm₁ hW₁ => ⟨hf.1, hf.2, hPc (T.setVm vm₁) hT hW₁⟩) with ⟨v, vm₁, ⟨U', l2, c2, s2⟩, hW₁, X', ⟨g', mk, t, L, e1, e2, hq, h1, hL, h2, h3⟩, st⟩ | ⟨q, vm₁, ⟨U', l2, c2, s2⟩, hW₁, X', ⟨g', mk, t, L, E, ce, e1, e2, hq, hce, hcv, hcl, h1, hL, h2, h3⟩, st⟩
  · dsimp only [Pt.U, Pt.locs, Pt.cells, Pt.slots] at X' e1 e2 h1 h2 h3 st
    subst h1; subst h2; subst h3
    exact Or.inl ⟨v, (T.setVm vm₁).calling g' mk (Value.ref b :: As).toArray, t, U', L, hT, X', hL, e1, e2, hq, st⟩
  · dsimp only [Pt.U, Pt.locs, Pt.cells, Pt.slots] at X' e1 e2 h1 h2 h3 st hcl
    subst h1; subst h2; subst h3
    exact Or.inr ⟨q, (T.setVm vm₁).calling g' mk (Value.ref b :: As).toArray, t, U', L, E, ce, hT, X', hL, e1, e2, hq, hce, hcv, vx_cls hW₁ hcl, st⟩
theorem vx_runS (S : CallFix p m c cc nL s args Ts own) (hM : vx_Met l y ws rm Pc Qc XC mc ms free) (cw : CallB R s args own index y bytes maxL ret ws rm mc ms n ∧ (Cond.static y).before args s = true) (hp : PreS s H Pc As)
    (hg : g.method = m) (hn : As.length = n) (hsize : g.locals.size = nL) (hstack : g.stack = As.reverse ++ rest) (hW : 2 * g.monitorRoom + (rest.map fun v => v.category).sum ≤ 8) (hdg : decode cc g.pc = .ok (.invokestatic index, 3)) (hf : cells + mc ≤ R.cells ∧ slots + ms ≤ R.slots) :
    vx_Run p l e R s m args below meth c H locs cells slots mc ms g rest (Qc As.toArray) XC free := by
  have hK : vx_Back l R p e below s args y 3 8 (PreOf R mc ms Pc) (PostOf Qc mc ms free) (vx_Post XC mc ms free) := vx_callBack cw.1 hM hp.1
  obtain ⟨⟨-, -, -, -, -, -, hcode, hini, hy, hlen, hl⟩, hstt⟩ := cw
  obtain ⟨hx, hb, hml, ho, -⟩ := S
  intro T hT X
  rcases vx_callS X hx (bytes := bytes) (maxL := maxL) (ret := ret) ho hl hstt hini hcode hy hK hg (hsize.trans hml.symm) (argsL := As) (rest := rest) (fun sig h => hn.trans (hlen sig h)) hstack hW (by rw [hb]; exact hdg)
    (fun vm₁ hW₁ => ⟨hf.1, hf.2, hp.2 (T.setVm vm₁) hT hW₁⟩) with ⟨v, vm₁, ⟨U', l2, c2, s2⟩, hW₁, X', ⟨g', mk, t, L, e1, e2, hq, h1, hL, h2, h3⟩, st⟩ | ⟨q, vm₁, ⟨U', l2, c2, s2⟩, hW₁, X', ⟨g', mk, t, L, E, ce, e1, e2, hq, hce, hcv, hcl, h1, hL, h2, h3⟩, st⟩
  · dsimp only [Pt.U, Pt.locs, Pt.cells, Pt.slots] at X' e1 e2 h1 h2 h3 st
    subst h1; subst h2; subst h3
    exact Or.inl ⟨v, (T.setVm vm₁).calling g' mk As.toArray, t, U', L, hT, X', hL, e1, e2, hq, st⟩
  · dsimp only [Pt.U, Pt.locs, Pt.cells, Pt.slots] at X' e1 e2 h1 h2 h3 st hcl
    subst h1; subst h2; subst h3
    exact Or.inr ⟨q, (T.setVm vm₁).calling g' mk As.toArray, t, U', L, E, ce, hT, X', hL, e1, e2, hq, hce, hcv, vx_cls hW₁ hcl, st⟩
end Runs
section Rows
variable {p : Program} {l : Launch} {e : Env} {R : Room} {s : State} {m : MethodId} {args : Array Value} {below : List Frame} {meth : Method} {c : Code} {H : Heap} {locs : List Loc} {cells slots : Nat} {Q : State → Prop}
variable {mc ms : Nat} {free : Addr → Prop} {A0 A1 : Nat → Prop} {H0 : Heap} {a : Array Value} {pc : Nat} {ls : Array Slot} {st0 rest : List Value}
theorem vx_keep {st₀ t T' : State} {L : List Loc} (h0 : st₀.heap = H) (e1 : T'.heap = t.heap) (hS : va_S A0 H0 H locs) (hA : ∀ q, q < H.size → A1 q → A0 q) (hf : ∀ q, free q → A0 q) (hL : ∀ q ∈ L, free q.base) (hF : va_F A1 st₀ t) :
    H.size ≤ T'.heap.size ∧ (∀ q : Nat, q < H.size → ¬ A1 q → T'.heap[q]? = H[q]?) ∧ va_S A0 H0 T'.heap (locs ++ L) := by
  obtain ⟨hz, hk⟩ := hF
  rw [h0] at hz hk
  exact ⟨by rw [e1]; exact hz, fun q h1 h2 => by rw [e1]; exact hk q h1 h2,
    ⟨Nat.le_trans hS.1 (by rw [e1]; exact hz), fun q h1 h2 => by rw [e1, hk q (Nat.lt_of_lt_of_le h1 hS.1) (fun z => h2 (hA q (Nat.lt_of_lt_of_le h1 hS.1) z))]; exact hS.2.1 q h1 h2, fun q hq => by
      rcases List.mem_append.mp hq with h | h
      · exact hS.2.2 q h
      · exact hf _ (hL q h)⟩⟩
theorem vx_calli {S SX : Type} {post : Int32 → S → Prop} {px : SX → Prop} {B : S → State → Prop} {BX : String → SX → State → Prop} {AX : Nat → Prop} (hr : vx_Run p l e R s m args below meth c H locs cells slots mc ms (F0 m pc ls st0) rest (va_Qi post B A1 a) (vx_X px BX AX) free) (hS : va_S A0 H0 H locs) (hA : ∀ q, q < H.size → A1 q → A0 q) (hf : ∀ q, free q → A0 q) (hAX : ∀ q, q < H.size → AX q → A0 q)
    (kx : ∀ (E : String) (ce : Cell) (q9 : Addr) (u : SX) (t : State) (H1 : Heap) (locs1 : List Loc), t.heap = H1 → s.vm.Alike t.vm → px u → BX E u t → H.size ≤ H1.size → (∀ q : Nat, q < H.size → ¬ AX q → H1[q]? = H[q]?) → va_S A0 H0 H1 locs1 → H1[q9]? = some ce → ce.vm = .none → s.vm.findClass E = some ce.cls → vx_W p l e R s m args below meth c H1 locs1 (cells + mc) (slots + ms) Q (F0 m pc ls rest) q9)
    (kk : ∀ (r : Int32) (u : S) (t : State) (H1 : Heap) (locs1 : List Loc), t.heap = H1 → s.vm.Alike t.vm → post r u → B u t → H.size ≤ H1.size → (∀ q : Nat, q < H.size → ¬ A1 q → H1[q]? = H[q]?) → va_S A0 H0 H1 locs1 → W p l e R s m args below meth c H1 locs1 (cells + mc) (slots + ms) Q (F0 m (pc + 3) ls (.int r :: rest))) : W p l e R s m args below meth c H locs cells slots Q (F0 m pc ls st0) := by
  intro T hT X
  rcases hr T hT X with ⟨v, st₀, t, T', L, h0, X', hL, e1, e2, ⟨⟨r, u, hv, hp, hb⟩, hF⟩, st⟩ | ⟨q, st₀, t, T', L, E, ce, h0, X', hL, e1, e2, ⟨u, hp, hb, hF⟩, hce, hcv, hcl, st⟩
  · cases hv
    obtain ⟨k1, k2, k3⟩ := vx_keep h0 e1 hS hA hf hL hF
    obtain ⟨t2, a1, b1⟩ := kk r u t T'.heap (locs ++ L) e1.symm (by rw [← e2]; exact X'.warmed.alike) hp hb k1 k2 k3 T' rfl X'
    exact ⟨t2, st t2 a1, b1⟩
  · obtain ⟨k1, k2, k3⟩ := vx_keep h0 e1 hS hAX hf hL hF
    obtain ⟨t2, a1, b1⟩ := kx E ce q u t T'.heap (locs ++ L) e1.symm (by rw [← e2]; exact X'.warmed.alike) hp hb k1 k2 k3 (by rw [e1]; exact hce) hcv hcl T' rfl X'
    exact ⟨t2, st.trans a1, b1⟩
theorem vx_calll {S SX : Type} {post : Int64 → S → Prop} {px : SX → Prop} {B : S → State → Prop} {BX : String → SX → State → Prop} {AX : Nat → Prop} (hr : vx_Run p l e R s m args below meth c H locs cells slots mc ms (F0 m pc ls st0) rest (va_Ql post B A1 a) (vx_X px BX AX) free) (hS : va_S A0 H0 H locs) (hA : ∀ q, q < H.size → A1 q → A0 q) (hf : ∀ q, free q → A0 q) (hAX : ∀ q, q < H.size → AX q → A0 q)
    (kx : ∀ (E : String) (ce : Cell) (q9 : Addr) (u : SX) (t : State) (H1 : Heap) (locs1 : List Loc), t.heap = H1 → s.vm.Alike t.vm → px u → BX E u t → H.size ≤ H1.size → (∀ q : Nat, q < H.size → ¬ AX q → H1[q]? = H[q]?) → va_S A0 H0 H1 locs1 → H1[q9]? = some ce → ce.vm = .none → s.vm.findClass E = some ce.cls → vx_W p l e R s m args below meth c H1 locs1 (cells + mc) (slots + ms) Q (F0 m pc ls rest) q9)
    (kk : ∀ (r : Int64) (u : S) (t : State) (H1 : Heap) (locs1 : List Loc), t.heap = H1 → s.vm.Alike t.vm → post r u → B u t → H.size ≤ H1.size → (∀ q : Nat, q < H.size → ¬ A1 q → H1[q]? = H[q]?) → va_S A0 H0 H1 locs1 → W p l e R s m args below meth c H1 locs1 (cells + mc) (slots + ms) Q (F0 m (pc + 3) ls (.long r :: rest))) : W p l e R s m args below meth c H locs cells slots Q (F0 m pc ls st0) := by
  intro T hT X
  rcases hr T hT X with ⟨v, st₀, t, T', L, h0, X', hL, e1, e2, ⟨⟨r, u, hv, hp, hb⟩, hF⟩, st⟩ | ⟨q, st₀, t, T', L, E, ce, h0, X', hL, e1, e2, ⟨u, hp, hb, hF⟩, hce, hcv, hcl, st⟩
  · cases hv
    obtain ⟨k1, k2, k3⟩ := vx_keep h0 e1 hS hA hf hL hF
    obtain ⟨t2, a1, b1⟩ := kk r u t T'.heap (locs ++ L) e1.symm (by rw [← e2]; exact X'.warmed.alike) hp hb k1 k2 k3 T' rfl X'
    exact ⟨t2, st t2 a1, b1⟩
  · obtain ⟨k1, k2, k3⟩ := vx_keep h0 e1 hS hAX hf hL hF
    obtain ⟨t2, a1, b1⟩ := kx E ce q u t T'.heap (locs ++ L) e1.symm (by rw [← e2]; exact X'.warmed.alike) hp hb k1 k2 k3 (by rw [e1]; exact hce) hcv hcl T' rfl X'
    exact ⟨t2, st.trans a1, b1⟩
theorem vx_callf {S SX : Type} {post : UInt32 → S → Prop} {px : SX → Prop} {B : S → State → Prop} {BX : String → SX → State → Prop} {AX : Nat → Prop} (hr : vx_Run p l e R s m args below meth c H locs cells slots mc ms (F0 m pc ls st0) rest (va_Qf post B A1 a) (vx_X px BX AX) free) (hS : va_S A0 H0 H locs) (hA : ∀ q, q < H.size → A1 q → A0 q) (hf : ∀ q, free q → A0 q) (hAX : ∀ q, q < H.size → AX q → A0 q)
    (kx : ∀ (E : String) (ce : Cell) (q9 : Addr) (u : SX) (t : State) (H1 : Heap) (locs1 : List Loc), t.heap = H1 → s.vm.Alike t.vm → px u → BX E u t → H.size ≤ H1.size → (∀ q : Nat, q < H.size → ¬ AX q → H1[q]? = H[q]?) → va_S A0 H0 H1 locs1 → H1[q9]? = some ce → ce.vm = .none → s.vm.findClass E = some ce.cls → vx_W p l e R s m args below meth c H1 locs1 (cells + mc) (slots + ms) Q (F0 m pc ls rest) q9)
    (kk : ∀ (r : UInt32) (u : S) (t : State) (H1 : Heap) (locs1 : List Loc), t.heap = H1 → s.vm.Alike t.vm → post r u → B u t → H.size ≤ H1.size → (∀ q : Nat, q < H.size → ¬ A1 q → H1[q]? = H[q]?) → va_S A0 H0 H1 locs1 → W p l e R s m args below meth c H1 locs1 (cells + mc) (slots + ms) Q (F0 m (pc + 3) ls (.float r :: rest))) : W p l e R s m args below meth c H locs cells slots Q (F0 m pc ls st0) := by
  intro T hT X
  rcases hr T hT X with ⟨v, st₀, t, T', L, h0, X', hL, e1, e2, ⟨⟨r, u, hv, hp, hb⟩, hF⟩, st⟩ | ⟨q, st₀, t, T', L, E, ce, h0, X', hL, e1, e2, ⟨u, hp, hb, hF⟩, hce, hcv, hcl, st⟩
  · cases hv
    obtain ⟨k1, k2, k3⟩ := vx_keep h0 e1 hS hA hf hL hF
    obtain ⟨t2, a1, b1⟩ := kk r u t T'.heap (locs ++ L) e1.symm (by rw [← e2]; exact X'.warmed.alike) hp hb k1 k2 k3 T' rfl X'
    exact ⟨t2, st t2 a1, b1⟩
  · obtain ⟨k1, k2, k3⟩ := vx_keep h0 e1 hS hAX hf hL hF
    obtain ⟨t2, a1, b1⟩ := kx E ce q u t T'.heap (locs ++ L) e1.symm (by rw [← e2]; exact X'.warmed.alike) hp hb k1 k2 k3 (by rw [e1]; exact hce) hcv hcl T' rfl X'
    exact ⟨t2, st.trans a1, b1⟩
theorem vx_calld {S SX : Type} {post : UInt64 → S → Prop} {px : SX → Prop} {B : S → State → Prop} {BX : String → SX → State → Prop} {AX : Nat → Prop} (hr : vx_Run p l e R s m args below meth c H locs cells slots mc ms (F0 m pc ls st0) rest (va_Qd post B A1 a) (vx_X px BX AX) free) (hS : va_S A0 H0 H locs) (hA : ∀ q, q < H.size → A1 q → A0 q) (hf : ∀ q, free q → A0 q) (hAX : ∀ q, q < H.size → AX q → A0 q)
    (kx : ∀ (E : String) (ce : Cell) (q9 : Addr) (u : SX) (t : State) (H1 : Heap) (locs1 : List Loc), t.heap = H1 → s.vm.Alike t.vm → px u → BX E u t → H.size ≤ H1.size → (∀ q : Nat, q < H.size → ¬ AX q → H1[q]? = H[q]?) → va_S A0 H0 H1 locs1 → H1[q9]? = some ce → ce.vm = .none → s.vm.findClass E = some ce.cls → vx_W p l e R s m args below meth c H1 locs1 (cells + mc) (slots + ms) Q (F0 m pc ls rest) q9)
    (kk : ∀ (r : UInt64) (u : S) (t : State) (H1 : Heap) (locs1 : List Loc), t.heap = H1 → s.vm.Alike t.vm → post r u → B u t → H.size ≤ H1.size → (∀ q : Nat, q < H.size → ¬ A1 q → H1[q]? = H[q]?) → va_S A0 H0 H1 locs1 → W p l e R s m args below meth c H1 locs1 (cells + mc) (slots + ms) Q (F0 m (pc + 3) ls (.double r :: rest))) : W p l e R s m args below meth c H locs cells slots Q (F0 m pc ls st0) := by
  intro T hT X
  rcases hr T hT X with ⟨v, st₀, t, T', L, h0, X', hL, e1, e2, ⟨⟨r, u, hv, hp, hb⟩, hF⟩, st⟩ | ⟨q, st₀, t, T', L, E, ce, h0, X', hL, e1, e2, ⟨u, hp, hb, hF⟩, hce, hcv, hcl, st⟩
  · cases hv
    obtain ⟨k1, k2, k3⟩ := vx_keep h0 e1 hS hA hf hL hF
    obtain ⟨t2, a1, b1⟩ := kk r u t T'.heap (locs ++ L) e1.symm (by rw [← e2]; exact X'.warmed.alike) hp hb k1 k2 k3 T' rfl X'
    exact ⟨t2, st t2 a1, b1⟩
  · obtain ⟨k1, k2, k3⟩ := vx_keep h0 e1 hS hAX hf hL hF
    obtain ⟨t2, a1, b1⟩ := kx E ce q u t T'.heap (locs ++ L) e1.symm (by rw [← e2]; exact X'.warmed.alike) hp hb k1 k2 k3 (by rw [e1]; exact hce) hcv hcl T' rfl X'
    exact ⟨t2, st.trans a1, b1⟩
theorem vx_callv {S SX : Type} {post : S → Prop} {px : SX → Prop} {B : S → State → Prop} {BX : String → SX → State → Prop} {AX : Nat → Prop} (hr : vx_Run p l e R s m args below meth c H locs cells slots mc ms (F0 m pc ls st0) rest (va_Qv post B A1 a) (vx_X px BX AX) free) (hS : va_S A0 H0 H locs) (hA : ∀ q, q < H.size → A1 q → A0 q) (hf : ∀ q, free q → A0 q) (hAX : ∀ q, q < H.size → AX q → A0 q)
    (kx : ∀ (E : String) (ce : Cell) (q9 : Addr) (u : SX) (t : State) (H1 : Heap) (locs1 : List Loc), t.heap = H1 → s.vm.Alike t.vm → px u → BX E u t → H.size ≤ H1.size → (∀ q : Nat, q < H.size → ¬ AX q → H1[q]? = H[q]?) → va_S A0 H0 H1 locs1 → H1[q9]? = some ce → ce.vm = .none → s.vm.findClass E = some ce.cls → vx_W p l e R s m args below meth c H1 locs1 (cells + mc) (slots + ms) Q (F0 m pc ls rest) q9)
    (kk : ∀ (u : S) (t : State) (H1 : Heap) (locs1 : List Loc), t.heap = H1 → s.vm.Alike t.vm → post u → B u t → H.size ≤ H1.size → (∀ q : Nat, q < H.size → ¬ A1 q → H1[q]? = H[q]?) → va_S A0 H0 H1 locs1 → W p l e R s m args below meth c H1 locs1 (cells + mc) (slots + ms) Q (F0 m (pc + 3) ls (rest))) : W p l e R s m args below meth c H locs cells slots Q (F0 m pc ls st0) := by
  intro T hT X
  rcases hr T hT X with ⟨v, st₀, t, T', L, h0, X', hL, e1, e2, ⟨⟨u, hv, hp, hb⟩, hF⟩, st⟩ | ⟨q, st₀, t, T', L, E, ce, h0, X', hL, e1, e2, ⟨u, hp, hb, hF⟩, hce, hcv, hcl, st⟩
  · cases hv
    obtain ⟨k1, k2, k3⟩ := vx_keep h0 e1 hS hA hf hL hF
    obtain ⟨t2, a1, b1⟩ := kk u t T'.heap (locs ++ L) e1.symm (by rw [← e2]; exact X'.warmed.alike) hp hb k1 k2 k3 T' rfl X'
    exact ⟨t2, st t2 a1, b1⟩
  · obtain ⟨k1, k2, k3⟩ := vx_keep h0 e1 hS hAX hf hL hF
    obtain ⟨t2, a1, b1⟩ := kx E ce q u t T'.heap (locs ++ L) e1.symm (by rw [← e2]; exact X'.warmed.alike) hp hb k1 k2 k3 (by rw [e1]; exact hce) hcv hcl T' rfl X'
    exact ⟨t2, st.trans a1, b1⟩
/-- caught by the row x of this method's table; the rows ahead don't take it -/
theorem vx_catch {own name : String} {E : String} {ce : Cell} {q : Addr} (hown : s.vm.findClass own = some m.cls) (pre : List ExceptionTableEntry) (x : ExceptionTableEntry) (suf : List ExceptionTableEntry) (hsplit : c.exceptionTable.toList = pre ++ x :: suf)
    (hpass : ∀ z ∈ pre, covers z pc = false ∨ (z.catchType ≠ 0 ∧ ∃ nm : String, (Cond.classLink own z.catchType nm).before args s = true ∧ va_Nc E nm s)) (hx : covers x pc = true) (h0 : x.catchType ≠ 0)
    (hlink : (Cond.classLink own x.catchType name).before args s = true) (hcast : (Cond.castable E name).before args s = true) (hcell : H[q]? = some ce) (hv : ce.vm = .none) (hcl : s.vm.findClass E = some ce.cls)
    (kk : W p l e R s m args below meth c H locs cells slots Q (F0 m x.handlerPc ls [.ref q])) : vx_W p l e R s m args below meth c H locs cells slots Q (F0 m pc ls rest) q := by
  intro T hT X
  have hpl : e.platform.magicAccessors = ({} : Platform).magicAccessors := by rw [X.admits.platform]
  obtain ⟨c3, c4, hc3, hc4, hasg⟩ := Cond.castable_spec hcast
  cases Option.some.inj (hc3.symm.trans hcl)
  obtain ⟨c5, hc5, hcl5⟩ := Cond.classLink_spec hown hlink e.platform hpl
  cases Option.some.inj (hc4.symm.trans hc5)
  obtain ⟨vm', X', st⟩ := X.thenCaughtThrough q (g := F0 m pc ls rest) rfl (Steps.refl _) (by rw [hT]; exact hcell) (by rw [hv]; rfl) (by obtain ⟨k9, h9, -⟩ := Vm.findClass_spec hcl; exact ⟨k9, h9⟩) pre x suf hsplit
    (fun z hz => by
      rcases hpass z hz with h | ⟨hz0, nm, hl1, hn1⟩
      · exact Or.inl h
      · obtain ⟨c6, hc6, hcl6⟩ := Cond.classLink_spec hown hl1 e.platform hpl
        obtain ⟨a8, b8, h1, h2, h3⟩ := hn1
        cases Option.some.inj (h1.symm.trans hcl)
        cases Option.some.inj (h2.symm.trans hc6)
        exact Or.inr ⟨hz0, _, hcl6, h3⟩) hx (Or.inr ⟨h0, c4, hcl5, hasg⟩)
  obtain ⟨t, a1, b1⟩ := kk (T.setVm vm') hT X'
  exact ⟨t, st.trans a1, b1⟩
end Rows
section Ends
variable {p : Program} {l : Launch} {e : Env} {R : Room} {s : State} {m : MethodId} {args : Array Value} {below : List Frame} {meth : Method} {c : Code} {H : Heap} {locs : List Loc} {cells slots : Nat} {Q : State → Prop}
variable {mc ms : Nat} {free : Addr → Prop} {A0 A1 : Nat → Prop} {H0 : Heap} {a : Array Value} {ls : Array Slot} {st0 rest : List Value}
variable {Qc : Array Value → State → Outcome → State → Prop} {XC : String → State → State → Prop}
/-- what a body that may throw owes at its end -/
def vx_MQ (below : List Frame) (Qc : Array Value → State → Outcome → State → Prop) (XC : String → State → State → Prop) (a : Array Value) (s : State) (mc ms : Nat) (free : Addr → Prop) : State → Prop := fun t =>
  ∃ o, t.status = .running ∧ Ended t below o ∧ vx_Q Qc XC mc ms free a s o t
theorem vx_ret {g : JFrame} {mc ms : Nat} (k : W p l e R s m args below meth c H locs cells slots (MQ below Qc args s mc ms free) g) : W p l e R s m args below meth c H locs cells slots (vx_MQ below Qc XC args s mc ms free) g := by
  intro T hT X
  obtain ⟨t, a1, o, b1, b2, b3, b4⟩ := k T hT X
  exact ⟨t, a1, o, b1, b2, Or.inl ⟨b3, b4⟩⟩
/-- not caught here: it goes on to the caller -/
theorem vx_widen {g : JFrame} {q : Addr} {k n : Nat} (h1 : cells ≤ k) (h2 : slots ≤ n) (kk : vx_W p l e R s m args below meth c H locs k n Q g q) : vx_W p l e R s m args below meth c H locs cells slots Q g q := fun T hT X => kk T hT (stand_widen X h1 h2)
theorem vx_out {pc : Nat} {E : String} {ce : Cell} {q : Addr} {mc ms : Nat} (hout : ∀ x ∈ c.exceptionTable.toList, covers x pc = false) (hlocks : meth.locks = false) (hcell : H[q]? = some ce) (hv : ce.vm = .none) (hcl : s.vm.findClass E = some ce.cls)
    (hx : ∀ t : State, t.heap = H → s.vm.Alike t.vm → XC E s t) (hf : ∀ z ∈ locs, free z.base) (hc : cells ≤ mc) (hs : slots ≤ ms) :
    vx_W p l e R s m args below meth c H locs cells slots (vx_MQ below Qc XC args s mc ms free) (F0 m pc ls rest) q := by
  intro T hT X
  obtain ⟨st1, hrun, hend, hW, hsm⟩ := X.leaveThrown q (g := F0 m pc ls rest) rfl rfl rfl hout hlocks
  have hcell9 : (T.setFrames (.throwing q :: below)).heap[q]? = some ce := by
    show T.heap[q]? = some ce
    rw [hT]; exact hcell
  exact ⟨_, st1, .threw q, hrun, hend, Or.inr ⟨q, rfl, E, ce, locs, hx _ hT hW.alike, hcell9, hv, hcl, hW, hsm.mono hc hs, hf⟩⟩
theorem vx_frame {U : State} {k n : Nat} (h : s.sameButNew ({ U with vm := s.vm } : State) locs k n) : s.heap.size ≤ U.heap.size ∧ ∀ q : Nat, q < s.heap.size → (∀ z ∈ locs, z.base ≠ q) → U.heap[q]? = s.heap[q]? := by
  obtain ⟨-, h2, -, -, -, h6⟩ := h
  refine ⟨h2, fun q hq hz => ?_⟩
  obtain ⟨c9, e1, e2, e3, e4⟩ := h6 q _ (Array.getElem?_eq_getElem hq)
  have hs : c9.slots = (s.heap[q]).slots := Array.ext_getElem? fun i => e4 i fun hm => hz _ hm rfl
  have h9 : c9 = s.heap[q] := by
    rw [hs] at e2
    exact e2
  have e5 : U.heap[q]? = some c9 := e1
  rw [e5, h9, Array.getElem?_eq_getElem hq]
/-- the words of a throw but the four that speak of the heap -/
def vx_no (w : Cond) : Bool := decide (w ≠ .isRef (.static Bundle.tN "UNASSIGNED_STACK" Bundle.steD)) && decide (w ≠ .isRef (.static Bundle.tN "SUPPRESSED_SENTINEL" Bundle.listD)) && decide (w ≠ .laysStatic Bundle.tN "UNASSIGNED_STACK" Bundle.steD) && decide (w ≠ .laysStatic Bundle.tN "SUPPRESSED_SENTINEL" Bundle.listD)
def vx_at0 (own : String) (ic : Nat) (X : String) (names : List String) : List Cond := (Bundle.ownAtoms0 own ic X names).filter vx_no
def vx_atS (own : String) (ic : Nat) (X : String) (names : List String) : List Cond := (Bundle.ownAtoms own ic X names).filter vx_no
/-- a word that the tables alone decide, or a good one -/
def vx_ot (w : Cond) : Bool := w.onTables || goodWord w
theorem vx_ot_at {args a' : Array Value} {s U : State} {w : Cond} (hW : s.WarmedH U.vm) (hvm : s.vm = U.vm) (hg : vx_ot w = true) (h : w.before args s = true) : w.before a' U = true := by
  simp only [vx_ot, Bool.or_eq_true] at hg
  rcases hg with hg | hg
  · exact va_tabs hg hvm h
  · exact word_at hW (good_of_word hg) h
/-- a list's words: the good ones out of the method's own list, the others by premises of their own -/
theorem vx_hat {args : Array Value} {s : State} {L B : List Cond} (h1 : ∀ w ∈ L.filter goodWord, w.before args s = true) (h2 : ∀ w ∈ L.filter (fun w => !goodWord w), w ∈ B) (h3 : ∀ w ∈ B, w.before args s = true) : ∀ w ∈ L, w.before args s = true := by
  intro w hw
  by_cases g : goodWord w = true
  · exact h1 w (List.mem_filter.mpr ⟨hw, g⟩)
  · refine h3 w (h2 w (List.mem_filter.mpr ⟨hw, ?_⟩))
    show (!goodWord w) = true
    cases hgw : goodWord w
    · rfl
    · exact absurd hgw g
theorem vx_c {args : Array Value} {s : State} {w : Cond} {B : List Cond} (h : w.before args s = true) (t : ∀ w ∈ B, w.before args s = true) : ∀ w' ∈ w :: B, w'.before args s = true := fun w' h' => (List.mem_cons.mp h').elim (fun e => by rw [e]; exact h) (t w')
theorem vx_n {args : Array Value} {s : State} : ∀ w ∈ ([] : List Cond), w.before args s = true := fun _ h => nomatch h
theorem vx_own {args : Array Value} {s : State} {L : List Cond} (h1 : ∀ w ∈ L.filter vx_no, w.before args s = true)
    (hU : (Cond.isRef (.static Bundle.tN "UNASSIGNED_STACK" Bundle.steD)).before args s = true) (hN : (Cond.isRef (.static Bundle.tN "SUPPRESSED_SENTINEL" Bundle.listD)).before args s = true)
    (lU : (Cond.laysStatic Bundle.tN "UNASSIGNED_STACK" Bundle.steD).before args s = true) (lN : (Cond.laysStatic Bundle.tN "SUPPRESSED_SENTINEL" Bundle.listD).before args s = true) : ∀ w ∈ L, w.before args s = true := by
  intro w hw
  by_cases e1 : w = .isRef (.static Bundle.tN "UNASSIGNED_STACK" Bundle.steD)
  · rw [e1]; exact hU
  · by_cases e2 : w = .isRef (.static Bundle.tN "SUPPRESSED_SENTINEL" Bundle.listD)
    · rw [e2]; exact hN
    · by_cases e3 : w = .laysStatic Bundle.tN "UNASSIGNED_STACK" Bundle.steD
      · rw [e3]; exact lU
      · by_cases e4 : w = .laysStatic Bundle.tN "SUPPRESSED_SENTINEL" Bundle.listD
        · rw [e4]; exact lN
        · exact h1 w (List.mem_filter.mpr ⟨hw, by unfold vx_no; rw [decide_eq_true e1, decide_eq_true e2, decide_eq_true e3, decide_eq_true e4]; rfl⟩)
/-- where a static field lies, its class's statics cell in H -/
def vx_L (C n d : String) (A : Nat → Prop) (U : State) (H : Heap) : Prop := ∃ (c : ClassId) (k : Class) (i : Nat) (f : Field) (a : Nat) (cell : Cell), U.vm.findClass C = some c ∧ U.fieldFound? C n d = some (c, k, i, f) ∧ f.isStatic = true ∧ k.statics = some a ∧ H[a]? = some cell ∧ cell.vm.isStatics = true ∧ cell.cls = c ∧ f.slot < cell.slots.size ∧ k.staticTypes[f.slot]? = some f.type ∧ ¬ A a
theorem vx_L.moved {C n d : String} {A : Nat → Prop} {u U : State} {H : Heap} (hvm : u.vm.Alike U.vm) (h : vx_L C n d A u H) : vx_L C n d A U H := by
  obtain ⟨c, k, i, f, a, cell, h1, h2, h3, h4, h5, h6, h7, h8, h9, h10⟩ := h
  obtain ⟨k', hi', he⟩ := State.fieldFound?_setVm hvm h2
  exact ⟨c, k', i, f, a, cell, by rw [hvm.findClass]; exact h1, hi', h3, by rw [he]; exact h4, h5, h6, h7, h8, by rw [he]; exact h9, h10⟩
theorem vx_L.kept {C n d : String} {A : Nat → Prop} {U : State} {H H1 : Heap} (h : vx_L C n d A U H) (hq : ∀ a : Nat, a < H.size → ¬ A a → H1[a]? = H[a]?) : vx_L C n d A U H1 := by
  obtain ⟨c, k, i, f, a, cell, h1, h2, h3, h4, h5, h6, h7, h8, h9, h10⟩ := h
  exact ⟨c, k, i, f, a, cell, h1, h2, h3, h4, by rw [hq a (Array.getElem?_eq_some_iff.mp h5).1 h10]; exact h5, h6, h7, h8, h9, h10⟩
theorem vx_L.narrow {C n d : String} {A B : Nat → Prop} {U : State} {H : Heap} (h : vx_L C n d A U H) (hAB : ∀ q, B q → A q) : vx_L C n d B U H := by
  obtain ⟨c, k, i, f, a, cell, h1, h2, h3, h4, h5, h6, h7, h8, h9, h10⟩ := h
  exact ⟨c, k, i, f, a, cell, h1, h2, h3, h4, h5, h6, h7, h8, h9, fun z => h10 (hAB _ z)⟩
theorem vx_L.word {C n d : String} {A : Nat → Prop} {s : State} {args : Array Value} (h : vx_L C n d A s s.heap) : (Cond.laysStatic C n d).before args s = true := by
  obtain ⟨c, k, i, f, a, cell, h1, h2, h3, h4, h5, h6, h7, h8, h9, -⟩ := h
  show (Cond.laysStatic C n d).holds args s none s [] = true
  exact Cond.laysStatic_of h1 h2 h3 h4 h5 h6 h7 h8 h9
/-- .. and what it holds: null or some reference -/
def vx_Zq (C n d : String) (A : Nat → Prop) (U : State) (H : Heap) : Prop := va_Zq C n d A U H ∧ vx_L C n d A U H
theorem vx_Zq.moved {C n d : String} {A : Nat → Prop} {u U : State} {H : Heap} (hvm : u.vm.Alike U.vm) (h : vx_Zq C n d A u H) : vx_Zq C n d A U H := ⟨va_Zq.moved hvm h.1, vx_L.moved hvm h.2⟩
theorem vx_Zq.kept {C n d : String} {A : Nat → Prop} {U : State} {H H1 : Heap} (h : vx_Zq C n d A U H) (hq : ∀ a : Nat, a < H.size → ¬ A a → H1[a]? = H[a]?) : vx_Zq C n d A U H1 := ⟨va_Zq.kept h.1 hq, vx_L.kept h.2 hq⟩
theorem vx_Zq.narrow {C n d : String} {A B : Nat → Prop} {U : State} {H : Heap} (h : vx_Zq C n d A U H) (hAB : ∀ q, B q → A q) : vx_Zq C n d B U H := ⟨va_Zq.narrow h.1 hAB, vx_L.narrow h.2 hAB⟩
theorem vx_Zqof {args : Array Value} {s : State} {C n d : String} {A : Nat → Prop} (hl : (Cond.laysStatic C n d).before args s = true) (hini : (Cond.initialized C).before args s = true) (h : (Cond.isRef (.static C n d)).before args s = true) (hA : ∀ a : Nat, a < s.heap.size → ¬ A a) : vx_Zq C n d A s s.heap := by
  refine ⟨va_Zqof hl hini h hA, ?_⟩
  obtain ⟨c, k, i, f, a, cell, h1, h2, h3, h4, h5, h6, h7, h8, h9⟩ := Cond.laysStatic_spec hl
  exact ⟨c, k, i, f, a, cell, h1, h2, h3, h4, h5, h6, h7, h8, h9, hA a (Array.getElem?_eq_some_iff.mp h5).1⟩
theorem vx_isRef {C n d : String} {v : Value} {A : Nat → Prop} {s : State} {args : Array Value} (h : va_Z C n d v A s s.heap) (hv : v.isRef = true) : (Cond.isRef (.static C n d)).before args s = true := by
  obtain ⟨cf, kf, fi, f, a, cell, h1, h2, h3, h4, h5, h6, h7, -⟩ := h
  have he : (Term.static C n d).eval args s none [] s = some v := by
    simp [Term.eval, State.fieldNamed?, h1, h2, h4, h5, h6, h7]
  simp only [Cond.before, Cond.holds, Cond.value, he]
  cases v <;> simp_all [Value.isRef]
theorem vx_isRefq {C n d : String} {A : Nat → Prop} {s : State} {args : Array Value} (h : va_Zq C n d A s s.heap) : (Cond.isRef (.static C n d)).before args s = true := by
  rcases h with h | ⟨t, h⟩
  · exact vx_isRef h rfl
  · exact vx_isRef h rfl
/-- the same frame, seen from here: as if the method were called anew in this heap -/
theorem vx_rebase {T : State} (X : Stand p l e R s m args below meth c T locs cells slots) {R' : Room} (hf : R'.frames ≤ R.frames) (hl : R'.locals ≤ R.locals) (hc : cells + R'.cells ≤ R.cells) (hs : slots + R'.slots ≤ R.slots) :
    Stand p l e R' ((T.setVm s.vm).setFrames (.invoking m args :: below)) m args below meth c T [] 0 0 := by
  have htop : (T.setVm s.vm).topJava?.isSome := X.here.top
  have hF : ((T.setVm s.vm).setFrames (.invoking m args :: below)).frames = .invoking m args :: below := State.frames_setFrames _ (State.cur_lt_of_top htop)
  obtain ⟨g₀, hg0⟩ := Option.isSome_iff_exists.mp htop
  obtain ⟨r, hr⟩ := State.topJava?_eq_some.mp hg0
  have hl9 : e.platform.stackLimits (T.setVm s.vm).me = e.platform.stackLimits s.me := X.limits
  have hb9 : (T.setVm s.vm).me.stackBytes = s.me.stackBytes := X.bytes
  refine ⟨X.admits, X.cas, X.clock, hF, ?_, X.hears, X.method, X.code, X.here, X.tail, X.warmed, ?_, ?_, ?_⟩
  · have h := X.room
    have hU : ((T.setVm s.vm).setFrames (.invoking m args :: below)).localsInUse = s.localsInUse := by
      rw [State.localsInUse_invoking hF (meth := meth) (c := c) X.method X.code, State.localsInUse_invoking X.frames X.method X.code]
    simp only [State.hasRoom, Bool.and_eq_true, decide_eq_true_eq] at h ⊢
    obtain ⟨⟨⟨⟨h1, h2, h3, h4, h5, h6⟩, h7⟩, h8⟩, h9⟩ := h
    rw [X.frames, List.length_cons] at h2 h3
    have q1 := X.heapSize
    have q2 := X.used
    simp only [hF, hU, List.length_cons, State.stackLimits_setFrames, State.stackBytes_setFrames, hl9, hb9]
    refine ⟨⟨⟨⟨by omega, by omega, by omega, by omega, by omega, h6⟩, ?_⟩, ?_⟩, X.book⟩
    · show T.heap.size + R'.cells ≤ e.platform.maxCells
      omega
    · show T.slotsUsed + R'.slots ≤ e.platform.maxSlots
      omega
  · rw [State.stackLimits_setFrames]; rfl
  · rw [State.stackBytes_setFrames]; rfl
  · refine ⟨?_, Nat.le_refl _, Nat.le_refl _, ?_, ?_, fun a c9 h9 => ⟨c9, h9, rfl, rfl, fun _ _ => rfl⟩⟩
    · obtain ⟨t, ht, -⟩ := State.frames_cons hr
      show T.setVm s.vm = { ((T.setVm s.vm).setFrames (.invoking m args :: below)).setFrames (T.setVm s.vm).frames with heap := T.heap, slotsUsed := T.slotsUsed }
      rw [State.setFrames_setFrames, State.setFrames_self ht]
      rfl
    · show T.slotsUsed = T.slotsUsed + ((T.heap.toList.drop T.heap.size).map (·.slots.size)).sum
      rw [List.drop_eq_nil_of_le (Nat.le_of_eq Array.length_toList)]
      rfl
    · show ((T.heap.toList.drop T.heap.size).map (·.slots.size)).sum ≤ 0
      rw [List.drop_eq_nil_of_le (Nat.le_of_eq Array.length_toList)]
      exact Nat.le_refl _
/-- 'throw new E()': new; dup; invokespecial; athrow -/
theorem vx_throw0 {cc : ByteArray} {pc : Nat} (hexec : p.tables.exec = Jvm.exec) (hb : c.code = cc) (hl : l.stackTraces = false) {own cls : String} {names : List String} {ik ic mc ms : Nat} {A : Nat → Prop}
    (hown : s.vm.findClass own = some m.cls) (hcls : Bundle.fit cls = true) (hnames : ∀ n ∈ names, Bundle.fit n = true)
    (hk : (Cond.classLink own ik cls).before args s = true) (hini : (Cond.initialized cls).before args s = true) (hat : ∀ w ∈ vx_at0 own ic cls names, w.before args s = true)
    (hgood : ∀ w ∈ Cond.classLink own ik cls :: Cond.initialized cls :: vx_at0 own ic cls names, vx_ot w = true)
    (hU : vx_Zq Bundle.tN "UNASSIGNED_STACK" Bundle.steD A s s.heap) (hN : vx_Zq Bundle.tN "SUPPRESSED_SENTINEL" Bundle.listD A s s.heap) (hS : va_S A s.heap H locs) (hsize : ls.size = c.maxLocals)
    (d0 : decode cc pc = .ok (.new ik, 3)) (d3 : decode cc (pc + 3) = .ok (.dup, 1)) (d4 : decode cc (pc + 4) = .ok (.invokespecial ic, 3)) (d7 : decode cc (pc + 7) = .ok (.athrow, 1))
    (hout : ∀ x ∈ c.exceptionTable.toList, covers x (pc + 7) = false)
    (hRframes : names.length + 3 < R.frames) (hRlocals : (rest.map fun v => v.category).sum + (13 * (names.length + 1) + 42) ≤ R.locals) (hRcells : cells + 1 ≤ R.cells) (hRslots : slots + 6 ≤ R.slots) (hlocks : meth.locks = false)
    (hx : ∀ t : State, s.vm.Alike t.vm → H.size ≤ t.heap.size → (∀ q : Nat, q < H.size → t.heap[q]? = H[q]?) → XC cls s t)
    (hf : ∀ z ∈ locs, free z.base) (hc : cells + 1 ≤ mc) (hs : slots + 6 ≤ ms) :
    W p l e R s m args below meth c H locs cells slots (vx_MQ below Qc XC args s mc ms free) (F0 m pc ls rest) := by
  intro T hT X
  have htr : e.platform.stackTraces = false := (show e.platform.stackTraces = l.stackTraces by rw [X.admits.platform]).trans hl
  have Y := vx_rebase X (R' := { frames := R.frames, locals := R.locals, cells := 1, slots := 6 }) (Nat.le_refl _) (Nat.le_refl _) hRcells hRslots
  obtain ⟨s', hA⟩ : ∃ z, z = (T.setVm s.vm).setFrames (.invoking m args :: below) := ⟨_, rfl⟩
  rw [← hA] at Y
  have hvm : s'.vm = s.vm := by rw [hA]; rfl
  have hhp : s'.heap = H := by rw [hA]; exact hT
  have hW0 : s.WarmedH s'.vm := by rw [hvm]; exact State.WarmedH.refl s
  have hat' : ∀ w ∈ vx_at0 own ic cls names, w.before args s' = true := fun w hw => vx_ot_at hW0 hvm.symm (hgood w (List.mem_cons_of_mem _ (List.mem_cons_of_mem _ hw))) (hat w hw)
  have hk' : (Cond.classLink own ik cls).before args s' = true := vx_ot_at hW0 hvm.symm (hgood _ List.mem_cons_self) hk
  have hini' : (Cond.initialized cls).before args s' = true := vx_ot_at hW0 hvm.symm (hgood _ (List.mem_cons_of_mem _ List.mem_cons_self)) hini
  have hU' : vx_Zq Bundle.tN "UNASSIGNED_STACK" Bundle.steD A s' s'.heap := by rw [hhp]; exact vx_Zq.moved hW0.alike (hU.kept hS.2.1)
  have hN' : vx_Zq Bundle.tN "SUPPRESSED_SENTINEL" Bundle.listD A s' s'.heap := by rw [hhp]; exact vx_Zq.moved hW0.alike (hN.kept hS.2.1)
  have h : ∀ w ∈ Bundle.ownAtoms0 own ic cls names, w.before args s' = true := vx_own hat' (vx_isRefq hU'.1) (vx_isRefq hN'.1) hU'.2.word hN'.2.word
  have hown' : s'.vm.findClass own = some m.cls := by rw [hvm]; exact hown
  have hins : (Cond.instantiable cls 6).before args s' = true := h _ (by simp [Bundle.ownAtoms0])
  obtain ⟨vm₁, cX, kX, hfX, hkX, -, -, X₁, st1⟩ := Y.newCold hexec (own := own) (C := cls) (index := ik) (n := 6) hown' hk' hins hini'
    (g := F0 m pc ls rest) rfl (by rw [hb]; exact d0) (Nat.le_refl _) (Nat.le_refl _)
  generalize hT1 : (T.setVm vm₁).pushCell { cls := cX, slots := kX.instanceTypes.map defaultValue, vm := .none } = T1 at X₁ st1
  have hcat : (Value.ref T.heap.size).category = 1 := rfl
  have hcellA : T1.heap[T.heap.size]? = some (freshCell cX kX) := by rw [← hT1]; exact State.heap_pushCell_size _ _
  have d3' : decode c.code (pc + 3) = .ok (.dup, 1) := by rw [hb]; exact d3
  obtain ⟨U, hsteps, hrun, hend, hW, hsame, ce, hce, hO⟩ := X₁.ctorThrow0 hexec htr (own := own) (cls := cls) (names := names) (ic := ic) hown' hcls hnames h (fun x hx => nomatch hx) hfX hkX hcellA (by rw [hhp, hT]; exact Nat.le_refl _)
    (g := { method := m, pc := pc + 4, locals := ls, stack := .ref T.heap.size :: .ref T.heap.size :: rest, locked := none }) rfl hsize rfl rfl (rest := rest) rfl
    (by rw [hb]; exact d4) (by rw [hb]; exact d7) hout hRframes (by simp only [List.map_cons, List.sum_cons, hcat]; omega) hlocks
  obtain ⟨f1, f2⟩ := vx_frame hsame
  rw [hhp] at f1 f2
  have hWs : s.WarmedH U.vm := State.WarmedH.trans hW0 hW
  have hcl : s.vm.findClass cls = some ce.cls := by
    have h9 := hO.cls
    rw [hvm] at h9
    exact h9
  have hall : s.sameButNew ({ U with vm := s.vm } : State) locs mc ms := by
    subst hA
    obtain ⟨e1, e2⟩ := hsame
    rw [State.setFrames_setFrames] at e1
    have h2 : (T.setVm s.vm).sameButNew ({ U with vm := s.vm } : State) [] (0 + 1) (0 + 6) := ⟨e1, e2⟩
    have h3 := X.same.trans h2
    rw [List.append_nil] at h3
    exact h3.mono hc hs
  refine ⟨U, ?_, .threw T.heap.size, hrun, hend, Or.inr ⟨T.heap.size, rfl, cls, ce, locs, hx U hWs.alike f1 (fun q hq => f2 q hq (fun z hz => nomatch hz)), hce, hO.vm, hcl, hWs, hall, hf⟩⟩
  refine st1 _ ?_
  show Steps p.tables e below (T1.setTop { method := m, pc := pc + 3, locals := ls, stack := .ref T.heap.size :: rest, locked := none }) _
  jvm_step X₁.here [X₁.here.top, hexec, d3', Value.category]
  exact hsteps
/-- 'throw new E("text")': new; dup; ldc; invokespecial; athrow -/
theorem vx_throwS {cc : ByteArray} {pc : Nat} (hexec : p.tables.exec = Jvm.exec) (hb : c.code = cc) (hl : l.stackTraces = false) {own cls text : String} {names : List String} {ik is ic mc ms sa : Nat} {A : Nat → Prop}
    (hown : s.vm.findClass own = some m.cls) (hcls : Bundle.fit cls = true) (hnames : ∀ n ∈ names, Bundle.fit n = true)
    (hk : (Cond.classLink own ik cls).before args s = true) (hini : (Cond.initialized cls).before args s = true) (hstr : vk_R own is text sa s) (hat : ∀ w ∈ vx_atS own ic cls names, w.before args s = true)
    (hgood : ∀ w ∈ Cond.classLink own ik cls :: Cond.initialized cls :: vx_atS own ic cls names, vx_ot w = true)
    (hU : vx_Zq Bundle.tN "UNASSIGNED_STACK" Bundle.steD A s s.heap) (hN : vx_Zq Bundle.tN "SUPPRESSED_SENTINEL" Bundle.listD A s s.heap) (hS : va_S A s.heap H locs) (hsize : ls.size = c.maxLocals)
    (d0 : decode cc pc = .ok (.new ik, 3)) (d3 : decode cc (pc + 3) = .ok (.dup, 1)) (d4 : decode cc (pc + 4) = .ok (.ldc is, 2)) (d6 : decode cc (pc + 6) = .ok (.invokespecial ic, 3)) (d9 : decode cc (pc + 9) = .ok (.athrow, 1))
    (hout : ∀ x ∈ c.exceptionTable.toList, covers x (pc + 9) = false)
    (hRframes : names.length + 3 < R.frames) (hRlocals : (rest.map fun v => v.category).sum + (13 * (names.length + 1) + 43) ≤ R.locals) (hRcells : cells + 1 ≤ R.cells) (hRslots : slots + 6 ≤ R.slots) (hlocks : meth.locks = false)
    (hx : ∀ t : State, s.vm.Alike t.vm → H.size ≤ t.heap.size → (∀ q : Nat, q < H.size → t.heap[q]? = H[q]?) → XC cls s t)
    (hf : ∀ z ∈ locs, free z.base) (hc : cells + 1 ≤ mc) (hs : slots + 6 ≤ ms) :
    W p l e R s m args below meth c H locs cells slots (vx_MQ below Qc XC args s mc ms free) (F0 m pc ls rest) := by
  intro T hT X
  have htr : e.platform.stackTraces = false := (show e.platform.stackTraces = l.stackTraces by rw [X.admits.platform]).trans hl
  have Y := vx_rebase X (R' := { frames := R.frames, locals := R.locals, cells := 1, slots := 6 }) (Nat.le_refl _) (Nat.le_refl _) hRcells hRslots
  obtain ⟨s', hA⟩ : ∃ z, z = (T.setVm s.vm).setFrames (.invoking m args :: below) := ⟨_, rfl⟩
  rw [← hA] at Y
  have hvm : s'.vm = s.vm := by rw [hA]; rfl
  have hhp : s'.heap = H := by rw [hA]; exact hT
  have hW0 : s.WarmedH s'.vm := by rw [hvm]; exact State.WarmedH.refl s
  have hat' : ∀ w ∈ vx_atS own ic cls names, w.before args s' = true := fun w hw => vx_ot_at hW0 hvm.symm (hgood w (List.mem_cons_of_mem _ (List.mem_cons_of_mem _ hw))) (hat w hw)
  have hk' : (Cond.classLink own ik cls).before args s' = true := vx_ot_at hW0 hvm.symm (hgood _ List.mem_cons_self) hk
  have hini' : (Cond.initialized cls).before args s' = true := vx_ot_at hW0 hvm.symm (hgood _ (List.mem_cons_of_mem _ List.mem_cons_self)) hini
  have hU' : vx_Zq Bundle.tN "UNASSIGNED_STACK" Bundle.steD A s' s'.heap := by rw [hhp]; exact vx_Zq.moved hW0.alike (hU.kept hS.2.1)
  have hN' : vx_Zq Bundle.tN "SUPPRESSED_SENTINEL" Bundle.listD A s' s'.heap := by rw [hhp]; exact vx_Zq.moved hW0.alike (hN.kept hS.2.1)
  have h : ∀ w ∈ Bundle.ownAtoms own ic cls names, w.before args s' = true := vx_own hat' (vx_isRefq hU'.1) (vx_isRefq hN'.1) hU'.2.word hN'.2.word
  have hown' : s'.vm.findClass own = some m.cls := by rw [hvm]; exact hown
  have hins : (Cond.instantiable cls 6).before args s' = true := h _ (by simp [Bundle.ownAtoms])
  obtain ⟨vm₁, cX, kX, hfX, hkX, -, -, X₁, st1⟩ := Y.newCold hexec (own := own) (C := cls) (index := ik) (n := 6) hown' hk' hins hini'
    (g := F0 m pc ls rest) rfl (by rw [hb]; exact d0) (Nat.le_refl _) (Nat.le_refl _)
  generalize hT1 : (T.setVm vm₁).pushCell { cls := cX, slots := kX.instanceTypes.map defaultValue, vm := .none } = T1 at X₁ st1
  have hcat : (Value.ref T.heap.size).category = 1 := rfl
  have hcellA : T1.heap[T.heap.size]? = some (freshCell cX kX) := by rw [← hT1]; exact State.heap_pushCell_size _ _
  have d3' : decode c.code (pc + 3) = .ok (.dup, 1) := by rw [hb]; exact d3
  have d4' : decode c.code (pc + 4) = .ok (.ldc is, 2) := by rw [hb]; exact d4
  have hstr' : vk_R own is text sa s' := vk_R.warm hW0 hstr
  obtain ⟨U, hsteps, hrun, hend, hW, hsame, ce, hce, hO⟩ := X₁.ctorThrowS hexec htr (own := own) (cls := cls) (names := names) (ic := ic) hown' hcls hnames h (fun x hx => nomatch hx) hfX hkX hcellA (by rw [hhp, hT]; exact Nat.le_refl _) (msg := .ref sa) rfl
    (g := { method := m, pc := pc + 6, locals := ls, stack := .ref sa :: .ref T.heap.size :: .ref T.heap.size :: rest, locked := none }) rfl hsize rfl rfl (rest := rest) rfl
    (by rw [hb]; exact d6) (by rw [hb]; exact d9) hout hRframes (by simp only [List.map_cons, List.sum_cons, hcat]; omega) hlocks
  obtain ⟨f1, f2⟩ := vx_frame hsame
  rw [hhp] at f1 f2
  have hWs : s.WarmedH U.vm := State.WarmedH.trans hW0 hW
  have hcl : s.vm.findClass cls = some ce.cls := by
    have h9 := hO.cls
    rw [hvm] at h9
    exact h9
  have hall : s.sameButNew ({ U with vm := s.vm } : State) locs mc ms := by
    subst hA
    obtain ⟨e1, e2⟩ := hsame
    rw [State.setFrames_setFrames] at e1
    have h2 : (T.setVm s.vm).sameButNew ({ U with vm := s.vm } : State) [] (0 + 1) (0 + 6) := ⟨e1, e2⟩
    have h3 := X.same.trans h2
    rw [List.append_nil] at h3
    exact h3.mono hc hs
  refine ⟨U, ?_, .threw T.heap.size, hrun, hend, Or.inr ⟨T.heap.size, rfl, cls, ce, locs, hx U hWs.alike f1 (fun q hq => f2 q hq (fun z hz => nomatch hz)), hce, hO.vm, hcl, hWs, hall, hf⟩⟩
  refine st1 _ ?_
  show Steps p.tables e below (T1.setTop { method := m, pc := pc + 3, locals := ls, stack := .ref T.heap.size :: rest, locked := none }) _
  jvm_step X₁.here [X₁.here.top, hexec, d3', Value.category]
  exact X₁.ldcString hexec (own := own) (text := text) (index := is) (a := sa) hown' hstr'.1 hstr'.2
    (g := { method := m, pc := pc + 4, locals := ls, stack := .ref T.heap.size :: .ref T.heap.size :: rest, locked := none }) rfl d4' _ hsteps
/-- 'throw new E("text")', the text by a wide index -/
theorem vx_throwSW {cc : ByteArray} {pc : Nat} (hexec : p.tables.exec = Jvm.exec) (hb : c.code = cc) (hl : l.stackTraces = false) {own cls text : String} {names : List String} {ik is ic mc ms sa : Nat} {A : Nat → Prop}
    (hown : s.vm.findClass own = some m.cls) (hcls : Bundle.fit cls = true) (hnames : ∀ n ∈ names, Bundle.fit n = true)
    (hk : (Cond.classLink own ik cls).before args s = true) (hini : (Cond.initialized cls).before args s = true) (hstr : vk_R own is text sa s) (hat : ∀ w ∈ vx_atS own ic cls names, w.before args s = true)
    (hgood : ∀ w ∈ Cond.classLink own ik cls :: Cond.initialized cls :: vx_atS own ic cls names, vx_ot w = true)
    (hU : vx_Zq Bundle.tN "UNASSIGNED_STACK" Bundle.steD A s s.heap) (hN : vx_Zq Bundle.tN "SUPPRESSED_SENTINEL" Bundle.listD A s s.heap) (hS : va_S A s.heap H locs) (hsize : ls.size = c.maxLocals)
    (d0 : decode cc pc = .ok (.new ik, 3)) (d3 : decode cc (pc + 3) = .ok (.dup, 1)) (d4 : decode cc (pc + 4) = .ok (.ldc_w is, 3)) (d7 : decode cc (pc + 7) = .ok (.invokespecial ic, 3)) (d10 : decode cc (pc + 10) = .ok (.athrow, 1))
    (hout : ∀ x ∈ c.exceptionTable.toList, covers x (pc + 10) = false)
    (hRframes : names.length + 3 < R.frames) (hRlocals : (rest.map fun v => v.category).sum + (13 * (names.length + 1) + 43) ≤ R.locals) (hRcells : cells + 1 ≤ R.cells) (hRslots : slots + 6 ≤ R.slots) (hlocks : meth.locks = false)
    (hx : ∀ t : State, s.vm.Alike t.vm → H.size ≤ t.heap.size → (∀ q : Nat, q < H.size → t.heap[q]? = H[q]?) → XC cls s t)
    (hf : ∀ z ∈ locs, free z.base) (hc : cells + 1 ≤ mc) (hs : slots + 6 ≤ ms) :
    W p l e R s m args below meth c H locs cells slots (vx_MQ below Qc XC args s mc ms free) (F0 m pc ls rest) := by
  intro T hT X
  have htr : e.platform.stackTraces = false := (show e.platform.stackTraces = l.stackTraces by rw [X.admits.platform]).trans hl
  have Y := vx_rebase X (R' := { frames := R.frames, locals := R.locals, cells := 1, slots := 6 }) (Nat.le_refl _) (Nat.le_refl _) hRcells hRslots
  obtain ⟨s', hA⟩ : ∃ z, z = (T.setVm s.vm).setFrames (.invoking m args :: below) := ⟨_, rfl⟩
  rw [← hA] at Y
  have hvm : s'.vm = s.vm := by rw [hA]; rfl
  have hhp : s'.heap = H := by rw [hA]; exact hT
  have hW0 : s.WarmedH s'.vm := by rw [hvm]; exact State.WarmedH.refl s
  have hat' : ∀ w ∈ vx_atS own ic cls names, w.before args s' = true := fun w hw => vx_ot_at hW0 hvm.symm (hgood w (List.mem_cons_of_mem _ (List.mem_cons_of_mem _ hw))) (hat w hw)
  have hk' : (Cond.classLink own ik cls).before args s' = true := vx_ot_at hW0 hvm.symm (hgood _ List.mem_cons_self) hk
  have hini' : (Cond.initialized cls).before args s' = true := vx_ot_at hW0 hvm.symm (hgood _ (List.mem_cons_of_mem _ List.mem_cons_self)) hini
  have hU' : vx_Zq Bundle.tN "UNASSIGNED_STACK" Bundle.steD A s' s'.heap := by rw [hhp]; exact vx_Zq.moved hW0.alike (hU.kept hS.2.1)
  have hN' : vx_Zq Bundle.tN "SUPPRESSED_SENTINEL" Bundle.listD A s' s'.heap := by rw [hhp]; exact vx_Zq.moved hW0.alike (hN.kept hS.2.1)
  have h : ∀ w ∈ Bundle.ownAtoms own ic cls names, w.before args s' = true := vx_own hat' (vx_isRefq hU'.1) (vx_isRefq hN'.1) hU'.2.word hN'.2.word
  have hown' : s'.vm.findClass own = some m.cls := by rw [hvm]; exact hown
  have hins : (Cond.instantiable cls 6).before args s' = true := h _ (by simp [Bundle.ownAtoms])
  obtain ⟨vm₁, cX, kX, hfX, hkX, -, -, X₁, st1⟩ := Y.newCold hexec (own := own) (C := cls) (index := ik) (n := 6) hown' hk' hins hini'
    (g := F0 m pc ls rest) rfl (by rw [hb]; exact d0) (Nat.le_refl _) (Nat.le_refl _)
  generalize hT1 : (T.setVm vm₁).pushCell { cls := cX, slots := kX.instanceTypes.map defaultValue, vm := .none } = T1 at X₁ st1
  have hcat : (Value.ref T.heap.size).category = 1 := rfl
  have hcellA : T1.heap[T.heap.size]? = some (freshCell cX kX) := by rw [← hT1]; exact State.heap_pushCell_size _ _
  have d3' : decode c.code (pc + 3) = .ok (.dup, 1) := by rw [hb]; exact d3
  have d4' : decode c.code (pc + 4) = .ok (.ldc_w is, 3) := by rw [hb]; exact d4
  have hstr' : vk_R own is text sa s' := vk_R.warm hW0 hstr
  obtain ⟨U, hsteps, hrun, hend, hW, hsame, ce, hce, hO⟩ := X₁.ctorThrowS hexec htr (own := own) (cls := cls) (names := names) (ic := ic) hown' hcls hnames h (fun x hx => nomatch hx) hfX hkX hcellA (by rw [hhp, hT]; exact Nat.le_refl _) (msg := .ref sa) rfl
    (g := { method := m, pc := pc + 7, locals := ls, stack := .ref sa :: .ref T.heap.size :: .ref T.heap.size :: rest, locked := none }) rfl hsize rfl rfl (rest := rest) rfl
    (by rw [hb]; exact d7) (by rw [hb]; exact d10) hout hRframes (by simp only [List.map_cons, List.sum_cons, hcat]; omega) hlocks
  obtain ⟨f1, f2⟩ := vx_frame hsame
  rw [hhp] at f1 f2
  have hWs : s.WarmedH U.vm := State.WarmedH.trans hW0 hW
  have hcl : s.vm.findClass cls = some ce.cls := by
    have h9 := hO.cls
    rw [hvm] at h9
    exact h9
  have hall : s.sameButNew ({ U with vm := s.vm } : State) locs mc ms := by
    subst hA
    obtain ⟨e1, e2⟩ := hsame
    rw [State.setFrames_setFrames] at e1
    have h2 : (T.setVm s.vm).sameButNew ({ U with vm := s.vm } : State) [] (0 + 1) (0 + 6) := ⟨e1, e2⟩
    have h3 := X.same.trans h2
    rw [List.append_nil] at h3
    exact h3.mono hc hs
  refine ⟨U, ?_, .threw T.heap.size, hrun, hend, Or.inr ⟨T.heap.size, rfl, cls, ce, locs, hx U hWs.alike f1 (fun q hq => f2 q hq (fun z hz => nomatch hz)), hce, hO.vm, hcl, hWs, hall, hf⟩⟩
  refine st1 _ ?_
  show Steps p.tables e below (T1.setTop { method := m, pc := pc + 3, locals := ls, stack := .ref T.heap.size :: rest, locked := none }) _
  jvm_step X₁.here [X₁.here.top, hexec, d3', Value.category]
  exact X₁.ldcStringW hexec (own := own) (text := text) (index := is) (a := sa) hown' hstr'.1 hstr'.2
    (g := { method := m, pc := pc + 4, locals := ls, stack := .ref T.heap.size :: .ref T.heap.size :: rest, locked := none }) rfl d4' _ hsteps
end Ends
section Bodies
variable {l : Launch}
theorem vx_ofW {y : MethodName} {ws ws' : List Cond} {rm : Room} {Pc : Array Value → State → Prop} {Qc : Array Value → State → Outcome → State → Prop} {XC : String → State → State → Prop} {mc ms : Nat} {free : Addr → Prop} {cc : ByteArray} {maxL : Nat} {ret : Option FieldType}
    (hy : plainName y.cls = true) (hw : ws = Cond.code y cc maxL ret :: ws')
    (body : ∀ p e s m args below meth c s₁, BodyLoose p l y (headSpec ws rm) cc maxL ret e s m args below meth c s₁ → c.maxLocals = maxL → (∀ x ∈ c.exceptionTable.toList, False) → Pc args s →
      W p l e (headSpec ws rm).room s m args below meth c s.heap [] 0 0 (vx_MQ below Qc XC args s mc ms free) (entryFrame m args maxL)) : vx_Met l y ws rm Pc Qc XC mc ms free := by
  refine MetFree.of_bodyS (code := cc) (maxLocals := maxL) (ret := ret) hy ?_ ?_
  · intro args s m h hn
    obtain ⟨meth, c, h1, h2, h3, h4, h5, h6, -, -⟩ := Cond.code_spec hn (atoms_spec (ws := ws) h _ (by rw [hw]; exact List.mem_cons_self))
    exact ⟨meth, c, h1, h2, h3, h4, h5, h6⟩
  · intro p e s m args below meth c s₁ B hml hP _
    have hh0 : s₁.heap = s.heap := by rw [B.state]; rfl
    have ht : ∀ x ∈ c.exceptionTable.toList, False := by
      obtain ⟨meth9, c9, h1, h2, -, -, -, -, h7, -⟩ := Cond.code_spec B.named (atoms_spec (ws := ws) B.pre _ (by rw [hw]; exact List.mem_cons_self))
      cases Option.some.inj (h1.symm.trans B.method)
      cases Option.some.inj (h2.symm.trans (Stand.of_body B).code)
      intro x hx
      rw [Array.isEmpty_iff.mp h7] at hx
      cases hx
    obtain ⟨t, a1, o, b1, b2, b3⟩ := body p e s m args below meth c s₁ B hml ht hP s₁ hh0 (Stand.of_body B)
    exact ⟨t, o, a1, b1, b2, b3⟩
/-- the table of a body with handlers -/
theorem vx_table {p : Program} {x y : MethodName} {S : Spec} {cc bytes : ByteArray} {maxL maxL' : Nat} {ret ret' : Option FieldType} {e : Env} {s s₁ : State} {m : MethodId} {args : Array Value} {below : List Frame} {meth : Method} {c : Code} {hh : List (Nat × Nat × Nat × Nat)}
    (B : BodyLoose p l y S cc maxL ret e s m args below meth c s₁) (h : (Cond.codeWith y bytes maxL' ret' hh).before args s = true) : c.exceptionTable.toList = tableOf hh := by
  obtain ⟨m9, meth9, c9, hn9, h1, h2, -, -, h6, -⟩ := Cond.codeWith_spec h
  cases Option.some.inj (hn9.symm.trans B.named)
  cases Option.some.inj (h1.symm.trans B.method)
  cases Option.some.inj (h2.symm.trans (Stand.of_body B).code)
  rw [← h6, table_eq]
end Bodies
end VXA
/-! ===== END ===== -/
/-! ===== BEGIN a static call of a method with an exception table ===== -/
section VXS
variable {p : Program} {l : Launch} {e : Env} {R : Room} {s : State} {m : MethodId} {args : Array Value} {below : List Frame} {meth : Method} {c : Code} {T : State} {H : Heap} {locs : List Loc} {cells slots : Nat}
abbrev vx_CSW (R : Room) (s : State) (args : Array Value) (own : String) (index : Nat) (y : MethodName) (bytes : ByteArray) (maxL : Nat) (ret : Option FieldType) (hh : List (Nat × Nat × Nat × Nat)) (ws : List Cond) (rm : Room) (mc ms n : Nat) : Prop :=
  (rm.cells = mc ∧ rm.slots = ms ∧ rm.frames + 1 ≤ R.frames ∧ 8 + (maxL + 11) + rm.locals ≤ R.locals ∧ (∀ w ∈ ws, ∀ (a' : Array Value) (U : State), s.WarmedH U.vm → w.before a' U = true) ∧ Cond.codeWith y bytes maxL ret hh ∈ ws) ∧
  (Cond.codeWith y bytes maxL ret hh).before args s = true ∧ (Cond.initialized y.cls).before args s = true ∧ (y.cls ≠ "java/lang/invoke/MethodHandle" ∧ y.cls ≠ "java/lang/invoke/VarHandle") ∧
  (∀ sig, parseMethodDescriptor y.desc = some sig → n = sig.parameters.length) ∧ (Cond.methodLink own index y).before args s = true ∧ (Cond.static y).before args s = true
theorem vx_cwSW {own : String} {index maxL mc ms : Nat} {y : MethodName} {bytes : ByteArray} {ret : Option FieldType} {hh : List (Nat × Nat × Nat × Nat)} {Ts ws ws' : List Cond} {rm : Room} (n : Nat) (ht : ∀ w ∈ Ts, w.before args s = true) (hT : GoodIn Ts (va_wsS own index y ws)) (hw : ws = Cond.codeWith y bytes maxL ret hh :: ws') (hrc : rm.cells = mc) (hrs : rm.slots = ms)
    (hd : y.cls ≠ "java/lang/invoke/MethodHandle" ∧ y.cls ≠ "java/lang/invoke/VarHandle" ∧ (parseMethodDescriptor y.desc).map (fun d => d.parameters.length) = some n) (hR : rm.frames + 1 ≤ R.frames ∧ 8 + (maxL + 11) + rm.locals ≤ R.locals) :
    vx_CSW R s args own index y bytes maxL ret hh ws rm mc ms n := by
  have ok : ∀ w ∈ va_wsS own index y ws, w.before args s = true := fun w h => ht w (hT w h).1
  have hG : GoodIn Ts ws := fun w h => hT w (by unfold va_wsS; exact List.mem_append_right _ h)
  have hc : Cond.codeWith y bytes maxL ret hh ∈ ws := by rw [hw]; exact List.mem_cons_self
  refine ⟨⟨hrc, hrs, hR.1, hR.2, pay_in ht hG, hc⟩, ht _ (hG _ hc).1, ok _ (by simp [va_wsS]), ⟨hd.1, hd.2.1⟩, fun sig h => ?_, ok _ (by simp [va_wsS]), ok _ (by simp [va_wsS])⟩
  have h2 := hd.2.2
  rw [h] at h2
  exact (Option.some.inj h2).symm
theorem vx_callSW (X : Stand p l e R s m args below meth c T locs cells slots) (hexec : p.tables.exec = Jvm.exec) {own : String} {index : Nat} {y : MethodName} {bytes : ByteArray} {maxL : Nat} {ret : Option FieldType} {hh : List (Nat × Nat × Nat × Nat)}
    (hown : s.vm.findClass own = some m.cls) (hlink : (Cond.methodLink own index y).before args s = true) (hstat : (Cond.static y).before args s = true) (hinit : (Cond.initialized y.cls).before args s = true)
    (hcode : (Cond.codeWith y bytes maxL ret hh).before args s = true) (hy : y.cls ≠ "java/lang/invoke/MethodHandle" ∧ y.cls ≠ "java/lang/invoke/VarHandle")
    {W9 : Nat} {Pre : Pt → Array Value → Prop} {Post : Pt → Array Value → Option Value → Pt → Prop} (hK : Back l R p e below s args y 3 W9 Pre Post)
    {g : JFrame} (hg : g.method = m) (hsize : g.locals.size = c.maxLocals) {argsL rest : List Value} (hlen : ∀ sig, parseMethodDescriptor y.desc = some sig → argsL.length = sig.parameters.length)
    (hstack : g.stack = argsL.reverse ++ rest) (hW : 2 * g.monitorRoom + (rest.map fun v => v.category).sum ≤ W9) (hdg : decode c.code g.pc = .ok (.invokestatic index, 3))
    (hpre : ∀ vm₁, s.WarmedH vm₁ → Pre ⟨T.setVm vm₁, locs, cells, slots⟩ argsL.toArray) :
    ∃ (v : Option Value) (vm₁ : Vm) (B : Pt), s.WarmedH vm₁ ∧ Stand p l e R s m args below meth c B.U B.locs B.cells B.slots ∧ Post ⟨T.setVm vm₁, locs, cells, slots⟩ argsL.toArray v B ∧
      ∀ target, Steps p.tables e below (B.U.setTop { g with pc := g.pc + 3, stack := v.toList ++ rest }) target → Steps p.tables e below (T.setTop g) target := by
  obtain ⟨mk, methM, cM, hnamed, hmethM, -, -, -, -, -, -, hsigM⟩ := Cond.codeWith_spec hcode
  have hstatic : methM.isStatic = true := Cond.static_spec hnamed hmethM hstat
  obtain ⟨kP, hkP, -⟩ := className_of_methodNamed hnamed
  have hinitP : kP.init = .initialized := Cond.initialized_spec (findClass_of_methodNamed hnamed) hkP hinit
  obtain ⟨vm₁, X₁, hstep₁⟩ := X.invokestatic hexec hown hlink hnamed hmethM hstatic hkP hinitP hy (g := g) hg (argsL := argsL) (rest := rest) (hlen _ hsigM) hstack hdg
  obtain ⟨v, B, X', hpost, hsteps⟩ := hK m meth c ⟨T.setVm vm₁, locs, cells, slots⟩ { g with stack := rest } (.invokestatic index) mk argsL.toArray X₁ hg hsize hdg hW (X₁.named hnamed) (hpre vm₁ X₁.warmed)
  exact ⟨v, vm₁, B, X₁.warmed, X', hpost, fun target h => hstep₁ _ fun acts => by rw [doInvoke_state]; exact hsteps.trans h⟩
theorem vx_runSW {y : MethodName} {bytes cc : ByteArray} {maxL nL mc ms n index : Nat} {ret : Option FieldType} {hh : List (Nat × Nat × Nat × Nat)} {ws : List Cond} {rm : Room} {Pc : Array Value → State → Prop} {Qc : Array Value → State → Outcome → State → Prop} {free : Addr → Prop} {Ts : List Cond} {own : String} {As rest : List Value} {g : JFrame}
    (S : CallFix p m c cc nL s args Ts own) (hM : Met l y ws rm Pc Qc mc ms free) (cw : vx_CSW R s args own index y bytes maxL ret hh ws rm mc ms n) (hp : PreS s H Pc As)
    (hg : g.method = m) (hn : As.length = n) (hsize : g.locals.size = nL) (hstack : g.stack = As.reverse ++ rest) (hW : 2 * g.monitorRoom + (rest.map fun v => v.category).sum ≤ 8) (hdg : decode cc g.pc = .ok (.invokestatic index, 3)) (hf : cells + mc ≤ R.cells ∧ slots + ms ≤ R.slots) :
    va_Run p l e R s m args below meth c H locs cells slots mc ms g rest (Qc As.toArray) (free) := by
  obtain ⟨⟨hrc, hrs, hfr, hlo, hws, hcw⟩, hcode, hini, hy, hlen, hl, hstt⟩ := cw
  have hK : Back l R p e below s args y 3 8 (PreOf R mc ms Pc) (PostOf Qc mc ms free) := va_backW (hh := hh) (bytes := bytes) (maxL := maxL) (ret := ret) hM hp.1 hrc hrs hfr hlo hws hcw (fun a' U hW => word_at hW (Or.inl (by first | rfl | simp [Cond.onTables, Cond.keeps, Cond.steady])) hini)
  obtain ⟨hx, hb, hml, ho, -⟩ := S
  intro T hT X
  obtain ⟨v, vm₁, ⟨U', l2, c2, s2⟩, hW₁, X', ⟨g', mk, t, L, e1, e2, hq, h1, hL, h2, h3⟩, st⟩ := vx_callSW X hx (hh := hh) (bytes := bytes) (maxL := maxL) (ret := ret) ho hl hstt hini hcode hy hK hg (hsize.trans hml.symm) (argsL := As) (rest := rest) (fun sig h => hn.trans (hlen sig h)) hstack hW (by rw [hb]; exact hdg)
    (fun vm₁ hW₁ => ⟨hf.1, hf.2, hp.2 (T.setVm vm₁) hT hW₁⟩)
  dsimp only [Pt.U, Pt.locs, Pt.cells, Pt.slots] at X' e1 e2 h1 h2 h3 st
  subst h1; subst h2; subst h3
  exact ⟨v, (T.setVm vm₁).calling g' mk As.toArray, t, U', L, hT, X', hL, e1, e2, hq, st⟩
/-- not caught here, past rows that name other classes: it goes on to the caller -/
theorem vx_outP {p : Program} {l : Launch} {e : Env} {R : Room} {s : State} {m : MethodId} {args : Array Value} {below : List Frame} {meth : Method} {c : Code} {H : Heap} {locs : List Loc} {cells slots : Nat} {free : Addr → Prop} {ls : Array Slot} {rest : List Value} {Qc : Array Value → State → Outcome → State → Prop} {XC : String → State → State → Prop}
    {pc : Nat} {own E : String} {ce : Cell} {q : Addr} {mc ms : Nat} (hown : s.vm.findClass own = some m.cls) (hlocks : meth.locks = false)
    (hpass : ∀ z ∈ c.exceptionTable.toList, covers z pc = false ∨ (z.catchType ≠ 0 ∧ ∃ nm : String, (Cond.classLink own z.catchType nm).before args s = true ∧ va_Nc E nm s)) (hcell : H[q]? = some ce) (hv : ce.vm = .none) (hcl : s.vm.findClass E = some ce.cls)
    (hx : ∀ t : State, t.heap = H → s.vm.Alike t.vm → XC E s t) (hf : ∀ z ∈ locs, free z.base) (hc : cells ≤ mc) (hs : slots ≤ ms) :
    vx_W p l e R s m args below meth c H locs cells slots (vx_MQ below Qc XC args s mc ms free) (F0 m pc ls rest) q := by
  intro T hT X
  have hpl : e.platform.magicAccessors = ({} : Platform).magicAccessors := by rw [X.admits.platform]
  obtain ⟨vm', hW', X', st⟩ := X.outThrough hlocks q (g := F0 m pc ls rest) rfl rfl rfl (cell := ce) (by rw [hT]; exact hcell) (by rw [hv]; rfl)
    (by obtain ⟨k9, h9, -⟩ := Vm.findClass_spec hcl; exact ⟨k9, h9⟩) (fun z hz => by
      rcases hpass z hz with h | ⟨hz0, nm, hl1, hn1⟩
      · exact Or.inl h
      · obtain ⟨c6, hc6, hcl6⟩ := Cond.classLink_spec hown hl1 e.platform hpl
        obtain ⟨a8, b8, h1, h2, h3⟩ := hn1
        cases Option.some.inj (h1.symm.trans hcl)
        cases Option.some.inj (h2.symm.trans hc6)
        exact Or.inr ⟨hz0, _, hcl6, h3⟩)
  obtain ⟨g₀, hfr⟩ := X'.frames_eq
  have hcell9 : ((T.setVm vm').setFrames (.throwing q :: below)).heap[q]? = some ce := by
    show T.heap[q]? = some ce
    rw [hT]; exact hcell
  have hend : Ended ((T.setVm vm').setFrames (.throwing q :: below)) below (.threw q) := State.frames_setFrames _ (State.cur_lt_of_frames hfr)
  refine ⟨(T.setVm vm').setFrames (.throwing q :: below), ?_, .threw q, X'.here.running, hend, Or.inr ⟨q, rfl, E, ce, locs, hx _ hT (X'.ends _).1.alike, hcell9, hv, hcl, (X'.ends _).1, (X'.ends _).2.mono hc hs, hf⟩⟩
  rw [X.pushThrowing_eq]
  exact st
/-- a thing of a world lies in the heap -/
theorem vx_lt {D : va_G} {cl : List vw_C} {ws : va_W} {H1 : Heap} (h : va_P D cl ws H1) {k : Nat} {q : Nat × va_E} (hk : ws[k]? = some q) : q.1 < H1.size := (h k q hk).lt
end VXS
/-! ===== END ===== -/
/-! ===== BEGIN methods with a table of their own: called by a name, returning or throwing ===== -/
section VXH
/-! vx_backW, vx_callVX, vx_callSX, vx_callVW, vx_runVW, vx_runVX, vx_runSX, vx_ofWH follow the same proofs as their sisters above (Free/Laws.lean, Shelf42/LK1.lean); vx_outP calls Shelf42/NT130.lean (outThrough). -/
section
variable {l : Launch} {R : Room} {p : Program} {e : Env} {below : List Frame} {s : State} {sargs : Array Value} {y : MethodName} {len W9 : Nat}
theorem vx_backW {ws : List Cond} {rm : Room} {Pc : Array Value → State → Prop} {Qc : Array Value → State → Outcome → State → Prop} {XC : String → State → State → Prop} {mc ms : Nat} {free : Addr → Prop} {bytes : ByteArray} {maxL : Nat} {ret : Option FieldType} {hh : List (Nat × Nat × Nat × Nat)}
    (hM : vx_Met l y ws rm Pc Qc XC mc ms free) (hblind : FrameBlind Pc) (hrc : rm.cells = mc) (hrs : rm.slots = ms)
    (hframes : rm.frames + 1 ≤ R.frames) (hlocals : W9 + (maxL + 11) + rm.locals ≤ R.locals)
    (hws : ∀ w ∈ ws, ∀ a' U, s.WarmedH U.vm → w.before a' U = true) (hcode : Cond.codeWith y bytes maxL ret hh ∈ ws) (hinit : ∀ a' U, s.WarmedH U.vm → (Cond.initialized y.cls).before a' U = true) :
    vx_Back l R p e below s sargs y len W9 (PreOf R mc ms Pc) (PostOf Qc mc ms free) (vx_Post XC mc ms free) := by
  intro m meth c A g ig mk a X hg hsize hdg hW hn hp
  have h1 : (headSpec ws rm).pre.before a A.U = true := atoms_intro fun w hw => hws w hw _ _ X.warmed
  have h2 : (Cond.codeWith y bytes maxL ret hh).before a A.U = true := hws _ hcode _ _ X.warmed
  have h3 : (Cond.initialized y.cls).before a A.U = true := hinit _ _ X.warmed
  have h4 : A.cells + (headSpec ws rm).room.cells ≤ R.cells := by rw [show (headSpec ws rm).room.cells = mc from hrc]; exact hp.1
  have h5 : A.slots + (headSpec ws rm).room.slots ≤ R.slots := by rw [show (headSpec ws rm).room.slots = ms from hrs]; exact hp.2.1
  have hPc : Pc a (A.U.calling g mk a) := hblind _ _ _ _ hp.2.2
  obtain ⟨U, Ls, c0, s0⟩ := A
  dsimp only [Pt.U, Pt.locs, Pt.cells, Pt.slots] at h1 h2 h3 h4 h5 X hn hPc ⊢
  obtain ⟨m9, methY, cY, hn9, hmY, hcY, -, hlY, -⟩ := Cond.codeWith_spec h2
  cases Option.some.inj (hn9.symm.trans hn)
  obtain ⟨kY, hkY, -⟩ := className_of_methodNamed hn
  have hinitY : kY.init = .initialized := Cond.initialized_spec (findClass_of_methodNamed hn) hkY h3
  have h : At U g.method c below := by rw [hg]; exact X.here
  have hlocals9 : W9 + (maxL + 11) + (headSpec ws rm).room.locals ≤ R.locals := hlocals
  have happ : (headSpec ws rm).appliesLoose y e.platform (U.calling g mk a) = true :=
    Spec.appliesLoose_calling (g := g) h hdg hn hkY hinitY
      (X.room_calling (g := g) (R' := (headSpec ws rm).room) hsize hmY hcY hframes (by rw [hlY]; omega) h4 h5) h1
  obtain ⟨mid, hmid⟩ := h.above
  have hfr : (U.setTop g).frames = (.java g :: mid) ++ below := by rw [State.frames_setTop' g h.top, hmid]; rfl
  obtain ⟨o, s₂, hsteps, -, hend, hq⟩ := Steps.callFree hM p X.admits X.cas X.clock (acts := []) hfr happ hPc trivial
  have hq' : vx_Q Qc XC mc ms free a (U.calling g mk a) o s₂ := hq
  rw [State.frames_setTop' g h.top] at hend
  obtain ⟨g₀, hg0⟩ := Option.isSome_iff_exists.mp h.top
  obtain ⟨r, hr⟩ := State.topJava?_eq_some.mp hg0
  have hr' : (({ U with heap := s₂.heap, slotsUsed := s₂.slotsUsed } : State).setVm s₂.vm).frames = .java g₀ :: r := hr
  rcases hq' with ⟨hqc, L, hfe, hL⟩ | ⟨q, rfl, E, ce, L, hx, hce, hcv, hcl, hW₂, hsm, hL⟩
  · obtain ⟨⟨v, rfl⟩, hW₂, e2, q2, q3, q4, q5, q6⟩ := id hfe
    have e3 : s₂ = ({ (U.calling g mk a).setFrames s₂.frames with heap := s₂.heap, slotsUsed := s₂.slotsUsed } : State).setVm s₂.vm := by
      have : s₂ = ({ s₂ with vm := (U.calling g mk a).vm } : State).setVm s₂.vm := rfl
      rw [e2] at this
      exact this
    obtain ⟨c₂, i₂, len₂, hc₂, hd₂, hf₂⟩ := hend
    have hW' : U.WarmedH s₂.vm := hW₂
    have hcc : c₂ = c := by
      have h1 : s₂.code? g.method = U.code? g.method := by
        rw [State.code?_eq, State.code?_eq, hW'.alike.method?]
      exact Option.some.inj (hc₂.symm.trans (h1.trans h.code))
    subst hcc
    have hlen : len₂ = len := by rw [hdg] at hd₂; cases hd₂; rfl
    subst hlen
    have hs₂ : s₂ = (({ U with heap := s₂.heap, slotsUsed := s₂.slotsUsed } : State).setVm s₂.vm).setTop { g with pc := g.pc + len₂, stack := v.toList ++ g.stack } := by
      refine e3.trans ?_
      rw [hf₂, State.calling_eq h.top, State.setFrames_setFrames, State.setTop_of_frames _ hr', hr]
      rfl
    have hsame : U.sameButNew ({ U with heap := s₂.heap, slotsUsed := s₂.slotsUsed } : State) L mc ms := by
      refine ⟨?_, q2, q3, q4, q5, q6⟩
      obtain ⟨t, ht, -⟩ := State.frames_cons hr
      show ({ U with heap := s₂.heap, slotsUsed := s₂.slotsUsed } : State) = { U.setFrames U.frames with heap := s₂.heap, slotsUsed := s₂.slotsUsed }
      rw [State.setFrames_self ht]
    subst hg
    refine Or.inl ⟨v, ⟨(({ U with heap := s₂.heap, slotsUsed := s₂.slotsUsed } : State).setVm s₂.vm), Ls ++ L, c0 + mc, s0 + ms⟩,
      ⟨X.admits, X.cas, X.clock, X.frames, X.room, X.hears, X.method, X.code, (X.here.setHeapUsed s₂.heap s₂.slotsUsed).setVm hW'.alike, X.tail, State.WarmedH.trans X.warmed hW', X.limits, X.bytes, X.same.trans (hsame.setVm s.vm)⟩,
      ⟨g, mk, s₂, L, rfl, rfl, hqc, rfl, hL, rfl, rfl⟩, ?_⟩
    show Steps p.tables e below _ ((({ U with heap := s₂.heap, slotsUsed := s₂.slotsUsed } : State).setVm s₂.vm).setTop { g with pc := g.pc + len₂, stack := v.toList ++ g.stack })
    rw [← hs₂]
    exact hsteps
  · obtain ⟨e2, q2, q3, q4, q5, q6⟩ := id hsm
    have e3 : s₂ = ({ (U.calling g mk a).setFrames s₂.frames with heap := s₂.heap, slotsUsed := s₂.slotsUsed } : State).setVm s₂.vm := by
      have : s₂ = ({ s₂ with vm := (U.calling g mk a).vm } : State).setVm s₂.vm := rfl
      rw [e2] at this
      exact this
    have hf₂ : s₂.frames = .throwing q :: .java g :: U.frames.tail := hend
    have hW' : U.WarmedH s₂.vm := hW₂
    have hs₂ : s₂ = ((({ U with heap := s₂.heap, slotsUsed := s₂.slotsUsed } : State).setVm s₂.vm).setTop g).pushFrame (.throwing q) := by
      refine e3.trans ?_
      rw [hf₂, State.calling_eq h.top, State.setFrames_setFrames, State.pushFrame, State.frames_setTop _ hr', State.setTop_of_frames _ hr', State.setFrames_setFrames, hr]
      rfl
    have hsame : U.sameButNew ({ U with heap := s₂.heap, slotsUsed := s₂.slotsUsed } : State) L mc ms := by
      refine ⟨?_, q2, q3, q4, q5, q6⟩
      obtain ⟨t, ht, -⟩ := State.frames_cons hr
      show ({ U with heap := s₂.heap, slotsUsed := s₂.slotsUsed } : State) = { U.setFrames U.frames with heap := s₂.heap, slotsUsed := s₂.slotsUsed }
      rw [State.setFrames_self ht]
    subst hg
    refine Or.inr ⟨q, ⟨(({ U with heap := s₂.heap, slotsUsed := s₂.slotsUsed } : State).setVm s₂.vm), Ls ++ L, c0 + mc, s0 + ms⟩,
      ⟨X.admits, X.cas, X.clock, X.frames, X.room, X.hears, X.method, X.code, (X.here.setHeapUsed s₂.heap s₂.slotsUsed).setVm hW'.alike, X.tail, State.WarmedH.trans X.warmed hW', X.limits, X.bytes, X.same.trans (hsame.setVm s.vm)⟩,
      ⟨g, mk, s₂, L, E, ce, rfl, rfl, hx, hce, hcv, hcl, rfl, hL, rfl, rfl⟩, ?_⟩
    show Steps p.tables e below _ (((({ U with heap := s₂.heap, slotsUsed := s₂.slotsUsed } : State).setVm s₂.vm).setTop g).pushFrame (.throwing q))
    rw [← hs₂]
    exact hsteps
end
variable {p : Program} {l : Launch} {e : Env} {R : Room} {s : State} {m : MethodId} {args : Array Value} {below : List Frame} {meth : Method} {c : Code} {T : State} {H : Heap} {locs : List Loc} {cells slots : Nat}
theorem vx_callVX (X : Stand p l e R s m args below meth c T locs cells slots) (hexec : p.tables.exec = Jvm.exec) {own C : String} {index : Nat} {y : MethodName} {bytes : ByteArray} {maxL : Nat} {ret : Option FieldType} {hh : List (Nat × Nat × Nat × Nat)}
    (hown : s.vm.findClass own = some m.cls) (hlink : (Cond.methodLink own index y).before args s = true) (hinst : (Cond.instanceMethod y).before args s = true) (hsel : (Cond.selects C y y).before args s = true)
    (hcode : (Cond.codeWith y bytes maxL ret hh).before args s = true) (hy : y.cls ≠ "java/lang/invoke/MethodHandle" ∧ y.cls ≠ "java/lang/invoke/VarHandle")
    {W9 : Nat} {Pre : Pt → Array Value → Prop} {Post : Pt → Array Value → Option Value → Pt → Prop} {PostX : Pt → Array Value → Addr → Pt → Prop} (hK : vx_Back l R p e below s args y 3 W9 Pre Post PostX)
    {b : Addr} {cellB : Cell} (hcell : T.heap[b]? = some cellB) (hobj : cellB.vm.isStatics = false) (hcls : s.vm.findClass C = some cellB.cls)
    {g : JFrame} (hg : g.method = m) (hsize : g.locals.size = c.maxLocals) {argsL rest : List Value} (hlen : ∀ sig, parseMethodDescriptor y.desc = some sig → argsL.length = sig.parameters.length)
    (hstack : g.stack = argsL.reverse ++ .ref b :: rest) (hW : 2 * g.monitorRoom + (rest.map fun v => v.category).sum ≤ W9) (hdg : decode c.code g.pc = .ok (.invokevirtual index, 3))
    (hpre : ∀ vm₁, s.WarmedH vm₁ → Pre ⟨T.setVm vm₁, locs, cells, slots⟩ (Value.ref b :: argsL).toArray) :
    (∃ (v : Option Value) (vm₁ : Vm) (B : Pt), s.WarmedH vm₁ ∧ Stand p l e R s m args below meth c B.U B.locs B.cells B.slots ∧ Post ⟨T.setVm vm₁, locs, cells, slots⟩ (Value.ref b :: argsL).toArray v B ∧
      ∀ target, Steps p.tables e below (B.U.setTop { g with pc := g.pc + 3, stack := v.toList ++ rest }) target → Steps p.tables e below (T.setTop g) target) ∨
    (∃ (q : Addr) (vm₁ : Vm) (B : Pt), s.WarmedH vm₁ ∧ Stand p l e R s m args below meth c B.U B.locs B.cells B.slots ∧ PostX ⟨T.setVm vm₁, locs, cells, slots⟩ (Value.ref b :: argsL).toArray q B ∧
      Steps p.tables e below (T.setTop g) ((B.U.setTop { g with stack := rest }).pushFrame (.throwing q))) := by
  obtain ⟨mk, methM, hnamed, hmethM, hstM, habM⟩ := Cond.instanceMethod_spec hinst
  obtain ⟨m8, methM', cM, hn8, hmethM', -, -, -, -, -, -, hsigM⟩ := Cond.codeWith_spec hcode
  cases Option.some.inj (hn8.symm.trans hnamed)
  cases hmethM.symm.trans hmethM'
  obtain ⟨c2, r2, m2, q1, q2, q3, q4, kP, hkP, hkPi⟩ := Cond.selects_spec hsel
  cases hcls.symm.trans q1
  cases (State.methodFound?_of_named hnamed hy).symm.trans q2
  cases hnamed.symm.trans q3
  have hselP : selectMethod e.platform s.vm cellB.cls mk = .method mk := by rw [Launch.admits_selectMethod X.admits]; exact q4
  obtain ⟨vm₁, X₁, hstep₁⟩ := X.invokevirtual hexec hown hlink hnamed hmethM hstM hkP hkPi hy (a := b) (cell := cellB) hcell
    (fun z h => by rw [h] at hobj; cases hobj) hselP hmethM habM hkP hkPi (g := g) hg (argsL := argsL) (rest := rest) (hlen _ hsigM) hstack hdg
  rcases hK m meth c ⟨T.setVm vm₁, locs, cells, slots⟩ { g with stack := rest } (.invokevirtual index) mk (Value.ref b :: argsL).toArray X₁ hg hsize hdg hW (X₁.named hnamed) (hpre vm₁ X₁.warmed) with ⟨v, B, X', hpost, hsteps⟩ | ⟨q, B, X', hpost, hsteps⟩
  · exact Or.inl ⟨v, vm₁, B, X₁.warmed, X', hpost, fun target h => hstep₁ _ fun acts => by rw [doInvoke_state]; exact hsteps.trans h⟩
  · exact Or.inr ⟨q, vm₁, B, X₁.warmed, X', hpost, hstep₁ _ fun acts => by rw [doInvoke_state]; exact hsteps⟩
theorem vx_callSX (X : Stand p l e R s m args below meth c T locs cells slots) (hexec : p.tables.exec = Jvm.exec) {own : String} {index : Nat} {y : MethodName} {bytes : ByteArray} {maxL : Nat} {ret : Option FieldType} {hh : List (Nat × Nat × Nat × Nat)}
    (hown : s.vm.findClass own = some m.cls) (hlink : (Cond.methodLink own index y).before args s = true) (hstat : (Cond.static y).before args s = true) (hinit : (Cond.initialized y.cls).before args s = true)
    (hcode : (Cond.codeWith y bytes maxL ret hh).before args s = true) (hy : y.cls ≠ "java/lang/invoke/MethodHandle" ∧ y.cls ≠ "java/lang/invoke/VarHandle")
    {W9 : Nat} {Pre : Pt → Array Value → Prop} {Post : Pt → Array Value → Option Value → Pt → Prop} {PostX : Pt → Array Value → Addr → Pt → Prop} (hK : vx_Back l R p e below s args y 3 W9 Pre Post PostX)
    {g : JFrame} (hg : g.method = m) (hsize : g.locals.size = c.maxLocals) {argsL rest : List Value} (hlen : ∀ sig, parseMethodDescriptor y.desc = some sig → argsL.length = sig.parameters.length)
    (hstack : g.stack = argsL.reverse ++ rest) (hW : 2 * g.monitorRoom + (rest.map fun v => v.category).sum ≤ W9) (hdg : decode c.code g.pc = .ok (.invokestatic index, 3))
    (hpre : ∀ vm₁, s.WarmedH vm₁ → Pre ⟨T.setVm vm₁, locs, cells, slots⟩ argsL.toArray) :
    (∃ (v : Option Value) (vm₁ : Vm) (B : Pt), s.WarmedH vm₁ ∧ Stand p l e R s m args below meth c B.U B.locs B.cells B.slots ∧ Post ⟨T.setVm vm₁, locs, cells, slots⟩ argsL.toArray v B ∧
      ∀ target, Steps p.tables e below (B.U.setTop { g with pc := g.pc + 3, stack := v.toList ++ rest }) target → Steps p.tables e below (T.setTop g) target) ∨
    (∃ (q : Addr) (vm₁ : Vm) (B : Pt), s.WarmedH vm₁ ∧ Stand p l e R s m args below meth c B.U B.locs B.cells B.slots ∧ PostX ⟨T.setVm vm₁, locs, cells, slots⟩ argsL.toArray q B ∧
      Steps p.tables e below (T.setTop g) ((B.U.setTop { g with stack := rest }).pushFrame (.throwing q))) := by
  obtain ⟨mk, methM, cM, hnamed, hmethM, -, -, -, -, -, -, hsigM⟩ := Cond.codeWith_spec hcode
  have hstatic : methM.isStatic = true := Cond.static_spec hnamed hmethM hstat
  obtain ⟨kP, hkP, -⟩ := className_of_methodNamed hnamed
  have hinitP : kP.init = .initialized := Cond.initialized_spec (findClass_of_methodNamed hnamed) hkP hinit
  obtain ⟨vm₁, X₁, hstep₁⟩ := X.invokestatic hexec hown hlink hnamed hmethM hstatic hkP hinitP hy (g := g) hg (argsL := argsL) (rest := rest) (hlen _ hsigM) hstack hdg
  rcases hK m meth c ⟨T.setVm vm₁, locs, cells, slots⟩ { g with stack := rest } (.invokestatic index) mk argsL.toArray X₁ hg hsize hdg hW (X₁.named hnamed) (hpre vm₁ X₁.warmed) with ⟨v, B, X', hpost, hsteps⟩ | ⟨q, B, X', hpost, hsteps⟩
  · exact Or.inl ⟨v, vm₁, B, X₁.warmed, X', hpost, fun target h => hstep₁ _ fun acts => by rw [doInvoke_state]; exact hsteps.trans h⟩
  · exact Or.inr ⟨q, vm₁, B, X₁.warmed, X', hpost, hstep₁ _ fun acts => by rw [doInvoke_state]; exact hsteps⟩
theorem vx_callVW (X : Stand p l e R s m args below meth c T locs cells slots) (hexec : p.tables.exec = Jvm.exec) {own C : String} {index : Nat} {y : MethodName} {bytes : ByteArray} {maxL : Nat} {ret : Option FieldType} {hh : List (Nat × Nat × Nat × Nat)}
    (hown : s.vm.findClass own = some m.cls) (hlink : (Cond.methodLink own index y).before args s = true) (hinst : (Cond.instanceMethod y).before args s = true) (hsel : (Cond.selects C y y).before args s = true)
    (hcode : (Cond.codeWith y bytes maxL ret hh).before args s = true) (hy : y.cls ≠ "java/lang/invoke/MethodHandle" ∧ y.cls ≠ "java/lang/invoke/VarHandle")
    {W9 : Nat} {Pre : Pt → Array Value → Prop} {Post : Pt → Array Value → Option Value → Pt → Prop} (hK : Back l R p e below s args y 3 W9 Pre Post)
    {b : Addr} {cellB : Cell} (hcell : T.heap[b]? = some cellB) (hobj : cellB.vm.isStatics = false) (hcls : s.vm.findClass C = some cellB.cls)
    {g : JFrame} (hg : g.method = m) (hsize : g.locals.size = c.maxLocals) {argsL rest : List Value} (hlen : ∀ sig, parseMethodDescriptor y.desc = some sig → argsL.length = sig.parameters.length)
    (hstack : g.stack = argsL.reverse ++ .ref b :: rest) (hW : 2 * g.monitorRoom + (rest.map fun v => v.category).sum ≤ W9) (hdg : decode c.code g.pc = .ok (.invokevirtual index, 3))
    (hpre : ∀ vm₁, s.WarmedH vm₁ → Pre ⟨T.setVm vm₁, locs, cells, slots⟩ (Value.ref b :: argsL).toArray) :
    ∃ (v : Option Value) (vm₁ : Vm) (B : Pt), s.WarmedH vm₁ ∧ Stand p l e R s m args below meth c B.U B.locs B.cells B.slots ∧ Post ⟨T.setVm vm₁, locs, cells, slots⟩ (Value.ref b :: argsL).toArray v B ∧
      ∀ target, Steps p.tables e below (B.U.setTop { g with pc := g.pc + 3, stack := v.toList ++ rest }) target → Steps p.tables e below (T.setTop g) target := by
  obtain ⟨mk, methM, hnamed, hmethM, hstM, habM⟩ := Cond.instanceMethod_spec hinst
  obtain ⟨m8, methM', cM, hn8, hmethM', -, -, -, -, -, -, hsigM⟩ := Cond.codeWith_spec hcode
  cases Option.some.inj (hn8.symm.trans hnamed)
  cases hmethM.symm.trans hmethM'
  obtain ⟨c2, r2, m2, q1, q2, q3, q4, kP, hkP, hkPi⟩ := Cond.selects_spec hsel
  cases hcls.symm.trans q1
  cases (State.methodFound?_of_named hnamed hy).symm.trans q2
  cases hnamed.symm.trans q3
  have hselP : selectMethod e.platform s.vm cellB.cls mk = .method mk := by rw [Launch.admits_selectMethod X.admits]; exact q4
  obtain ⟨vm₁, X₁, hstep₁⟩ := X.invokevirtual hexec hown hlink hnamed hmethM hstM hkP hkPi hy (a := b) (cell := cellB) hcell
    (fun z h => by rw [h] at hobj; cases hobj) hselP hmethM habM hkP hkPi (g := g) hg (argsL := argsL) (rest := rest) (hlen _ hsigM) hstack hdg
  obtain ⟨v, B, X', hpost, hsteps⟩ := hK m meth c ⟨T.setVm vm₁, locs, cells, slots⟩ { g with stack := rest } (.invokevirtual index) mk (Value.ref b :: argsL).toArray X₁ hg hsize hdg hW (X₁.named hnamed) (hpre vm₁ X₁.warmed)
  exact ⟨v, vm₁, B, X₁.warmed, X', hpost, fun target h => hstep₁ _ fun acts => by rw [doInvoke_state]; exact hsteps.trans h⟩
abbrev vx_CVW (R : Room) (s : State) (args : Array Value) (own C : String) (index : Nat) (y : MethodName) (bytes : ByteArray) (maxL : Nat) (ret : Option FieldType) (hh : List (Nat × Nat × Nat × Nat)) (ws : List Cond) (rm : Room) (mc ms n : Nat) : Prop :=
  (rm.cells = mc ∧ rm.slots = ms ∧ rm.frames + 1 ≤ R.frames ∧ 8 + (maxL + 11) + rm.locals ≤ R.locals ∧ (∀ w ∈ ws, ∀ (a' : Array Value) (U : State), s.WarmedH U.vm → w.before a' U = true) ∧ Cond.codeWith y bytes maxL ret hh ∈ ws) ∧
  (Cond.codeWith y bytes maxL ret hh).before args s = true ∧ (Cond.initialized y.cls).before args s = true ∧ (y.cls ≠ "java/lang/invoke/MethodHandle" ∧ y.cls ≠ "java/lang/invoke/VarHandle") ∧
  (∀ sig, parseMethodDescriptor y.desc = some sig → n = sig.parameters.length) ∧ (Cond.methodLink own index y).before args s = true ∧ (Cond.instanceMethod y).before args s = true ∧ (Cond.selects C y y).before args s = true
theorem vx_cwVW {own C : String} {index maxL mc ms : Nat} {y : MethodName} {bytes : ByteArray} {ret : Option FieldType} {hh : List (Nat × Nat × Nat × Nat)} {Ts ws ws' : List Cond} {rm : Room} (n : Nat) (ht : ∀ w ∈ Ts, w.before args s = true) (hT : GoodIn Ts (wsV own index C y ws)) (hw : ws = Cond.codeWith y bytes maxL ret hh :: ws') (hrc : rm.cells = mc) (hrs : rm.slots = ms)
    (hd : y.cls = C ∧ y.cls ≠ "java/lang/invoke/MethodHandle" ∧ y.cls ≠ "java/lang/invoke/VarHandle" ∧ (parseMethodDescriptor y.desc).map (fun d => d.parameters.length) = some n) (hR : rm.frames + 1 ≤ R.frames ∧ 8 + (maxL + 11) + rm.locals ≤ R.locals) :
    vx_CVW R s args own C index y bytes maxL ret hh ws rm mc ms n := by
  obtain ⟨hC, hd⟩ := hd
  subst hC
  have ok : ∀ w ∈ wsV own index y.cls y ws, w.before args s = true := fun w h => ht w (hT w h).1
  have hG : GoodIn Ts ws := fun w h => hT w (by unfold wsV; exact List.mem_append_right _ h)
  have hc : Cond.codeWith y bytes maxL ret hh ∈ ws := by rw [hw]; exact List.mem_cons_self
  refine ⟨⟨hrc, hrs, hR.1, hR.2, pay_in ht hG, hc⟩, ht _ (hG _ hc).1, ok _ (by simp [wsV]), ⟨hd.1, hd.2.1⟩, fun sig h => ?_, ok _ (by simp [wsV]), ok _ (by simp [wsV]), ok _ (by simp [wsV])⟩
  have h2 := hd.2.2
  rw [h] at h2
  exact (Option.some.inj h2).symm
theorem vx_runVW {y : MethodName} {bytes cc : ByteArray} {maxL nL mc ms n index : Nat} {ret : Option FieldType} {hh : List (Nat × Nat × Nat × Nat)} {ws : List Cond} {rm : Room} {Pc : Array Value → State → Prop} {Qc : Array Value → State → Outcome → State → Prop} {free : Addr → Prop} {Ts : List Cond} {own C : String} {b : Addr} {As rest : List Value} {g : JFrame}
    (S : CallFix p m c cc nL s args Ts own) (hM : Met l y ws rm Pc Qc mc ms free) (cw : vx_CVW R s args own C index y bytes maxL ret hh ws rm mc ms n) (hp : PreV s H C b Pc As)
    (hg : g.method = m) (hn : As.length = n) (hsize : g.locals.size = nL) (hstack : g.stack = As.reverse ++ .ref b :: rest) (hW : 2 * g.monitorRoom + (rest.map fun v => v.category).sum ≤ 8) (hdg : decode cc g.pc = .ok (.invokevirtual index, 3)) (hf : cells + mc ≤ R.cells ∧ slots + ms ≤ R.slots) :
    va_Run p l e R s m args below meth c H locs cells slots mc ms g rest (Qc (Value.ref b :: As).toArray) free := by
  obtain ⟨⟨hrc, hrs, hfr, hlo, hws, hcw⟩, hcode, hini, hy, hlen, hl, hin, hse⟩ := cw
  have hK : Back l R p e below s args y 3 8 (PreOf R mc ms Pc) (PostOf Qc mc ms free) := va_backW (hh := hh) (bytes := bytes) (maxL := maxL) (ret := ret) hM hp.1 hrc hrs hfr hlo hws hcw (fun a' U hW => word_at hW (Or.inl (by first | rfl | simp [Cond.onTables, Cond.keeps, Cond.steady])) hini)
  obtain ⟨hx, hb, hml, ho, -⟩ := S
  obtain ⟨-, ⟨cellB, hcB, hoB, hclB⟩, hPc⟩ := hp
  intro T hT X
  obtain ⟨v, vm₁, ⟨U', l2, c2, s2⟩, hW₁, X', ⟨g', mk, t, L, e1, e2, hq, h1, hL, h2, h3⟩, st⟩ := vx_callVW X hx (C := C) (hh := hh) (bytes := bytes) (maxL := maxL) (ret := ret) ho hl hin hse hcode hy hK (by rw [hT]; exact hcB) hoB hclB hg (hsize.trans hml.symm) (argsL := As) (rest := rest) (fun sig h => hn.trans (hlen sig h)) hstack hW (by rw [hb]; exact hdg)
    (fun vm₁ hW₁ => ⟨hf.1, hf.2, hPc (T.setVm vm₁) hT hW₁⟩)
  dsimp only [Pt.U, Pt.locs, Pt.cells, Pt.slots] at X' e1 e2 h1 h2 h3 st
  subst h1; subst h2; subst h3
  exact ⟨v, (T.setVm vm₁).calling g' mk (Value.ref b :: As).toArray, t, U', L, hT, X', hL, e1, e2, hq, st⟩
section
variable {y : MethodName} {bytes cc : ByteArray} {maxL nL mc ms n index : Nat} {ret : Option FieldType} {ws : List Cond} {rm : Room} {Pc : Array Value → State → Prop} {Qc : Array Value → State → Outcome → State → Prop} {XC : String → State → State → Prop} {free : Addr → Prop} {Ts : List Cond} {own C : String} {b : Addr} {As rest : List Value} {g : JFrame}
theorem vx_runVX {hh : List (Nat × Nat × Nat × Nat)} (S : CallFix p m c cc nL s args Ts own) (hM : vx_Met l y ws rm Pc Qc XC mc ms free) (cw : vx_CVW R s args own C index y bytes maxL ret hh ws rm mc ms n) (hp : PreV s H C b Pc As)
    (hg : g.method = m) (hn : As.length = n) (hsize : g.locals.size = nL) (hstack : g.stack = As.reverse ++ .ref b :: rest) (hW : 2 * g.monitorRoom + (rest.map fun v => v.category).sum ≤ 8) (hdg : decode cc g.pc = .ok (.invokevirtual index, 3)) (hf : cells + mc ≤ R.cells ∧ slots + ms ≤ R.slots) :
    vx_Run p l e R s m args below meth c H locs cells slots mc ms g rest (Qc (Value.ref b :: As).toArray) XC free := by
  obtain ⟨⟨hrc, hrs, hfr, hlo, hws, hcw⟩, hcode, hini, hy, hlen, hl, hin, hse⟩ := cw
  have hK : vx_Back l R p e below s args y 3 8 (PreOf R mc ms Pc) (PostOf Qc mc ms free) (vx_Post XC mc ms free) := vx_backW (hh := hh) (bytes := bytes) (maxL := maxL) (ret := ret) hM hp.1 hrc hrs hfr hlo hws hcw (fun a' U hW => word_at hW (Or.inl (by first | rfl | simp [Cond.onTables, Cond.keeps, Cond.steady])) hini)
  obtain ⟨hx, hb, hml, ho, -⟩ := S
  obtain ⟨-, ⟨cellB, hcB, hoB, hclB⟩, hPc⟩ := hp
  intro T hT X
  rcases vx_callVX X hx (C := C) (hh := hh) (bytes := bytes) (maxL := maxL) (ret := ret) ho hl hin hse hcode hy hK (by rw [hT]; exact hcB) hoB hclB hg (hsize.trans hml.symm) (argsL := As) (rest := rest) (fun sig h => hn.trans (hlen sig h)) hstack hW (by rw [hb]; exact hdg)
    (fun vm₁ hW₁ => ⟨hf.1, hf.2, hPc (T.setVm vm₁) hT hW₁⟩) with ⟨v, vm₁, ⟨U', l2, c2, s2⟩, hW₁, X', ⟨g', mk, t, L, e1, e2, hq, h1, hL, h2, h3⟩, st⟩ | ⟨q, vm₁, ⟨U', l2, c2, s2⟩, hW₁, X', ⟨g', mk, t, L, E, ce, e1, e2, hq, hce, hcv, hcl, h1, hL, h2, h3⟩, st⟩
  · dsimp only [Pt.U, Pt.locs, Pt.cells, Pt.slots] at X' e1 e2 h1 h2 h3 st
    subst h1; subst h2; subst h3
    exact Or.inl ⟨v, (T.setVm vm₁).calling g' mk (Value.ref b :: As).toArray, t, U', L, hT, X', hL, e1, e2, hq, st⟩
  · dsimp only [Pt.U, Pt.locs, Pt.cells, Pt.slots] at X' e1 e2 h1 h2 h3 st hcl
    subst h1; subst h2; subst h3
    exact Or.inr ⟨q, (T.setVm vm₁).calling g' mk (Value.ref b :: As).toArray, t, U', L, E, ce, hT, X', hL, e1, e2, hq, hce, hcv, vx_cls hW₁ hcl, st⟩
theorem vx_runSX {hh : List (Nat × Nat × Nat × Nat)} (S : CallFix p m c cc nL s args Ts own) (hM : vx_Met l y ws rm Pc Qc XC mc ms free) (cw : vx_CSW R s args own index y bytes maxL ret hh ws rm mc ms n) (hp : PreS s H Pc As)
    (hg : g.method = m) (hn : As.length = n) (hsize : g.locals.size = nL) (hstack : g.stack = As.reverse ++ rest) (hW : 2 * g.monitorRoom + (rest.map fun v => v.category).sum ≤ 8) (hdg : decode cc g.pc = .ok (.invokestatic index, 3)) (hf : cells + mc ≤ R.cells ∧ slots + ms ≤ R.slots) :
    vx_Run p l e R s m args below meth c H locs cells slots mc ms g rest (Qc As.toArray) XC free := by
  obtain ⟨⟨hrc, hrs, hfr, hlo, hws, hcw⟩, hcode, hini, hy, hlen, hl, hstt⟩ := cw
  have hK : vx_Back l R p e below s args y 3 8 (PreOf R mc ms Pc) (PostOf Qc mc ms free) (vx_Post XC mc ms free) := vx_backW (hh := hh) (bytes := bytes) (maxL := maxL) (ret := ret) hM hp.1 hrc hrs hfr hlo hws hcw (fun a' U hW => word_at hW (Or.inl (by first | rfl | simp [Cond.onTables, Cond.keeps, Cond.steady])) hini)
  obtain ⟨hx, hb, hml, ho, -⟩ := S
  intro T hT X
  rcases vx_callSX X hx (hh := hh) (bytes := bytes) (maxL := maxL) (ret := ret) ho hl hstt hini hcode hy hK hg (hsize.trans hml.symm) (argsL := As) (rest := rest) (fun sig h => hn.trans (hlen sig h)) hstack hW (by rw [hb]; exact hdg)
    (fun vm₁ hW₁ => ⟨hf.1, hf.2, hp.2 (T.setVm vm₁) hT hW₁⟩) with ⟨v, vm₁, ⟨U', l2, c2, s2⟩, hW₁, X', ⟨g', mk, t, L, e1, e2, hq, h1, hL, h2, h3⟩, st⟩ | ⟨q, vm₁, ⟨U', l2, c2, s2⟩, hW₁, X', ⟨g', mk, t, L, E, ce, e1, e2, hq, hce, hcv, hcl, h1, hL, h2, h3⟩, st⟩
  · dsimp only [Pt.U, Pt.locs, Pt.cells, Pt.slots] at X' e1 e2 h1 h2 h3 st
    subst h1; subst h2; subst h3
    exact Or.inl ⟨v, (T.setVm vm₁).calling g' mk As.toArray, t, U', L, hT, X', hL, e1, e2, hq, st⟩
  · dsimp only [Pt.U, Pt.locs, Pt.cells, Pt.slots] at X' e1 e2 h1 h2 h3 st hcl
    subst h1; subst h2; subst h3
    exact Or.inr ⟨q, (T.setVm vm₁).calling g' mk As.toArray, t, U', L, E, ce, hT, X', hL, e1, e2, hq, hce, hcv, vx_cls hW₁ hcl, st⟩
end
end VXH
theorem vx_ofWH {l : Launch} {y : MethodName} {ws ws' : List Cond} {rm : Room} {Pc : Array Value → State → Prop} {Qc : Array Value → State → Outcome → State → Prop} {XC : String → State → State → Prop} {mc ms : Nat} {free : Addr → Prop} {cc : ByteArray} {maxL : Nat} {ret : Option FieldType} {hh : List (Nat × Nat × Nat × Nat)}
    (hy : plainName y.cls = true) (hw : ws = Cond.codeWith y cc maxL ret hh :: ws')
    (body : ∀ p e s m args below meth c s₁, BodyLoose p l y (headSpec ws rm) cc maxL ret e s m args below meth c s₁ → c.maxLocals = maxL → Pc args s →
      W p l e (headSpec ws rm).room s m args below meth c s.heap [] 0 0 (vx_MQ below Qc XC args s mc ms free) (entryFrame m args maxL)) : vx_Met l y ws rm Pc Qc XC mc ms free := by
  refine MetFree.of_bodyS (code := cc) (maxLocals := maxL) (ret := ret) hy ?_ ?_
  · intro args s m h hn
    obtain ⟨m9, meth, c, hn9, h1, h2, h3, h4, -, h5, h6, -⟩ := Cond.codeWith_spec (atoms_spec (ws := ws) h _ (by rw [hw]; exact List.mem_cons_self))
    cases hn.symm.trans hn9
    exact ⟨meth, c, h1, h2, h3, h4, h5, h6⟩
  · intro p e s m args below meth c s₁ B hml hP _
    have hh0 : s₁.heap = s.heap := by rw [B.state]; rfl
    obtain ⟨t, a1, o, b1, b2, b3⟩ := body p e s m args below meth c s₁ B hml hP s₁ hh0 (Stand.of_body B)
    exact ⟨t, o, a1, b1, b2, b3⟩
/-! ===== END ===== -/
end
section
/-! ===== BEGIN printed: names, fields, word lists, decode rows ===== -/
def RX0 : String := "Kickroom$Rock"
def TX0 : u_T := fun k => match k with
  | 0 => ("Kickroom$Rock", "pores", "[I", true)
  | 1 => ("Kickroom$Rock", "breaks", "[I", true)
  | 2 => ("Kickroom$Rock", "rates", "[I", true)
  | 3 => ("Kickroom$Rock", "gases", "[I", true)
  | _ => ("Kickroom$Rock", "pieces", "[I", true)
def tyX0 : Nat → FieldType := fun k => match k with
  | 0 => .array .int
  | 1 => .array .int
  | 2 => .array .int
  | 3 => .array .int
  | _ => .array .int
abbrev wsX00 : List Cond := u_ws RX0 TX0 5
theorem nmX0 : ∀ a, a < 5 → ∀ b, b < 5 → a ≠ b → (TX0 a).2.1 ≠ (TX0 b).2.1 := by decide +kernel
theorem tyX0_ok : ∀ k, k < 5 → parseFieldDescriptor (TX0 k).2.2.1 = some (tyX0 k) := by decide +kernel
abbrev cX0_init : ByteArray := prog_2_method_1_code
def yX0_init : MethodName := ⟨RX0, "<init>", "()V"⟩
abbrev cX0_tellLayer : ByteArray := prog_2_method_2_code
def yX0_tellLayer : MethodName := ⟨RX0, "tellLayer", "(IIIIZ)V"⟩
abbrev cX0_layerOf : ByteArray := prog_2_method_3_code
def yX0_layerOf : MethodName := ⟨RX0, "layerOf", "(I)I"⟩
abbrev cX0_poreAt : ByteArray := prog_2_method_4_code
def yX0_poreAt : MethodName := ⟨RX0, "poreAt", "(I)I"⟩
abbrev cX0_breakAt : ByteArray := prog_2_method_5_code
def yX0_breakAt : MethodName := ⟨RX0, "breakAt", "(I)I"⟩
abbrev cX0_rateAt : ByteArray := prog_2_method_6_code
def yX0_rateAt : MethodName := ⟨RX0, "rateAt", "(I)I"⟩
abbrev cX0_bearsGasAt : ByteArray := prog_2_method_7_code
def yX0_bearsGasAt : MethodName := ⟨RX0, "bearsGasAt", "(I)Z"⟩
abbrev cX0_greatestPore : ByteArray := prog_2_method_8_code
def yX0_greatestPore : MethodName := ⟨RX0, "greatestPore", "(II)I"⟩
abbrev cX0_leastBreak : ByteArray := prog_2_method_9_code
def yX0_leastBreak : MethodName := ⟨RX0, "leastBreak", "(II)I"⟩
abbrev cX0_piecesFromAbove : ByteArray := prog_2_method_10_code
def yX0_piecesFromAbove : MethodName := ⟨RX0, "piecesFromAbove", "(I)I"⟩
abbrev cX0_piecesFromAll : ByteArray := prog_2_method_11_code
def yX0_piecesFromAll : MethodName := ⟨RX0, "piecesFromAll", "(I)I"⟩
abbrev cX0_leastPiecesTo : ByteArray := prog_2_method_12_code
def yX0_leastPiecesTo : MethodName := ⟨RX0, "leastPiecesTo", "(I)I"⟩
def RX1 : String := "Kickroom$Tests"
def TX1 : u_T := fun k => match k with
  | 0 => ("Kickroom$Tests", "whats", "[I", true)
  | 1 => ("Kickroom$Tests", "pressures", "[I", true)
  | 2 => ("Kickroom$Tests", "passes", "[I", true)
  | 3 => ("Kickroom$Tests", "minutes", "[I", true)
  | 4 => ("Kickroom$Tests", "count", "I", false)
  | 5 => ("Kickroom$Tests", "latestOfValve", "I", false)
  | _ => ("Kickroom$Tests", "latestOfCement", "I", false)
def tyX1 : Nat → FieldType := fun k => match k with
  | 0 => .array .int
  | 1 => .array .int
  | 2 => .array .int
  | 3 => .array .int
  | 4 => .int
  | 5 => .int
  | _ => .int
abbrev wsX10 : List Cond := u_ws RX1 TX1 7
theorem nmX1 : ∀ a, a < 7 → ∀ b, b < 7 → a ≠ b → (TX1 a).2.1 ≠ (TX1 b).2.1 := by decide +kernel
theorem tyX1_ok : ∀ k, k < 7 → parseFieldDescriptor (TX1 k).2.2.1 = some (tyX1 k) := by decide +kernel
abbrev cX1_init : ByteArray := prog_3_method_1_code
def yX1_init : MethodName := ⟨RX1, "<init>", "()V"⟩
abbrev cX1_keep : ByteArray := prog_3_method_2_code
def yX1_keep : MethodName := ⟨RX1, "keep", "(IIZI)V"⟩
abbrev cX1_isPassed : ByteArray := prog_3_method_3_code
def yX1_isPassed : MethodName := ⟨RX1, "isPassed", "(I)Z"⟩
def RX2 : String := "Kickroom$Well"
def TX2 : u_T := fun k => match k with
  | 0 => ("Kickroom$Well", "rock", "LKickroom$Rock;", true)
  | 1 => ("Kickroom$Well", "depth", "I", false)
  | 2 => ("Kickroom$Well", "shoe", "I", false)
  | 3 => ("Kickroom$Well", "weight", "I", false)
  | 4 => ("Kickroom$Well", "isClosed", "Z", false)
  | 5 => ("Kickroom$Well", "choke", "I", false)
  | 6 => ("Kickroom$Well", "valveStrength", "I", false)
  | 7 => ("Kickroom$Well", "hasBrokenSinceTest", "Z", false)
  | 8 => ("Kickroom$Well", "charge", "J", false)
  | 9 => ("Kickroom$Well", "place", "I", false)
  | 10 => ("Kickroom$Well", "gas", "I", false)
  | 11 => ("Kickroom$Well", "liquid", "I", false)
  | 12 => ("Kickroom$Well", "vented", "J", false)
  | 13 => ("Kickroom$Well", "lost", "I", false)
  | _ => ("Kickroom$Well", "minutes", "I", false)
def tyX2 : Nat → FieldType := fun k => match k with
  | 0 => .object "Kickroom$Rock"
  | 1 => .int
  | 2 => .int
  | 3 => .int
  | 4 => .boolean
  | 5 => .int
  | 6 => .int
  | 7 => .boolean
  | 8 => .long
  | 9 => .int
  | 10 => .int
  | 11 => .int
  | 12 => .long
  | 13 => .int
  | _ => .int
abbrev wsX20 : List Cond := u_ws RX2 TX2 15
theorem nmX2 : ∀ a, a < 15 → ∀ b, b < 15 → a ≠ b → (TX2 a).2.1 ≠ (TX2 b).2.1 := by decide +kernel
theorem tyX2_ok : ∀ k, k < 15 → parseFieldDescriptor (TX2 k).2.2.1 = some (tyX2 k) := by decide +kernel
abbrev cX2_init : ByteArray := prog_4_method_1_code
def yX2_init : MethodName := ⟨RX2, "<init>", "(LKickroom$Rock;)V"⟩
abbrev cX2_become : ByteArray := prog_4_method_2_code
def yX2_become : MethodName := ⟨RX2, "become", "(LKickroom$Well;)V"⟩
abbrev cX2_hasGas : ByteArray := prog_4_method_3_code
def yX2_hasGas : MethodName := ⟨RX2, "hasGas", "()Z"⟩
abbrev cX2_hasInflow : ByteArray := prog_4_method_4_code
def yX2_hasInflow : MethodName := ⟨RX2, "hasInflow", "()Z"⟩
abbrev cX2_column : ByteArray := prog_4_method_5_code
def yX2_column : MethodName := ⟨RX2, "column", "()I"⟩
abbrev cX2_bottom : ByteArray := prog_4_method_6_code
def yX2_bottom : MethodName := ⟨RX2, "bottom", "()I"⟩
abbrev cX2_gasPressure : ByteArray := prog_4_method_7_code
def yX2_gasPressure : MethodName := ⟨RX2, "gasPressure", "()I"⟩
abbrev cX2_foot : ByteArray := prog_4_method_8_code
def yX2_foot : MethodName := ⟨RX2, "foot", "()I"⟩
abbrev cX2_letMinutesGo : ByteArray := prog_4_method_9_code
def yX2_letMinutesGo : MethodName := ⟨RX2, "letMinutesGo", "(I)I"⟩
abbrev cX2_letMinuteGo : ByteArray := prog_4_method_10_code
def yX2_letMinuteGo : MethodName := ⟨RX2, "letMinuteGo", "(Z)Z"⟩
abbrev cX2_raiseGas : ByteArray := prog_4_method_11_code
def yX2_raiseGas : MethodName := ⟨RX2, "raiseGas", "(Z)V"⟩
abbrev cX2_ventGas : ByteArray := prog_4_method_12_code
def yX2_ventGas : MethodName := ⟨RX2, "ventGas", "(Z)V"⟩
abbrev cX2_measureGas : ByteArray := prog_4_method_13_code
def yX2_measureGas : MethodName := ⟨RX2, "measureGas", "()V"⟩
abbrev cX2_setChoke : ByteArray := prog_4_method_14_code
def yX2_setChoke : MethodName := ⟨RX2, "setChoke", "()V"⟩
abbrev cX2_flowIn : ByteArray := prog_4_method_15_code
def yX2_flowIn : MethodName := ⟨RX2, "flowIn", "()Z"⟩
abbrev cX2_loseAtShoe : ByteArray := prog_4_method_16_code
def yX2_loseAtShoe : MethodName := ⟨RX2, "loseAtShoe", "()V"⟩
def RX3 : String := "Kickroom"
def TX3 : u_T := fun k => match k with
  | 0 => ("Kickroom", "rock", "LKickroom$Rock;", true)
  | 1 => ("Kickroom", "well", "LKickroom$Well;", true)
  | 2 => ("Kickroom", "trial", "LKickroom$Well;", true)
  | 3 => ("Kickroom", "tests", "LKickroom$Tests;", true)
  | 4 => ("Kickroom", "stops", "I", false)
  | 5 => ("Kickroom", "pumped", "I", false)
  | 6 => ("Kickroom", "latestPumpedWeight", "I", false)
  | _ => ("Kickroom", "cement", "I", false)
def tyX3 : Nat → FieldType := fun k => match k with
  | 0 => .object "Kickroom$Rock"
  | 1 => .object "Kickroom$Well"
  | 2 => .object "Kickroom$Well"
  | 3 => .object "Kickroom$Tests"
  | 4 => .int
  | 5 => .int
  | 6 => .int
  | _ => .int
abbrev wsX30 : List Cond := u_ws RX3 TX3 8
theorem nmX3 : ∀ a, a < 8 → ∀ b, b < 8 → a ≠ b → (TX3 a).2.1 ≠ (TX3 b).2.1 := by decide +kernel
theorem tyX3_ok : ∀ k, k < 8 → parseFieldDescriptor (TX3 k).2.2.1 = some (tyX3 k) := by decide +kernel
abbrev cX3_init : ByteArray := prog_1_method_1_code
def yX3_init : MethodName := ⟨RX3, "<init>", "()V"⟩
abbrev cX3_layer : ByteArray := prog_1_method_2_code
def yX3_layer : MethodName := ⟨RX3, "layer", "(IIIIZ)V"⟩
abbrev cX3_mud : ByteArray := prog_1_method_3_code
def yX3_mud : MethodName := ⟨RX3, "mud", "(I)I"⟩
abbrev cX3_drill : ByteArray := prog_1_method_4_code
def yX3_drill : MethodName := ⟨RX3, "drill", "(I)I"⟩
abbrev cX3_pass : ByteArray := prog_1_method_5_code
def yX3_pass : MethodName := ⟨RX3, "pass", "(I)I"⟩
abbrev cX3_close : ByteArray := prog_1_method_6_code
def yX3_close : MethodName := ⟨RX3, "close", "()V"⟩
abbrev cX3_open : ByteArray := prog_1_method_7_code
def yX3_open : MethodName := ⟨RX3, "open", "()I"⟩
abbrev cX3_pump : ByteArray := prog_1_method_8_code
def yX3_pump : MethodName := ⟨RX3, "pump", "(II)I"⟩
abbrev cX3_pumpOn : ByteArray := prog_1_method_9_code
def yX3_pumpOn : MethodName := ⟨RX3, "pumpOn", "(I)V"⟩
abbrev cX3_casing : ByteArray := prog_1_method_10_code
def yX3_casing : MethodName := ⟨RX3, "casing", "(I)I"⟩
abbrev cX3_strength : ByteArray := prog_1_method_11_code
def yX3_strength : MethodName := ⟨RX3, "strength", "(I)I"⟩
abbrev cX3_test : ByteArray := prog_1_method_12_code
def yX3_test : MethodName := ⟨RX3, "test", "(II)Z"⟩
abbrev cX3_stop : ByteArray := prog_1_method_13_code
def yX3_stop : MethodName := ⟨RX3, "stop", "(IZ)I"⟩
abbrev cX3_pressure : ByteArray := prog_1_method_14_code
def yX3_pressure : MethodName := ⟨RX3, "pressure", "(I)I"⟩
abbrev cX3_of : ByteArray := prog_1_method_15_code
def yX3_of : MethodName := ⟨RX3, "of", "(I)J"⟩
abbrev cX3_barriers : ByteArray := prog_1_method_16_code
def yX3_barriers : MethodName := ⟨RX3, "barriers", "()I"⟩
abbrev cX3_bars : ByteArray := prog_1_method_17_code
def yX3_bars : MethodName := ⟨RX3, "bars", "()I"⟩
abbrev cX3_ofTest : ByteArray := prog_1_method_18_code
def yX3_ofTest : MethodName := ⟨RX3, "ofTest", "(II)I"⟩
abbrev cX3_killWeight : ByteArray := prog_1_method_19_code
def yX3_killWeight : MethodName := ⟨RX3, "killWeight", "()I"⟩
abbrev cX3_window : ByteArray := prog_1_method_20_code
def yX3_window : MethodName := ⟨RX3, "window", "(IIZ)I"⟩
abbrev cX3_casings : ByteArray := prog_1_method_21_code
def yX3_casings : MethodName := ⟨RX3, "casings", "(I)I"⟩
abbrev cX3_casingsAnew : ByteArray := prog_1_method_22_code
def yX3_casingsAnew : MethodName := ⟨RX3, "casingsAnew", "(I)I"⟩
abbrev cX3_equivalent : ByteArray := prog_1_method_23_code
def yX3_equivalent : MethodName := ⟨RX3, "equivalent", "()F"⟩
abbrev cX3_ahead : ByteArray := prog_1_method_24_code
def yX3_ahead : MethodName := ⟨RX3, "ahead", "(I)I"⟩
abbrev cX3_hasMinutes : ByteArray := prog_1_method_25_code
def yX3_hasMinutes : MethodName := ⟨RX3, "hasMinutes", "(I)Z"⟩
abbrev cX3_isMudBarrier : ByteArray := prog_1_method_26_code
def yX3_isMudBarrier : MethodName := ⟨RX3, "isMudBarrier", "()Z"⟩
abbrev cX3_isValveBarrier : ByteArray := prog_1_method_27_code
def yX3_isValveBarrier : MethodName := ⟨RX3, "isValveBarrier", "()Z"⟩
abbrev cX3_isCementBarrier : ByteArray := prog_1_method_28_code
def yX3_isCementBarrier : MethodName := ⟨RX3, "isCementBarrier", "()Z"⟩
abbrev cX3_isWithin : ByteArray := prog_1_method_29_code
def yX3_isWithin : MethodName := ⟨RX3, "isWithin", "(III)Z"⟩
abbrev cX3_read : ByteArray := prog_1_method_30_code
def yX3_read : MethodName := ⟨RX3, "read", "([II)I"⟩
abbrev cX3_write : ByteArray := prog_1_method_31_code
def yX3_write : MethodName := ⟨RX3, "write", "([III)V"⟩
def RX4 : String := "KickroomModel"
def TX4 : u_T := fun k => match k with
  | 0 => ("KickroomModel", "thrown", "I", false)
  | 1 => ("KickroomModel", "pore", "[I", true)
  | 2 => ("KickroomModel", "breaks", "[I", true)
  | 3 => ("KickroomModel", "rate", "[I", true)
  | 4 => ("KickroomModel", "bearsGas", "[Z", true)
  | 5 => ("KickroomModel", "depth", "I", false)
  | 6 => ("KickroomModel", "shoe", "I", false)
  | 7 => ("KickroomModel", "weight", "I", false)
  | 8 => ("KickroomModel", "isClosed", "Z", false)
  | 9 => ("KickroomModel", "choke", "I", false)
  | 10 => ("KickroomModel", "charge", "J", false)
  | 11 => ("KickroomModel", "place", "I", false)
  | 12 => ("KickroomModel", "gas", "I", false)
  | 13 => ("KickroomModel", "liquid", "I", false)
  | 14 => ("KickroomModel", "minutes", "I", false)
  | 15 => ("KickroomModel", "vented", "J", false)
  | 16 => ("KickroomModel", "lost", "J", false)
  | 17 => ("KickroomModel", "pumped", "I", false)
  | 18 => ("KickroomModel", "pumpedWeight", "I", false)
  | 19 => ("KickroomModel", "valve", "I", false)
  | 20 => ("KickroomModel", "brokenAfter", "I", false)
  | 21 => ("KickroomModel", "cement", "I", false)
  | 22 => ("KickroomModel", "casedAfter", "I", false)
  | 23 => ("KickroomModel", "flowed", "Z", false)
  | 24 => ("KickroomModel", "kept", "[J", true)
  | 25 => ("KickroomModel", "tests", "I", false)
  | 26 => ("KickroomModel", "tested", "[I", true)
  | 27 => ("KickroomModel", "by", "[I", true)
  | 28 => ("KickroomModel", "isPassed", "[Z", true)
  | 29 => ("KickroomModel", "testedAt", "[I", true)
  | _ => ("KickroomModel", "stops", "[Z", true)
def tyX4 : Nat → FieldType := fun k => match k with
  | 0 => .int
  | 1 => .array .int
  | 2 => .array .int
  | 3 => .array .int
  | 4 => .array .boolean
  | 5 => .int
  | 6 => .int
  | 7 => .int
  | 8 => .boolean
  | 9 => .int
  | 10 => .long
  | 11 => .int
  | 12 => .int
  | 13 => .int
  | 14 => .int
  | 15 => .long
  | 16 => .long
  | 17 => .int
  | 18 => .int
  | 19 => .int
  | 20 => .int
  | 21 => .int
  | 22 => .int
  | 23 => .boolean
  | 24 => .array .long
  | 25 => .int
  | 26 => .array .int
  | 27 => .array .int
  | 28 => .array .boolean
  | 29 => .array .int
  | _ => .array .boolean
abbrev wsX40 : List Cond := u_ws RX4 TX4 31
theorem nmX4 : ∀ a, a < 31 → ∀ b, b < 31 → a ≠ b → (TX4 a).2.1 ≠ (TX4 b).2.1 := by decide +kernel
theorem tyX4_ok : ∀ k, k < 31 → parseFieldDescriptor (TX4 k).2.2.1 = some (tyX4 k) := by decide +kernel
abbrev cX4_init : ByteArray := prog_6_method_1_code
def yX4_init : MethodName := ⟨RX4, "<init>", "()V"⟩
abbrev cX4_thrown : ByteArray := prog_6_method_2_code
def yX4_thrown : MethodName := ⟨RX4, "thrown", "()I"⟩
abbrev cX4_goesWell : ByteArray := prog_6_method_3_code
def yX4_goesWell : MethodName := ⟨RX4, "goesWell", "(I)Z"⟩
abbrev cX4_in : ByteArray := prog_6_method_4_code
def yX4_in : MethodName := ⟨RX4, "in", "(III)Z"⟩
abbrev cX4_layerAt : ByteArray := prog_6_method_5_code
def yX4_layerAt : MethodName := ⟨RX4, "layerAt", "(I)I"⟩
abbrev cX4_poreAt : ByteArray := prog_6_method_6_code
def yX4_poreAt : MethodName := ⟨RX4, "poreAt", "(I)I"⟩
abbrev cX4_breakAt : ByteArray := prog_6_method_7_code
def yX4_breakAt : MethodName := ⟨RX4, "breakAt", "(I)I"⟩
abbrev cX4_layer : ByteArray := prog_6_method_8_code
def yX4_layer : MethodName := ⟨RX4, "layer", "(IIIIZ)V"⟩
abbrev cX4_mud : ByteArray := prog_6_method_9_code
def yX4_mud : MethodName := ⟨RX4, "mud", "(I)I"⟩
abbrev cX4_column : ByteArray := prog_6_method_10_code
def yX4_column : MethodName := ⟨RX4, "column", "()I"⟩
abbrev cX4_bottom : ByteArray := prog_6_method_11_code
def yX4_bottom : MethodName := ⟨RX4, "bottom", "()I"⟩
abbrev cX4_gasPressure : ByteArray := prog_6_method_12_code
def yX4_gasPressure : MethodName := ⟨RX4, "gasPressure", "()I"⟩
abbrev cX4_foot : ByteArray := prog_6_method_13_code
def yX4_foot : MethodName := ⟨RX4, "foot", "()I"⟩
abbrev cX4_measure : ByteArray := prog_6_method_14_code
def yX4_measure : MethodName := ⟨RX4, "measure", "()V"⟩
abbrev cX4_rise : ByteArray := prog_6_method_15_code
def yX4_rise : MethodName := ⟨RX4, "rise", "(Z)V"⟩
abbrev cX4_shut : ByteArray := prog_6_method_16_code
def yX4_shut : MethodName := ⟨RX4, "shut", "()V"⟩
abbrev cX4_flow : ByteArray := prog_6_method_17_code
def yX4_flow : MethodName := ⟨RX4, "flow", "()V"⟩
abbrev cX4_passOne : ByteArray := prog_6_method_18_code
def yX4_passOne : MethodName := ⟨RX4, "passOne", "(Z)V"⟩
abbrev cX4_drill : ByteArray := prog_6_method_19_code
def yX4_drill : MethodName := ⟨RX4, "drill", "(I)I"⟩
abbrev cX4_pass : ByteArray := prog_6_method_20_code
def yX4_pass : MethodName := ⟨RX4, "pass", "(I)I"⟩
abbrev cX4_close : ByteArray := prog_6_method_21_code
def yX4_close : MethodName := ⟨RX4, "close", "()V"⟩
abbrev cX4_open : ByteArray := prog_6_method_22_code
def yX4_open : MethodName := ⟨RX4, "open", "()I"⟩
abbrev cX4_pump : ByteArray := prog_6_method_23_code
def yX4_pump : MethodName := ⟨RX4, "pump", "(II)I"⟩
abbrev cX4_casing : ByteArray := prog_6_method_24_code
def yX4_casing : MethodName := ⟨RX4, "casing", "(I)I"⟩
abbrev cX4_strength : ByteArray := prog_6_method_25_code
def yX4_strength : MethodName := ⟨RX4, "strength", "(I)I"⟩
abbrev cX4_test : ByteArray := prog_6_method_26_code
def yX4_test : MethodName := ⟨RX4, "test", "(II)Z"⟩
abbrev cX4_stop : ByteArray := prog_6_method_27_code
def yX4_stop : MethodName := ⟨RX4, "stop", "(IZ)I"⟩
abbrev cX4_latest : ByteArray := prog_6_method_28_code
def yX4_latest : MethodName := ⟨RX4, "latest", "(II)I"⟩
abbrev cX4_barriersNow : ByteArray := prog_6_method_29_code
def yX4_barriersNow : MethodName := ⟨RX4, "barriersNow", "()I"⟩
abbrev cX4_barriers : ByteArray := prog_6_method_30_code
def yX4_barriers : MethodName := ⟨RX4, "barriers", "()I"⟩
abbrev cX4_barsNow : ByteArray := prog_6_method_31_code
def yX4_barsNow : MethodName := ⟨RX4, "barsNow", "()I"⟩
abbrev cX4_bars : ByteArray := prog_6_method_32_code
def yX4_bars : MethodName := ⟨RX4, "bars", "()I"⟩
abbrev cX4_pressure : ByteArray := prog_6_method_33_code
def yX4_pressure : MethodName := ⟨RX4, "pressure", "(I)I"⟩
abbrev cX4_of : ByteArray := prog_6_method_34_code
def yX4_of : MethodName := ⟨RX4, "of", "(I)J"⟩
abbrev cX4_ofTest : ByteArray := prog_6_method_35_code
def yX4_ofTest : MethodName := ⟨RX4, "ofTest", "(II)I"⟩
abbrev cX4_killWeight : ByteArray := prog_6_method_36_code
def yX4_killWeight : MethodName := ⟨RX4, "killWeight", "()I"⟩
abbrev cX4_bound : ByteArray := prog_6_method_37_code
def yX4_bound : MethodName := ⟨RX4, "bound", "(IIZ)I"⟩
abbrev cX4_window : ByteArray := prog_6_method_38_code
def yX4_window : MethodName := ⟨RX4, "window", "(IIZ)I"⟩
abbrev cX4_casingsOf : ByteArray := prog_6_method_39_code
def yX4_casingsOf : MethodName := ⟨RX4, "casingsOf", "(I)I"⟩
abbrev cX4_casings : ByteArray := prog_6_method_40_code
def yX4_casings : MethodName := ⟨RX4, "casings", "(I)I"⟩
abbrev cX4_casingsAnew : ByteArray := prog_6_method_41_code
def yX4_casingsAnew : MethodName := ⟨RX4, "casingsAnew", "(I)I"⟩
abbrev cX4_equivalent : ByteArray := prog_6_method_42_code
def yX4_equivalent : MethodName := ⟨RX4, "equivalent", "()F"⟩
abbrev cX4_keep : ByteArray := prog_6_method_43_code
def yX4_keep : MethodName := ⟨RX4, "keep", "()V"⟩
abbrev cX4_comeBack : ByteArray := prog_6_method_44_code
def yX4_comeBack : MethodName := ⟨RX4, "comeBack", "()V"⟩
abbrev cX4_ahead : ByteArray := prog_6_method_45_code
def yX4_ahead : MethodName := ⟨RX4, "ahead", "(I)I"⟩
def RJx145de : String := "java/io/Serializable"
def TJx145de : u_T := fun k => match k with
  | _ => ("", "", "", false)
def tyJx145de : Nat → FieldType := fun k => match k with
  | _ => .int
abbrev wsJx145de0 : List Cond := u_ws RJx145de TJx145de 0
theorem nmJx145de : ∀ a, a < 0 → ∀ b, b < 0 → a ≠ b → (TJx145de a).2.1 ≠ (TJx145de b).2.1 := by decide +kernel
theorem tyJx145de_ok : ∀ k, k < 0 → parseFieldDescriptor (TJx145de k).2.2.1 = some (tyJx145de k) := by decide +kernel
def RJ6 : String := "java/lang/Integer"
def TJ6 : u_T := fun k => match k with
  | _ => ("", "", "", false)
def tyJ6 : Nat → FieldType := fun k => match k with
  | _ => .int
abbrev wsJ60 : List Cond := u_ws RJ6 TJ6 0
theorem nmJ6 : ∀ a, a < 0 → ∀ b, b < 0 → a ≠ b → (TJ6 a).2.1 ≠ (TJ6 b).2.1 := by decide +kernel
theorem tyJ6_ok : ∀ k, k < 0 → parseFieldDescriptor (TJ6 k).2.2.1 = some (tyJ6 k) := by decide +kernel
abbrev cJ6_bitCount_0f7a4 : ByteArray := prog_11_method_49_code
def yJ6_bitCount_0f7a4 : MethodName := ⟨RJ6, "bitCount", "(I)I"⟩
def RJ9 : String := "java/lang/Math"
def TJ9 : u_T := fun k => match k with
  | _ => ("", "", "", false)
def tyJ9 : Nat → FieldType := fun k => match k with
  | _ => .int
abbrev wsJ90 : List Cond := u_ws RJ9 TJ9 0
theorem nmJ9 : ∀ a, a < 0 → ∀ b, b < 0 → a ≠ b → (TJ9 a).2.1 ≠ (TJ9 b).2.1 := by decide +kernel
theorem tyJ9_ok : ∀ k, k < 0 → parseFieldDescriptor (TJ9 k).2.2.1 = some (tyJ9 k) := by decide +kernel
abbrev cJ9_max_7cf53 : ByteArray := prog_12_method_65_code
def yJ9_max_7cf53 : MethodName := ⟨RJ9, "max", "(II)I"⟩
abbrev cJ9_min_7cf53 : ByteArray := prog_12_method_69_code
def yJ9_min_7cf53 : MethodName := ⟨RJ9, "min", "(II)I"⟩
abbrev cJ9_min_f86c9 : ByteArray := prog_12_method_70_code
def yJ9_min_f86c9 : MethodName := ⟨RJ9, "min", "(JJ)J"⟩
def RJ0 : String := "java/lang/String"
def TJ0 : u_T := fun k => match k with
  | _ => ("", "", "", false)
def tyJ0 : Nat → FieldType := fun k => match k with
  | _ => .int
abbrev wsJ00 : List Cond := u_ws RJ0 TJ0 0
theorem nmJ0 : ∀ a, a < 0 → ∀ b, b < 0 → a ≠ b → (TJ0 a).2.1 ≠ (TJ0 b).2.1 := by decide +kernel
theorem tyJ0_ok : ∀ k, k < 0 → parseFieldDescriptor (TJ0 k).2.2.1 = some (tyJ0 k) := by decide +kernel
def RJ7 : String := "java/util/Arrays"
def TJ7 : u_T := fun k => match k with
  | _ => ("", "", "", false)
def tyJ7 : Nat → FieldType := fun k => match k with
  | _ => .int
abbrev wsJ70 : List Cond := u_ws RJ7 TJ7 0
theorem nmJ7 : ∀ a, a < 0 → ∀ b, b < 0 → a ≠ b → (TJ7 a).2.1 ≠ (TJ7 b).2.1 := by decide +kernel
theorem tyJ7_ok : ∀ k, k < 0 → parseFieldDescriptor (TJ7 k).2.2.1 = some (tyJ7 k) := by decide +kernel
abbrev cJ7_fill_53178 : ByteArray := prog_16_method_103_code
def yJ7_fill_53178 : MethodName := ⟨RJ7, "fill", "([II)V"⟩
def RL : String := "KickroomLaw"
abbrev cL_layer : ByteArray := method_3_code
def yL_layer : MethodName := ⟨RL, "layer", "(LKickroom;IIIIZ)I"⟩
abbrev cL_mud : ByteArray := method_4_code
def yL_mud : MethodName := ⟨RL, "mud", "(LKickroom;I[J)I"⟩
abbrev cL_drill : ByteArray := method_5_code
def yL_drill : MethodName := ⟨RL, "drill", "(LKickroom;I[J)I"⟩
abbrev cL_pass : ByteArray := method_6_code
def yL_pass : MethodName := ⟨RL, "pass", "(LKickroom;I[J)I"⟩
abbrev cL_close : ByteArray := method_7_code
def yL_close : MethodName := ⟨RL, "close", "(LKickroom;)I"⟩
abbrev cL_open : ByteArray := method_8_code
def yL_open : MethodName := ⟨RL, "open", "(LKickroom;[J)I"⟩
abbrev cL_pump : ByteArray := method_9_code
def yL_pump : MethodName := ⟨RL, "pump", "(LKickroom;II[J)I"⟩
abbrev cL_casing : ByteArray := method_10_code
def yL_casing : MethodName := ⟨RL, "casing", "(LKickroom;I[J)I"⟩
abbrev cL_strength : ByteArray := method_11_code
def yL_strength : MethodName := ⟨RL, "strength", "(LKickroom;I[J)I"⟩
abbrev cL_test : ByteArray := method_12_code
def yL_test : MethodName := ⟨RL, "test", "(LKickroom;II[J)I"⟩
abbrev cL_stop : ByteArray := method_13_code
def yL_stop : MethodName := ⟨RL, "stop", "(LKickroom;IZ[J)I"⟩
abbrev cL_pressure : ByteArray := method_14_code
def yL_pressure : MethodName := ⟨RL, "pressure", "(LKickroom;I[J)I"⟩
abbrev cL_of : ByteArray := method_15_code
def yL_of : MethodName := ⟨RL, "of", "(LKickroom;I[J)I"⟩
abbrev cL_ofTest : ByteArray := method_16_code
def yL_ofTest : MethodName := ⟨RL, "ofTest", "(LKickroom;II[J)I"⟩
abbrev cL_killWeight : ByteArray := method_17_code
def yL_killWeight : MethodName := ⟨RL, "killWeight", "(LKickroom;[J)I"⟩
abbrev cL_window : ByteArray := method_18_code
def yL_window : MethodName := ⟨RL, "window", "(LKickroom;IIZ[J)I"⟩
abbrev cL_casings : ByteArray := method_19_code
def yL_casings : MethodName := ⟨RL, "casings", "(LKickroom;I[J)I"⟩
abbrev cL_casingsAnew : ByteArray := method_20_code
def yL_casingsAnew : MethodName := ⟨RL, "casingsAnew", "(LKickroom;I[J)I"⟩
abbrev cL_equivalent : ByteArray := method_21_code
def yL_equivalent : MethodName := ⟨RL, "equivalent", "(LKickroom;[D)I"⟩
abbrev cL_ahead : ByteArray := method_22_code
def yL_ahead : MethodName := ⟨RL, "ahead", "(LKickroom;I[J)I"⟩
abbrev cL_law : ByteArray := code
def yL_law : MethodName := ⟨RL, "law", "([I)Z"⟩
abbrev vwCl : List vw_C := [(RX0, TX0, 5), (RX1, TX1, 7), (RX2, TX2, 15), (RX3, TX3, 8), (RX4, TX4, 31)]
end
section
theorem dX0_init_0 : decode cX0_init 0 = .ok (.aload_n 0, 1) := by decide +kernel
theorem dX0_init_1 : decode cX0_init 1 = .ok (.invokespecial 3, 3) := by decide +kernel
theorem dX0_init_4 : decode cX0_init 4 = .ok (.aload_n 0, 1) := by decide +kernel
theorem dX0_init_5 : decode cX0_init 5 = .ok (.bipush 50, 2) := by decide +kernel
theorem dX0_init_7 : decode cX0_init 7 = .ok (.newarray .int, 2) := by decide +kernel
theorem dX0_init_9 : decode cX0_init 9 = .ok (.putfield 9, 3) := by decide +kernel
theorem dX0_init_12 : decode cX0_init 12 = .ok (.aload_n 0, 1) := by decide +kernel
theorem dX0_init_13 : decode cX0_init 13 = .ok (.bipush 50, 2) := by decide +kernel
theorem dX0_init_15 : decode cX0_init 15 = .ok (.newarray .int, 2) := by decide +kernel
theorem dX0_init_17 : decode cX0_init 17 = .ok (.putfield 15, 3) := by decide +kernel
theorem dX0_init_20 : decode cX0_init 20 = .ok (.aload_n 0, 1) := by decide +kernel
theorem dX0_init_21 : decode cX0_init 21 = .ok (.bipush 50, 2) := by decide +kernel
theorem dX0_init_23 : decode cX0_init 23 = .ok (.newarray .int, 2) := by decide +kernel
theorem dX0_init_25 : decode cX0_init 25 = .ok (.putfield 18, 3) := by decide +kernel
theorem dX0_init_28 : decode cX0_init 28 = .ok (.aload_n 0, 1) := by decide +kernel
theorem dX0_init_29 : decode cX0_init 29 = .ok (.bipush 50, 2) := by decide +kernel
theorem dX0_init_31 : decode cX0_init 31 = .ok (.newarray .int, 2) := by decide +kernel
theorem dX0_init_33 : decode cX0_init 33 = .ok (.putfield 21, 3) := by decide +kernel
theorem dX0_init_36 : decode cX0_init 36 = .ok (.aload_n 0, 1) := by decide +kernel
theorem dX0_init_37 : decode cX0_init 37 = .ok (.bipush 50, 2) := by decide +kernel
theorem dX0_init_39 : decode cX0_init 39 = .ok (.newarray .int, 2) := by decide +kernel
theorem dX0_init_41 : decode cX0_init 41 = .ok (.putfield 24, 3) := by decide +kernel
theorem dX0_init_44 : decode cX0_init 44 = .ok (.aload_n 0, 1) := by decide +kernel
theorem dX0_init_45 : decode cX0_init 45 = .ok (.getfield 9, 3) := by decide +kernel
theorem dX0_init_48 : decode cX0_init 48 = .ok (.bipush 100, 2) := by decide +kernel
theorem dX0_init_50 : decode cX0_init 50 = .ok (.invokestatic 27, 3) := by decide +kernel
theorem dX0_init_53 : decode cX0_init 53 = .ok (.aload_n 0, 1) := by decide +kernel
theorem dX0_init_54 : decode cX0_init 54 = .ok (.getfield 15, 3) := by decide +kernel
theorem dX0_init_57 : decode cX0_init 57 = .ok (.sipush 180, 3) := by decide +kernel
theorem dX0_init_60 : decode cX0_init 60 = .ok (.invokestatic 27, 3) := by decide +kernel
theorem dX0_init_63 : decode cX0_init 63 = .ok (.aload_n 0, 1) := by decide +kernel
theorem dX0_init_64 : decode cX0_init 64 = .ok (.getfield 18, 3) := by decide +kernel
theorem dX0_init_67 : decode cX0_init 67 = .ok (.bipush 10, 2) := by decide +kernel
theorem dX0_init_69 : decode cX0_init 69 = .ok (.invokestatic 27, 3) := by decide +kernel
theorem dX0_init_72 : decode cX0_init 72 = .ok (.return_, 1) := by decide +kernel
theorem dX0_tellLayer_0 : decode cX0_tellLayer 0 = .ok (.aload_n 0, 1) := by decide +kernel
theorem dX0_tellLayer_1 : decode cX0_tellLayer 1 = .ok (.getfield 9, 3) := by decide +kernel
theorem dX0_tellLayer_4 : decode cX0_tellLayer 4 = .ok (.iload_n 1, 1) := by decide +kernel
theorem dX0_tellLayer_5 : decode cX0_tellLayer 5 = .ok (.iload_n 2, 1) := by decide +kernel
theorem dX0_tellLayer_6 : decode cX0_tellLayer 6 = .ok (.invokestatic 33, 3) := by decide +kernel
theorem dX0_tellLayer_9 : decode cX0_tellLayer 9 = .ok (.aload_n 0, 1) := by decide +kernel
theorem dX0_tellLayer_10 : decode cX0_tellLayer 10 = .ok (.getfield 15, 3) := by decide +kernel
theorem dX0_tellLayer_13 : decode cX0_tellLayer 13 = .ok (.iload_n 1, 1) := by decide +kernel
theorem dX0_tellLayer_14 : decode cX0_tellLayer 14 = .ok (.iload_n 3, 1) := by decide +kernel
theorem dX0_tellLayer_15 : decode cX0_tellLayer 15 = .ok (.invokestatic 33, 3) := by decide +kernel
theorem dX0_tellLayer_18 : decode cX0_tellLayer 18 = .ok (.aload_n 0, 1) := by decide +kernel
theorem dX0_tellLayer_19 : decode cX0_tellLayer 19 = .ok (.getfield 18, 3) := by decide +kernel
theorem dX0_tellLayer_22 : decode cX0_tellLayer 22 = .ok (.iload_n 1, 1) := by decide +kernel
theorem dX0_tellLayer_23 : decode cX0_tellLayer 23 = .ok (.iload 4, 2) := by decide +kernel
theorem dX0_tellLayer_25 : decode cX0_tellLayer 25 = .ok (.invokestatic 33, 3) := by decide +kernel
theorem dX0_tellLayer_28 : decode cX0_tellLayer 28 = .ok (.aload_n 0, 1) := by decide +kernel
theorem dX0_tellLayer_29 : decode cX0_tellLayer 29 = .ok (.getfield 21, 3) := by decide +kernel
theorem dX0_tellLayer_32 : decode cX0_tellLayer 32 = .ok (.iload_n 1, 1) := by decide +kernel
theorem dX0_tellLayer_33 : decode cX0_tellLayer 33 = .ok (.iload 5, 2) := by decide +kernel
theorem dX0_tellLayer_35 : decode cX0_tellLayer 35 = .ok (.ifCond .eq 7, 3) := by decide +kernel
theorem dX0_tellLayer_38 : decode cX0_tellLayer 38 = .ok (.iconst 1, 1) := by decide +kernel
theorem dX0_tellLayer_39 : decode cX0_tellLayer 39 = .ok (.goto 4, 3) := by decide +kernel
theorem dX0_tellLayer_42 : decode cX0_tellLayer 42 = .ok (.iconst 0, 1) := by decide +kernel
theorem dX0_tellLayer_43 : decode cX0_tellLayer 43 = .ok (.invokestatic 33, 3) := by decide +kernel
theorem dX0_tellLayer_46 : decode cX0_tellLayer 46 = .ok (.return_, 1) := by decide +kernel
theorem dX0_layerOf_0 : decode cX0_layerOf 0 = .ok (.iload_n 0, 1) := by decide +kernel
theorem dX0_layerOf_1 : decode cX0_layerOf 1 = .ok (.ifCond .gt 7, 3) := by decide +kernel
theorem dX0_layerOf_4 : decode cX0_layerOf 4 = .ok (.iconst 0, 1) := by decide +kernel
theorem dX0_layerOf_5 : decode cX0_layerOf 5 = .ok (.goto 9, 3) := by decide +kernel
theorem dX0_layerOf_8 : decode cX0_layerOf 8 = .ok (.iload_n 0, 1) := by decide +kernel
theorem dX0_layerOf_9 : decode cX0_layerOf 9 = .ok (.iconst 1, 1) := by decide +kernel
theorem dX0_layerOf_10 : decode cX0_layerOf 10 = .ok (.isub, 1) := by decide +kernel
theorem dX0_layerOf_11 : decode cX0_layerOf 11 = .ok (.bipush 100, 2) := by decide +kernel
theorem dX0_layerOf_13 : decode cX0_layerOf 13 = .ok (.idiv, 1) := by decide +kernel
theorem dX0_layerOf_14 : decode cX0_layerOf 14 = .ok (.ireturn, 1) := by decide +kernel
theorem dX0_poreAt_0 : decode cX0_poreAt 0 = .ok (.aload_n 0, 1) := by decide +kernel
theorem dX0_poreAt_1 : decode cX0_poreAt 1 = .ok (.getfield 9, 3) := by decide +kernel
theorem dX0_poreAt_4 : decode cX0_poreAt 4 = .ok (.iload_n 1, 1) := by decide +kernel
theorem dX0_poreAt_5 : decode cX0_poreAt 5 = .ok (.invokestatic 37, 3) := by decide +kernel
theorem dX0_poreAt_8 : decode cX0_poreAt 8 = .ok (.invokestatic 41, 3) := by decide +kernel
theorem dX0_poreAt_11 : decode cX0_poreAt 11 = .ok (.iload_n 1, 1) := by decide +kernel
theorem dX0_poreAt_12 : decode cX0_poreAt 12 = .ok (.imul, 1) := by decide +kernel
theorem dX0_poreAt_13 : decode cX0_poreAt 13 = .ok (.bipush 10, 2) := by decide +kernel
theorem dX0_poreAt_15 : decode cX0_poreAt 15 = .ok (.idiv, 1) := by decide +kernel
theorem dX0_poreAt_16 : decode cX0_poreAt 16 = .ok (.ireturn, 1) := by decide +kernel
theorem dX0_breakAt_0 : decode cX0_breakAt 0 = .ok (.aload_n 0, 1) := by decide +kernel
theorem dX0_breakAt_1 : decode cX0_breakAt 1 = .ok (.getfield 15, 3) := by decide +kernel
theorem dX0_breakAt_4 : decode cX0_breakAt 4 = .ok (.iload_n 1, 1) := by decide +kernel
theorem dX0_breakAt_5 : decode cX0_breakAt 5 = .ok (.invokestatic 37, 3) := by decide +kernel
theorem dX0_breakAt_8 : decode cX0_breakAt 8 = .ok (.invokestatic 41, 3) := by decide +kernel
theorem dX0_breakAt_11 : decode cX0_breakAt 11 = .ok (.iload_n 1, 1) := by decide +kernel
theorem dX0_breakAt_12 : decode cX0_breakAt 12 = .ok (.imul, 1) := by decide +kernel
theorem dX0_breakAt_13 : decode cX0_breakAt 13 = .ok (.bipush 10, 2) := by decide +kernel
theorem dX0_breakAt_15 : decode cX0_breakAt 15 = .ok (.idiv, 1) := by decide +kernel
theorem dX0_breakAt_16 : decode cX0_breakAt 16 = .ok (.ireturn, 1) := by decide +kernel
theorem dX0_rateAt_0 : decode cX0_rateAt 0 = .ok (.aload_n 0, 1) := by decide +kernel
theorem dX0_rateAt_1 : decode cX0_rateAt 1 = .ok (.getfield 18, 3) := by decide +kernel
theorem dX0_rateAt_4 : decode cX0_rateAt 4 = .ok (.iload_n 1, 1) := by decide +kernel
theorem dX0_rateAt_5 : decode cX0_rateAt 5 = .ok (.invokestatic 37, 3) := by decide +kernel
theorem dX0_rateAt_8 : decode cX0_rateAt 8 = .ok (.invokestatic 41, 3) := by decide +kernel
theorem dX0_rateAt_11 : decode cX0_rateAt 11 = .ok (.ireturn, 1) := by decide +kernel
theorem dX0_bearsGasAt_0 : decode cX0_bearsGasAt 0 = .ok (.aload_n 0, 1) := by decide +kernel
theorem dX0_bearsGasAt_1 : decode cX0_bearsGasAt 1 = .ok (.getfield 21, 3) := by decide +kernel
theorem dX0_bearsGasAt_4 : decode cX0_bearsGasAt 4 = .ok (.iload_n 1, 1) := by decide +kernel
theorem dX0_bearsGasAt_5 : decode cX0_bearsGasAt 5 = .ok (.invokestatic 37, 3) := by decide +kernel
theorem dX0_bearsGasAt_8 : decode cX0_bearsGasAt 8 = .ok (.invokestatic 41, 3) := by decide +kernel
theorem dX0_bearsGasAt_11 : decode cX0_bearsGasAt 11 = .ok (.iconst 1, 1) := by decide +kernel
theorem dX0_bearsGasAt_12 : decode cX0_bearsGasAt 12 = .ok (.if_icmp .ne 7, 3) := by decide +kernel
theorem dX0_bearsGasAt_15 : decode cX0_bearsGasAt 15 = .ok (.iconst 1, 1) := by decide +kernel
theorem dX0_bearsGasAt_16 : decode cX0_bearsGasAt 16 = .ok (.goto 4, 3) := by decide +kernel
theorem dX0_bearsGasAt_19 : decode cX0_bearsGasAt 19 = .ok (.iconst 0, 1) := by decide +kernel
theorem dX0_bearsGasAt_20 : decode cX0_bearsGasAt 20 = .ok (.ireturn, 1) := by decide +kernel
theorem dX0_greatestPore_0 : decode cX0_greatestPore 0 = .ok (.aload_n 0, 1) := by decide +kernel
theorem dX0_greatestPore_1 : decode cX0_greatestPore 1 = .ok (.getfield 9, 3) := by decide +kernel
theorem dX0_greatestPore_4 : decode cX0_greatestPore 4 = .ok (.iload_n 1, 1) := by decide +kernel
theorem dX0_greatestPore_5 : decode cX0_greatestPore 5 = .ok (.invokestatic 41, 3) := by decide +kernel
theorem dX0_greatestPore_8 : decode cX0_greatestPore 8 = .ok (.istore_n 3, 1) := by decide +kernel
theorem dX0_greatestPore_9 : decode cX0_greatestPore 9 = .ok (.iload_n 1, 1) := by decide +kernel
theorem dX0_greatestPore_10 : decode cX0_greatestPore 10 = .ok (.iconst 1, 1) := by decide +kernel
theorem dX0_greatestPore_11 : decode cX0_greatestPore 11 = .ok (.iadd, 1) := by decide +kernel
theorem dX0_greatestPore_12 : decode cX0_greatestPore 12 = .ok (.istore 4, 2) := by decide +kernel
theorem dX0_greatestPore_14 : decode cX0_greatestPore 14 = .ok (.iload 4, 2) := by decide +kernel
theorem dX0_greatestPore_16 : decode cX0_greatestPore 16 = .ok (.iload_n 2, 1) := by decide +kernel
theorem dX0_greatestPore_17 : decode cX0_greatestPore 17 = .ok (.if_icmp .gt 23, 3) := by decide +kernel
theorem dX0_greatestPore_20 : decode cX0_greatestPore 20 = .ok (.iload_n 3, 1) := by decide +kernel
theorem dX0_greatestPore_21 : decode cX0_greatestPore 21 = .ok (.aload_n 0, 1) := by decide +kernel
theorem dX0_greatestPore_22 : decode cX0_greatestPore 22 = .ok (.getfield 9, 3) := by decide +kernel
theorem dX0_greatestPore_25 : decode cX0_greatestPore 25 = .ok (.iload 4, 2) := by decide +kernel
theorem dX0_greatestPore_27 : decode cX0_greatestPore 27 = .ok (.invokestatic 41, 3) := by decide +kernel
theorem dX0_greatestPore_30 : decode cX0_greatestPore 30 = .ok (.invokestatic 45, 3) := by decide +kernel
theorem dX0_greatestPore_33 : decode cX0_greatestPore 33 = .ok (.istore_n 3, 1) := by decide +kernel
theorem dX0_greatestPore_34 : decode cX0_greatestPore 34 = .ok (.iinc 4 1, 3) := by decide +kernel
theorem dX0_greatestPore_37 : decode cX0_greatestPore 37 = .ok (.goto (-23), 3) := by decide +kernel
theorem dX0_greatestPore_40 : decode cX0_greatestPore 40 = .ok (.iload_n 3, 1) := by decide +kernel
theorem dX0_greatestPore_41 : decode cX0_greatestPore 41 = .ok (.ireturn, 1) := by decide +kernel
theorem dX0_leastBreak_0 : decode cX0_leastBreak 0 = .ok (.aload_n 0, 1) := by decide +kernel
theorem dX0_leastBreak_1 : decode cX0_leastBreak 1 = .ok (.getfield 15, 3) := by decide +kernel
theorem dX0_leastBreak_4 : decode cX0_leastBreak 4 = .ok (.iload_n 1, 1) := by decide +kernel
theorem dX0_leastBreak_5 : decode cX0_leastBreak 5 = .ok (.invokestatic 41, 3) := by decide +kernel
theorem dX0_leastBreak_8 : decode cX0_leastBreak 8 = .ok (.istore_n 3, 1) := by decide +kernel
theorem dX0_leastBreak_9 : decode cX0_leastBreak 9 = .ok (.iload_n 1, 1) := by decide +kernel
theorem dX0_leastBreak_10 : decode cX0_leastBreak 10 = .ok (.iconst 1, 1) := by decide +kernel
theorem dX0_leastBreak_11 : decode cX0_leastBreak 11 = .ok (.iadd, 1) := by decide +kernel
theorem dX0_leastBreak_12 : decode cX0_leastBreak 12 = .ok (.istore 4, 2) := by decide +kernel
theorem dX0_leastBreak_14 : decode cX0_leastBreak 14 = .ok (.iload 4, 2) := by decide +kernel
theorem dX0_leastBreak_16 : decode cX0_leastBreak 16 = .ok (.iload_n 2, 1) := by decide +kernel
theorem dX0_leastBreak_17 : decode cX0_leastBreak 17 = .ok (.if_icmp .gt 23, 3) := by decide +kernel
theorem dX0_leastBreak_20 : decode cX0_leastBreak 20 = .ok (.iload_n 3, 1) := by decide +kernel
theorem dX0_leastBreak_21 : decode cX0_leastBreak 21 = .ok (.aload_n 0, 1) := by decide +kernel
theorem dX0_leastBreak_22 : decode cX0_leastBreak 22 = .ok (.getfield 15, 3) := by decide +kernel
theorem dX0_leastBreak_25 : decode cX0_leastBreak 25 = .ok (.iload 4, 2) := by decide +kernel
theorem dX0_leastBreak_27 : decode cX0_leastBreak 27 = .ok (.invokestatic 41, 3) := by decide +kernel
theorem dX0_leastBreak_30 : decode cX0_leastBreak 30 = .ok (.invokestatic 51, 3) := by decide +kernel
theorem dX0_leastBreak_33 : decode cX0_leastBreak 33 = .ok (.istore_n 3, 1) := by decide +kernel
theorem dX0_leastBreak_34 : decode cX0_leastBreak 34 = .ok (.iinc 4 1, 3) := by decide +kernel
theorem dX0_leastBreak_37 : decode cX0_leastBreak 37 = .ok (.goto (-23), 3) := by decide +kernel
theorem dX0_leastBreak_40 : decode cX0_leastBreak 40 = .ok (.iload_n 3, 1) := by decide +kernel
theorem dX0_leastBreak_41 : decode cX0_leastBreak 41 = .ok (.ireturn, 1) := by decide +kernel
theorem dX0_piecesFromAbove_0 : decode cX0_piecesFromAbove 0 = .ok (.iconst 1, 1) := by decide +kernel
theorem dX0_piecesFromAbove_1 : decode cX0_piecesFromAbove 1 = .ok (.istore_n 2, 1) := by decide +kernel
theorem dX0_piecesFromAbove_2 : decode cX0_piecesFromAbove 2 = .ok (.iconst 0, 1) := by decide +kernel
theorem dX0_piecesFromAbove_3 : decode cX0_piecesFromAbove 3 = .ok (.istore_n 3, 1) := by decide +kernel
theorem dX0_piecesFromAbove_4 : decode cX0_piecesFromAbove 4 = .ok (.sipush 300, 3) := by decide +kernel
theorem dX0_piecesFromAbove_7 : decode cX0_piecesFromAbove 7 = .ok (.istore 4, 2) := by decide +kernel
theorem dX0_piecesFromAbove_9 : decode cX0_piecesFromAbove 9 = .ok (.iconst 0, 1) := by decide +kernel
theorem dX0_piecesFromAbove_10 : decode cX0_piecesFromAbove 10 = .ok (.istore 5, 2) := by decide +kernel
theorem dX0_piecesFromAbove_12 : decode cX0_piecesFromAbove 12 = .ok (.iload 5, 2) := by decide +kernel
theorem dX0_piecesFromAbove_14 : decode cX0_piecesFromAbove 14 = .ok (.iload_n 1, 1) := by decide +kernel
theorem dX0_piecesFromAbove_15 : decode cX0_piecesFromAbove 15 = .ok (.if_icmp .gt 72, 3) := by decide +kernel
theorem dX0_piecesFromAbove_18 : decode cX0_piecesFromAbove 18 = .ok (.aload_n 0, 1) := by decide +kernel
theorem dX0_piecesFromAbove_19 : decode cX0_piecesFromAbove 19 = .ok (.getfield 9, 3) := by decide +kernel
theorem dX0_piecesFromAbove_22 : decode cX0_piecesFromAbove 22 = .ok (.iload 5, 2) := by decide +kernel
theorem dX0_piecesFromAbove_24 : decode cX0_piecesFromAbove 24 = .ok (.invokestatic 41, 3) := by decide +kernel
theorem dX0_piecesFromAbove_27 : decode cX0_piecesFromAbove 27 = .ok (.istore 6, 2) := by decide +kernel
theorem dX0_piecesFromAbove_29 : decode cX0_piecesFromAbove 29 = .ok (.aload_n 0, 1) := by decide +kernel
theorem dX0_piecesFromAbove_30 : decode cX0_piecesFromAbove 30 = .ok (.getfield 15, 3) := by decide +kernel
theorem dX0_piecesFromAbove_33 : decode cX0_piecesFromAbove 33 = .ok (.iload 5, 2) := by decide +kernel
theorem dX0_piecesFromAbove_35 : decode cX0_piecesFromAbove 35 = .ok (.invokestatic 41, 3) := by decide +kernel
theorem dX0_piecesFromAbove_38 : decode cX0_piecesFromAbove 38 = .ok (.istore 7, 2) := by decide +kernel
theorem dX0_piecesFromAbove_40 : decode cX0_piecesFromAbove 40 = .ok (.iload 6, 2) := by decide +kernel
theorem dX0_piecesFromAbove_42 : decode cX0_piecesFromAbove 42 = .ok (.iload 7, 2) := by decide +kernel
theorem dX0_piecesFromAbove_44 : decode cX0_piecesFromAbove 44 = .ok (.if_icmp .le 5, 3) := by decide +kernel
theorem dX0_piecesFromAbove_47 : decode cX0_piecesFromAbove 47 = .ok (.iconst (-1), 1) := by decide +kernel
theorem dX0_piecesFromAbove_48 : decode cX0_piecesFromAbove 48 = .ok (.ireturn, 1) := by decide +kernel
theorem dX0_piecesFromAbove_49 : decode cX0_piecesFromAbove 49 = .ok (.iload_n 3, 1) := by decide +kernel
theorem dX0_piecesFromAbove_50 : decode cX0_piecesFromAbove 50 = .ok (.iload 6, 2) := by decide +kernel
theorem dX0_piecesFromAbove_52 : decode cX0_piecesFromAbove 52 = .ok (.invokestatic 45, 3) := by decide +kernel
theorem dX0_piecesFromAbove_55 : decode cX0_piecesFromAbove 55 = .ok (.istore_n 3, 1) := by decide +kernel
theorem dX0_piecesFromAbove_56 : decode cX0_piecesFromAbove 56 = .ok (.iload 4, 2) := by decide +kernel
theorem dX0_piecesFromAbove_58 : decode cX0_piecesFromAbove 58 = .ok (.iload 7, 2) := by decide +kernel
theorem dX0_piecesFromAbove_60 : decode cX0_piecesFromAbove 60 = .ok (.invokestatic 51, 3) := by decide +kernel
theorem dX0_piecesFromAbove_63 : decode cX0_piecesFromAbove 63 = .ok (.istore 4, 2) := by decide +kernel
theorem dX0_piecesFromAbove_65 : decode cX0_piecesFromAbove 65 = .ok (.iload_n 3, 1) := by decide +kernel
theorem dX0_piecesFromAbove_66 : decode cX0_piecesFromAbove 66 = .ok (.iload 4, 2) := by decide +kernel
theorem dX0_piecesFromAbove_68 : decode cX0_piecesFromAbove 68 = .ok (.if_icmp .le 13, 3) := by decide +kernel
theorem dX0_piecesFromAbove_71 : decode cX0_piecesFromAbove 71 = .ok (.iinc 2 1, 3) := by decide +kernel
theorem dX0_piecesFromAbove_74 : decode cX0_piecesFromAbove 74 = .ok (.iload 6, 2) := by decide +kernel
theorem dX0_piecesFromAbove_76 : decode cX0_piecesFromAbove 76 = .ok (.istore_n 3, 1) := by decide +kernel
theorem dX0_piecesFromAbove_77 : decode cX0_piecesFromAbove 77 = .ok (.iload 7, 2) := by decide +kernel
theorem dX0_piecesFromAbove_79 : decode cX0_piecesFromAbove 79 = .ok (.istore 4, 2) := by decide +kernel
theorem dX0_piecesFromAbove_81 : decode cX0_piecesFromAbove 81 = .ok (.iinc 5 1, 3) := by decide +kernel
theorem dX0_piecesFromAbove_84 : decode cX0_piecesFromAbove 84 = .ok (.goto (-72), 3) := by decide +kernel
theorem dX0_piecesFromAbove_87 : decode cX0_piecesFromAbove 87 = .ok (.iload_n 2, 1) := by decide +kernel
theorem dX0_piecesFromAbove_88 : decode cX0_piecesFromAbove 88 = .ok (.ireturn, 1) := by decide +kernel
theorem dX0_piecesFromAll_0 : decode cX0_piecesFromAll 0 = .ok (.iconst 0, 1) := by decide +kernel
theorem dX0_piecesFromAll_1 : decode cX0_piecesFromAll 1 = .ok (.istore_n 2, 1) := by decide +kernel
theorem dX0_piecesFromAll_2 : decode cX0_piecesFromAll 2 = .ok (.iload_n 2, 1) := by decide +kernel
theorem dX0_piecesFromAll_3 : decode cX0_piecesFromAll 3 = .ok (.iload_n 1, 1) := by decide +kernel
theorem dX0_piecesFromAll_4 : decode cX0_piecesFromAll 4 = .ok (.if_icmp .gt 22, 3) := by decide +kernel
theorem dX0_piecesFromAll_7 : decode cX0_piecesFromAll 7 = .ok (.aload_n 0, 1) := by decide +kernel
theorem dX0_piecesFromAll_8 : decode cX0_piecesFromAll 8 = .ok (.getfield 24, 3) := by decide +kernel
theorem dX0_piecesFromAll_11 : decode cX0_piecesFromAll 11 = .ok (.iload_n 2, 1) := by decide +kernel
theorem dX0_piecesFromAll_12 : decode cX0_piecesFromAll 12 = .ok (.aload_n 0, 1) := by decide +kernel
theorem dX0_piecesFromAll_13 : decode cX0_piecesFromAll 13 = .ok (.iload_n 2, 1) := by decide +kernel
theorem dX0_piecesFromAll_14 : decode cX0_piecesFromAll 14 = .ok (.invokevirtual 54, 3) := by decide +kernel
theorem dX0_piecesFromAll_17 : decode cX0_piecesFromAll 17 = .ok (.invokestatic 33, 3) := by decide +kernel
theorem dX0_piecesFromAll_20 : decode cX0_piecesFromAll 20 = .ok (.iinc 2 1, 3) := by decide +kernel
theorem dX0_piecesFromAll_23 : decode cX0_piecesFromAll 23 = .ok (.goto (-21), 3) := by decide +kernel
theorem dX0_piecesFromAll_26 : decode cX0_piecesFromAll 26 = .ok (.aload_n 0, 1) := by decide +kernel
theorem dX0_piecesFromAll_27 : decode cX0_piecesFromAll 27 = .ok (.getfield 24, 3) := by decide +kernel
theorem dX0_piecesFromAll_30 : decode cX0_piecesFromAll 30 = .ok (.iload_n 1, 1) := by decide +kernel
theorem dX0_piecesFromAll_31 : decode cX0_piecesFromAll 31 = .ok (.invokestatic 41, 3) := by decide +kernel
theorem dX0_piecesFromAll_34 : decode cX0_piecesFromAll 34 = .ok (.ireturn, 1) := by decide +kernel
theorem dX0_leastPiecesTo_0 : decode cX0_leastPiecesTo 0 = .ok (.iconst (-1), 1) := by decide +kernel
theorem dX0_leastPiecesTo_1 : decode cX0_leastPiecesTo 1 = .ok (.istore_n 2, 1) := by decide +kernel
theorem dX0_leastPiecesTo_2 : decode cX0_leastPiecesTo 2 = .ok (.iconst 0, 1) := by decide +kernel
theorem dX0_leastPiecesTo_3 : decode cX0_leastPiecesTo 3 = .ok (.istore_n 3, 1) := by decide +kernel
theorem dX0_leastPiecesTo_4 : decode cX0_leastPiecesTo 4 = .ok (.sipush 300, 3) := by decide +kernel
theorem dX0_leastPiecesTo_7 : decode cX0_leastPiecesTo 7 = .ok (.istore 4, 2) := by decide +kernel
theorem dX0_leastPiecesTo_9 : decode cX0_leastPiecesTo 9 = .ok (.iload_n 1, 1) := by decide +kernel
theorem dX0_leastPiecesTo_10 : decode cX0_leastPiecesTo 10 = .ok (.istore 5, 2) := by decide +kernel
theorem dX0_leastPiecesTo_12 : decode cX0_leastPiecesTo 12 = .ok (.iload 5, 2) := by decide +kernel
theorem dX0_leastPiecesTo_14 : decode cX0_leastPiecesTo 14 = .ok (.ifCond .lt 103, 3) := by decide +kernel
theorem dX0_leastPiecesTo_17 : decode cX0_leastPiecesTo 17 = .ok (.iload_n 3, 1) := by decide +kernel
theorem dX0_leastPiecesTo_18 : decode cX0_leastPiecesTo 18 = .ok (.aload_n 0, 1) := by decide +kernel
theorem dX0_leastPiecesTo_19 : decode cX0_leastPiecesTo 19 = .ok (.getfield 9, 3) := by decide +kernel
theorem dX0_leastPiecesTo_22 : decode cX0_leastPiecesTo 22 = .ok (.iload 5, 2) := by decide +kernel
theorem dX0_leastPiecesTo_24 : decode cX0_leastPiecesTo 24 = .ok (.invokestatic 41, 3) := by decide +kernel
theorem dX0_leastPiecesTo_27 : decode cX0_leastPiecesTo 27 = .ok (.invokestatic 45, 3) := by decide +kernel
theorem dX0_leastPiecesTo_30 : decode cX0_leastPiecesTo 30 = .ok (.istore_n 3, 1) := by decide +kernel
theorem dX0_leastPiecesTo_31 : decode cX0_leastPiecesTo 31 = .ok (.iload 4, 2) := by decide +kernel
theorem dX0_leastPiecesTo_33 : decode cX0_leastPiecesTo 33 = .ok (.aload_n 0, 1) := by decide +kernel
theorem dX0_leastPiecesTo_34 : decode cX0_leastPiecesTo 34 = .ok (.getfield 15, 3) := by decide +kernel
theorem dX0_leastPiecesTo_37 : decode cX0_leastPiecesTo 37 = .ok (.iload 5, 2) := by decide +kernel
theorem dX0_leastPiecesTo_39 : decode cX0_leastPiecesTo 39 = .ok (.invokestatic 41, 3) := by decide +kernel
theorem dX0_leastPiecesTo_42 : decode cX0_leastPiecesTo 42 = .ok (.invokestatic 51, 3) := by decide +kernel
theorem dX0_leastPiecesTo_45 : decode cX0_leastPiecesTo 45 = .ok (.istore 4, 2) := by decide +kernel
theorem dX0_leastPiecesTo_47 : decode cX0_leastPiecesTo 47 = .ok (.iload 5, 2) := by decide +kernel
theorem dX0_leastPiecesTo_49 : decode cX0_leastPiecesTo 49 = .ok (.ifCond .ne 7, 3) := by decide +kernel
theorem dX0_leastPiecesTo_52 : decode cX0_leastPiecesTo 52 = .ok (.iconst 0, 1) := by decide +kernel
theorem dX0_leastPiecesTo_53 : decode cX0_leastPiecesTo 53 = .ok (.goto 14, 3) := by decide +kernel
theorem dX0_leastPiecesTo_56 : decode cX0_leastPiecesTo 56 = .ok (.aload_n 0, 1) := by decide +kernel
theorem dX0_leastPiecesTo_57 : decode cX0_leastPiecesTo 57 = .ok (.getfield 24, 3) := by decide +kernel
theorem dX0_leastPiecesTo_60 : decode cX0_leastPiecesTo 60 = .ok (.iload 5, 2) := by decide +kernel
theorem dX0_leastPiecesTo_62 : decode cX0_leastPiecesTo 62 = .ok (.iconst 1, 1) := by decide +kernel
theorem dX0_leastPiecesTo_63 : decode cX0_leastPiecesTo 63 = .ok (.isub, 1) := by decide +kernel
theorem dX0_leastPiecesTo_64 : decode cX0_leastPiecesTo 64 = .ok (.invokestatic 41, 3) := by decide +kernel
theorem dX0_leastPiecesTo_67 : decode cX0_leastPiecesTo 67 = .ok (.istore 6, 2) := by decide +kernel
theorem dX0_leastPiecesTo_69 : decode cX0_leastPiecesTo 69 = .ok (.iload_n 3, 1) := by decide +kernel
theorem dX0_leastPiecesTo_70 : decode cX0_leastPiecesTo 70 = .ok (.iload 4, 2) := by decide +kernel
theorem dX0_leastPiecesTo_72 : decode cX0_leastPiecesTo 72 = .ok (.if_icmp .gt 13, 3) := by decide +kernel
theorem dX0_leastPiecesTo_75 : decode cX0_leastPiecesTo 75 = .ok (.iload 6, 2) := by decide +kernel
theorem dX0_leastPiecesTo_77 : decode cX0_leastPiecesTo 77 = .ok (.iconst (-1), 1) := by decide +kernel
theorem dX0_leastPiecesTo_78 : decode cX0_leastPiecesTo 78 = .ok (.if_icmp .eq 7, 3) := by decide +kernel
theorem dX0_leastPiecesTo_81 : decode cX0_leastPiecesTo 81 = .ok (.iconst 1, 1) := by decide +kernel
theorem dX0_leastPiecesTo_82 : decode cX0_leastPiecesTo 82 = .ok (.goto 4, 3) := by decide +kernel
theorem dX0_leastPiecesTo_85 : decode cX0_leastPiecesTo 85 = .ok (.iconst 0, 1) := by decide +kernel
theorem dX0_leastPiecesTo_86 : decode cX0_leastPiecesTo 86 = .ok (.istore 7, 2) := by decide +kernel
theorem dX0_leastPiecesTo_88 : decode cX0_leastPiecesTo 88 = .ok (.iload 7, 2) := by decide +kernel
theorem dX0_leastPiecesTo_90 : decode cX0_leastPiecesTo 90 = .ok (.ifCond .eq 21, 3) := by decide +kernel
theorem dX0_leastPiecesTo_93 : decode cX0_leastPiecesTo 93 = .ok (.iload_n 2, 1) := by decide +kernel
theorem dX0_leastPiecesTo_94 : decode cX0_leastPiecesTo 94 = .ok (.iconst (-1), 1) := by decide +kernel
theorem dX0_leastPiecesTo_95 : decode cX0_leastPiecesTo 95 = .ok (.if_icmp .eq 11, 3) := by decide +kernel
theorem dX0_leastPiecesTo_98 : decode cX0_leastPiecesTo 98 = .ok (.iload 6, 2) := by decide +kernel
theorem dX0_leastPiecesTo_100 : decode cX0_leastPiecesTo 100 = .ok (.iconst 1, 1) := by decide +kernel
theorem dX0_leastPiecesTo_101 : decode cX0_leastPiecesTo 101 = .ok (.iadd, 1) := by decide +kernel
theorem dX0_leastPiecesTo_102 : decode cX0_leastPiecesTo 102 = .ok (.iload_n 2, 1) := by decide +kernel
theorem dX0_leastPiecesTo_103 : decode cX0_leastPiecesTo 103 = .ok (.if_icmp .ge 8, 3) := by decide +kernel
theorem dX0_leastPiecesTo_106 : decode cX0_leastPiecesTo 106 = .ok (.iload 6, 2) := by decide +kernel
theorem dX0_leastPiecesTo_108 : decode cX0_leastPiecesTo 108 = .ok (.iconst 1, 1) := by decide +kernel
theorem dX0_leastPiecesTo_109 : decode cX0_leastPiecesTo 109 = .ok (.iadd, 1) := by decide +kernel
theorem dX0_leastPiecesTo_110 : decode cX0_leastPiecesTo 110 = .ok (.istore_n 2, 1) := by decide +kernel
theorem dX0_leastPiecesTo_111 : decode cX0_leastPiecesTo 111 = .ok (.iinc 5 (-1), 3) := by decide +kernel
theorem dX0_leastPiecesTo_114 : decode cX0_leastPiecesTo 114 = .ok (.goto (-102), 3) := by decide +kernel
theorem dX0_leastPiecesTo_117 : decode cX0_leastPiecesTo 117 = .ok (.iload_n 2, 1) := by decide +kernel
theorem dX0_leastPiecesTo_118 : decode cX0_leastPiecesTo 118 = .ok (.ireturn, 1) := by decide +kernel
theorem dX1_init_0 : decode cX1_init 0 = .ok (.aload_n 0, 1) := by decide +kernel
theorem dX1_init_1 : decode cX1_init 1 = .ok (.invokespecial 3, 3) := by decide +kernel
theorem dX1_init_4 : decode cX1_init 4 = .ok (.aload_n 0, 1) := by decide +kernel
theorem dX1_init_5 : decode cX1_init 5 = .ok (.bipush 60, 2) := by decide +kernel
theorem dX1_init_7 : decode cX1_init 7 = .ok (.newarray .int, 2) := by decide +kernel
theorem dX1_init_9 : decode cX1_init 9 = .ok (.putfield 9, 3) := by decide +kernel
theorem dX1_init_12 : decode cX1_init 12 = .ok (.aload_n 0, 1) := by decide +kernel
theorem dX1_init_13 : decode cX1_init 13 = .ok (.bipush 60, 2) := by decide +kernel
theorem dX1_init_15 : decode cX1_init 15 = .ok (.newarray .int, 2) := by decide +kernel
theorem dX1_init_17 : decode cX1_init 17 = .ok (.putfield 15, 3) := by decide +kernel
theorem dX1_init_20 : decode cX1_init 20 = .ok (.aload_n 0, 1) := by decide +kernel
theorem dX1_init_21 : decode cX1_init 21 = .ok (.bipush 60, 2) := by decide +kernel
theorem dX1_init_23 : decode cX1_init 23 = .ok (.newarray .int, 2) := by decide +kernel
theorem dX1_init_25 : decode cX1_init 25 = .ok (.putfield 18, 3) := by decide +kernel
theorem dX1_init_28 : decode cX1_init 28 = .ok (.aload_n 0, 1) := by decide +kernel
theorem dX1_init_29 : decode cX1_init 29 = .ok (.bipush 60, 2) := by decide +kernel
theorem dX1_init_31 : decode cX1_init 31 = .ok (.newarray .int, 2) := by decide +kernel
theorem dX1_init_33 : decode cX1_init 33 = .ok (.putfield 21, 3) := by decide +kernel
theorem dX1_init_36 : decode cX1_init 36 = .ok (.aload_n 0, 1) := by decide +kernel
theorem dX1_init_37 : decode cX1_init 37 = .ok (.iconst (-1), 1) := by decide +kernel
theorem dX1_init_38 : decode cX1_init 38 = .ok (.putfield 24, 3) := by decide +kernel
theorem dX1_init_41 : decode cX1_init 41 = .ok (.aload_n 0, 1) := by decide +kernel
theorem dX1_init_42 : decode cX1_init 42 = .ok (.iconst (-1), 1) := by decide +kernel
theorem dX1_init_43 : decode cX1_init 43 = .ok (.putfield 28, 3) := by decide +kernel
theorem dX1_init_46 : decode cX1_init 46 = .ok (.return_, 1) := by decide +kernel
theorem dX1_keep_0 : decode cX1_keep 0 = .ok (.aload_n 0, 1) := by decide +kernel
theorem dX1_keep_1 : decode cX1_keep 1 = .ok (.getfield 9, 3) := by decide +kernel
theorem dX1_keep_4 : decode cX1_keep 4 = .ok (.aload_n 0, 1) := by decide +kernel
theorem dX1_keep_5 : decode cX1_keep 5 = .ok (.getfield 31, 3) := by decide +kernel
theorem dX1_keep_8 : decode cX1_keep 8 = .ok (.iload_n 1, 1) := by decide +kernel
theorem dX1_keep_9 : decode cX1_keep 9 = .ok (.invokestatic 34, 3) := by decide +kernel
theorem dX1_keep_12 : decode cX1_keep 12 = .ok (.aload_n 0, 1) := by decide +kernel
theorem dX1_keep_13 : decode cX1_keep 13 = .ok (.getfield 15, 3) := by decide +kernel
theorem dX1_keep_16 : decode cX1_keep 16 = .ok (.aload_n 0, 1) := by decide +kernel
theorem dX1_keep_17 : decode cX1_keep 17 = .ok (.getfield 31, 3) := by decide +kernel
theorem dX1_keep_20 : decode cX1_keep 20 = .ok (.iload_n 2, 1) := by decide +kernel
theorem dX1_keep_21 : decode cX1_keep 21 = .ok (.invokestatic 34, 3) := by decide +kernel
theorem dX1_keep_24 : decode cX1_keep 24 = .ok (.aload_n 0, 1) := by decide +kernel
theorem dX1_keep_25 : decode cX1_keep 25 = .ok (.getfield 18, 3) := by decide +kernel
theorem dX1_keep_28 : decode cX1_keep 28 = .ok (.aload_n 0, 1) := by decide +kernel
theorem dX1_keep_29 : decode cX1_keep 29 = .ok (.getfield 31, 3) := by decide +kernel
theorem dX1_keep_32 : decode cX1_keep 32 = .ok (.iload_n 3, 1) := by decide +kernel
theorem dX1_keep_33 : decode cX1_keep 33 = .ok (.ifCond .eq 7, 3) := by decide +kernel
theorem dX1_keep_36 : decode cX1_keep 36 = .ok (.iconst 1, 1) := by decide +kernel
theorem dX1_keep_37 : decode cX1_keep 37 = .ok (.goto 4, 3) := by decide +kernel
theorem dX1_keep_40 : decode cX1_keep 40 = .ok (.iconst 0, 1) := by decide +kernel
theorem dX1_keep_41 : decode cX1_keep 41 = .ok (.invokestatic 34, 3) := by decide +kernel
theorem dX1_keep_44 : decode cX1_keep 44 = .ok (.aload_n 0, 1) := by decide +kernel
theorem dX1_keep_45 : decode cX1_keep 45 = .ok (.getfield 21, 3) := by decide +kernel
theorem dX1_keep_48 : decode cX1_keep 48 = .ok (.aload_n 0, 1) := by decide +kernel
theorem dX1_keep_49 : decode cX1_keep 49 = .ok (.getfield 31, 3) := by decide +kernel
theorem dX1_keep_52 : decode cX1_keep 52 = .ok (.iload 4, 2) := by decide +kernel
theorem dX1_keep_54 : decode cX1_keep 54 = .ok (.invokestatic 34, 3) := by decide +kernel
theorem dX1_keep_57 : decode cX1_keep 57 = .ok (.iload_n 1, 1) := by decide +kernel
theorem dX1_keep_58 : decode cX1_keep 58 = .ok (.ifCond .ne 14, 3) := by decide +kernel
theorem dX1_keep_61 : decode cX1_keep 61 = .ok (.aload_n 0, 1) := by decide +kernel
theorem dX1_keep_62 : decode cX1_keep 62 = .ok (.aload_n 0, 1) := by decide +kernel
theorem dX1_keep_63 : decode cX1_keep 63 = .ok (.getfield 31, 3) := by decide +kernel
theorem dX1_keep_66 : decode cX1_keep 66 = .ok (.putfield 24, 3) := by decide +kernel
theorem dX1_keep_69 : decode cX1_keep 69 = .ok (.goto 11, 3) := by decide +kernel
theorem dX1_keep_72 : decode cX1_keep 72 = .ok (.aload_n 0, 1) := by decide +kernel
theorem dX1_keep_73 : decode cX1_keep 73 = .ok (.aload_n 0, 1) := by decide +kernel
theorem dX1_keep_74 : decode cX1_keep 74 = .ok (.getfield 31, 3) := by decide +kernel
theorem dX1_keep_77 : decode cX1_keep 77 = .ok (.putfield 28, 3) := by decide +kernel
theorem dX1_keep_80 : decode cX1_keep 80 = .ok (.aload_n 0, 1) := by decide +kernel
theorem dX1_keep_81 : decode cX1_keep 81 = .ok (.dup, 1) := by decide +kernel
theorem dX1_keep_82 : decode cX1_keep 82 = .ok (.getfield 31, 3) := by decide +kernel
theorem dX1_keep_85 : decode cX1_keep 85 = .ok (.iconst 1, 1) := by decide +kernel
theorem dX1_keep_86 : decode cX1_keep 86 = .ok (.iadd, 1) := by decide +kernel
theorem dX1_keep_87 : decode cX1_keep 87 = .ok (.putfield 31, 3) := by decide +kernel
theorem dX1_keep_90 : decode cX1_keep 90 = .ok (.return_, 1) := by decide +kernel
theorem dX1_isPassed_0 : decode cX1_isPassed 0 = .ok (.iload_n 1, 1) := by decide +kernel
theorem dX1_isPassed_1 : decode cX1_isPassed 1 = .ok (.iconst (-1), 1) := by decide +kernel
theorem dX1_isPassed_2 : decode cX1_isPassed 2 = .ok (.if_icmp .eq 19, 3) := by decide +kernel
theorem dX1_isPassed_5 : decode cX1_isPassed 5 = .ok (.aload_n 0, 1) := by decide +kernel
theorem dX1_isPassed_6 : decode cX1_isPassed 6 = .ok (.getfield 18, 3) := by decide +kernel
theorem dX1_isPassed_9 : decode cX1_isPassed 9 = .ok (.iload_n 1, 1) := by decide +kernel
theorem dX1_isPassed_10 : decode cX1_isPassed 10 = .ok (.invokestatic 38, 3) := by decide +kernel
theorem dX1_isPassed_13 : decode cX1_isPassed 13 = .ok (.iconst 1, 1) := by decide +kernel
theorem dX1_isPassed_14 : decode cX1_isPassed 14 = .ok (.if_icmp .ne 7, 3) := by decide +kernel
theorem dX1_isPassed_17 : decode cX1_isPassed 17 = .ok (.iconst 1, 1) := by decide +kernel
theorem dX1_isPassed_18 : decode cX1_isPassed 18 = .ok (.goto 4, 3) := by decide +kernel
theorem dX1_isPassed_21 : decode cX1_isPassed 21 = .ok (.iconst 0, 1) := by decide +kernel
theorem dX1_isPassed_22 : decode cX1_isPassed 22 = .ok (.ireturn, 1) := by decide +kernel
theorem dX2_init_0 : decode cX2_init 0 = .ok (.aload_n 0, 1) := by decide +kernel
theorem dX2_init_1 : decode cX2_init 1 = .ok (.invokespecial 1, 3) := by decide +kernel
theorem dX2_init_4 : decode cX2_init 4 = .ok (.aload_n 0, 1) := by decide +kernel
theorem dX2_init_5 : decode cX2_init 5 = .ok (.aload_n 1, 1) := by decide +kernel
theorem dX2_init_6 : decode cX2_init 6 = .ok (.putfield 7, 3) := by decide +kernel
theorem dX2_init_9 : decode cX2_init 9 = .ok (.aload_n 0, 1) := by decide +kernel
theorem dX2_init_10 : decode cX2_init 10 = .ok (.bipush 110, 2) := by decide +kernel
theorem dX2_init_12 : decode cX2_init 12 = .ok (.putfield 13, 3) := by decide +kernel
theorem dX2_init_15 : decode cX2_init 15 = .ok (.aload_n 0, 1) := by decide +kernel
theorem dX2_init_16 : decode cX2_init 16 = .ok (.sipush 10000, 3) := by decide +kernel
theorem dX2_init_19 : decode cX2_init 19 = .ok (.putfield 17, 3) := by decide +kernel
theorem dX2_init_22 : decode cX2_init 22 = .ok (.return_, 1) := by decide +kernel
theorem dX2_become_0 : decode cX2_become 0 = .ok (.aload_n 0, 1) := by decide +kernel
theorem dX2_become_1 : decode cX2_become 1 = .ok (.aload_n 1, 1) := by decide +kernel
theorem dX2_become_2 : decode cX2_become 2 = .ok (.getfield 20, 3) := by decide +kernel
theorem dX2_become_5 : decode cX2_become 5 = .ok (.putfield 20, 3) := by decide +kernel
theorem dX2_become_8 : decode cX2_become 8 = .ok (.aload_n 0, 1) := by decide +kernel
theorem dX2_become_9 : decode cX2_become 9 = .ok (.aload_n 1, 1) := by decide +kernel
theorem dX2_become_10 : decode cX2_become 10 = .ok (.getfield 23, 3) := by decide +kernel
theorem dX2_become_13 : decode cX2_become 13 = .ok (.putfield 23, 3) := by decide +kernel
theorem dX2_become_16 : decode cX2_become 16 = .ok (.aload_n 0, 1) := by decide +kernel
theorem dX2_become_17 : decode cX2_become 17 = .ok (.aload_n 1, 1) := by decide +kernel
theorem dX2_become_18 : decode cX2_become 18 = .ok (.getfield 13, 3) := by decide +kernel
theorem dX2_become_21 : decode cX2_become 21 = .ok (.putfield 13, 3) := by decide +kernel
theorem dX2_become_24 : decode cX2_become 24 = .ok (.aload_n 0, 1) := by decide +kernel
theorem dX2_become_25 : decode cX2_become 25 = .ok (.aload_n 1, 1) := by decide +kernel
theorem dX2_become_26 : decode cX2_become 26 = .ok (.getfield 26, 3) := by decide +kernel
theorem dX2_become_29 : decode cX2_become 29 = .ok (.putfield 26, 3) := by decide +kernel
theorem dX2_become_32 : decode cX2_become 32 = .ok (.aload_n 0, 1) := by decide +kernel
theorem dX2_become_33 : decode cX2_become 33 = .ok (.aload_n 1, 1) := by decide +kernel
theorem dX2_become_34 : decode cX2_become 34 = .ok (.getfield 30, 3) := by decide +kernel
theorem dX2_become_37 : decode cX2_become 37 = .ok (.putfield 30, 3) := by decide +kernel
theorem dX2_become_40 : decode cX2_become 40 = .ok (.aload_n 0, 1) := by decide +kernel
theorem dX2_become_41 : decode cX2_become 41 = .ok (.aload_n 1, 1) := by decide +kernel
theorem dX2_become_42 : decode cX2_become 42 = .ok (.getfield 17, 3) := by decide +kernel
theorem dX2_become_45 : decode cX2_become 45 = .ok (.putfield 17, 3) := by decide +kernel
theorem dX2_become_48 : decode cX2_become 48 = .ok (.aload_n 0, 1) := by decide +kernel
theorem dX2_become_49 : decode cX2_become 49 = .ok (.aload_n 1, 1) := by decide +kernel
theorem dX2_become_50 : decode cX2_become 50 = .ok (.getfield 33, 3) := by decide +kernel
theorem dX2_become_53 : decode cX2_become 53 = .ok (.putfield 33, 3) := by decide +kernel
theorem dX2_become_56 : decode cX2_become 56 = .ok (.aload_n 0, 1) := by decide +kernel
theorem dX2_become_57 : decode cX2_become 57 = .ok (.aload_n 1, 1) := by decide +kernel
theorem dX2_become_58 : decode cX2_become 58 = .ok (.getfield 36, 3) := by decide +kernel
theorem dX2_become_61 : decode cX2_become 61 = .ok (.putfield 36, 3) := by decide +kernel
theorem dX2_become_64 : decode cX2_become 64 = .ok (.aload_n 0, 1) := by decide +kernel
theorem dX2_become_65 : decode cX2_become 65 = .ok (.aload_n 1, 1) := by decide +kernel
theorem dX2_become_66 : decode cX2_become 66 = .ok (.getfield 40, 3) := by decide +kernel
theorem dX2_become_69 : decode cX2_become 69 = .ok (.putfield 40, 3) := by decide +kernel
theorem dX2_become_72 : decode cX2_become 72 = .ok (.aload_n 0, 1) := by decide +kernel
theorem dX2_become_73 : decode cX2_become 73 = .ok (.aload_n 1, 1) := by decide +kernel
theorem dX2_become_74 : decode cX2_become 74 = .ok (.getfield 43, 3) := by decide +kernel
theorem dX2_become_77 : decode cX2_become 77 = .ok (.putfield 43, 3) := by decide +kernel
theorem dX2_become_80 : decode cX2_become 80 = .ok (.aload_n 0, 1) := by decide +kernel
theorem dX2_become_81 : decode cX2_become 81 = .ok (.aload_n 1, 1) := by decide +kernel
theorem dX2_become_82 : decode cX2_become 82 = .ok (.getfield 46, 3) := by decide +kernel
theorem dX2_become_85 : decode cX2_become 85 = .ok (.putfield 46, 3) := by decide +kernel
theorem dX2_become_88 : decode cX2_become 88 = .ok (.aload_n 0, 1) := by decide +kernel
theorem dX2_become_89 : decode cX2_become 89 = .ok (.aload_n 1, 1) := by decide +kernel
theorem dX2_become_90 : decode cX2_become 90 = .ok (.getfield 49, 3) := by decide +kernel
theorem dX2_become_93 : decode cX2_become 93 = .ok (.putfield 49, 3) := by decide +kernel
theorem dX2_become_96 : decode cX2_become 96 = .ok (.aload_n 0, 1) := by decide +kernel
theorem dX2_become_97 : decode cX2_become 97 = .ok (.aload_n 1, 1) := by decide +kernel
theorem dX2_become_98 : decode cX2_become 98 = .ok (.getfield 52, 3) := by decide +kernel
theorem dX2_become_101 : decode cX2_become 101 = .ok (.putfield 52, 3) := by decide +kernel
theorem dX2_become_104 : decode cX2_become 104 = .ok (.aload_n 0, 1) := by decide +kernel
theorem dX2_become_105 : decode cX2_become 105 = .ok (.aload_n 1, 1) := by decide +kernel
theorem dX2_become_106 : decode cX2_become 106 = .ok (.getfield 55, 3) := by decide +kernel
theorem dX2_become_109 : decode cX2_become 109 = .ok (.putfield 55, 3) := by decide +kernel
theorem dX2_become_112 : decode cX2_become 112 = .ok (.return_, 1) := by decide +kernel
theorem dX2_hasGas_0 : decode cX2_hasGas 0 = .ok (.aload_n 0, 1) := by decide +kernel
theorem dX2_hasGas_1 : decode cX2_hasGas 1 = .ok (.getfield 36, 3) := by decide +kernel
theorem dX2_hasGas_4 : decode cX2_hasGas 4 = .ok (.lconst 0, 1) := by decide +kernel
theorem dX2_hasGas_5 : decode cX2_hasGas 5 = .ok (.lcmp, 1) := by decide +kernel
theorem dX2_hasGas_6 : decode cX2_hasGas 6 = .ok (.ifCond .le 7, 3) := by decide +kernel
theorem dX2_hasGas_9 : decode cX2_hasGas 9 = .ok (.iconst 1, 1) := by decide +kernel
theorem dX2_hasGas_10 : decode cX2_hasGas 10 = .ok (.goto 4, 3) := by decide +kernel
theorem dX2_hasGas_13 : decode cX2_hasGas 13 = .ok (.iconst 0, 1) := by decide +kernel
theorem dX2_hasGas_14 : decode cX2_hasGas 14 = .ok (.ireturn, 1) := by decide +kernel
theorem dX2_hasInflow_0 : decode cX2_hasInflow 0 = .ok (.aload_n 0, 1) := by decide +kernel
theorem dX2_hasInflow_1 : decode cX2_hasInflow 1 = .ok (.invokevirtual 58, 3) := by decide +kernel
theorem dX2_hasInflow_4 : decode cX2_hasInflow 4 = .ok (.ifCond .ne 10, 3) := by decide +kernel
theorem dX2_hasInflow_7 : decode cX2_hasInflow 7 = .ok (.aload_n 0, 1) := by decide +kernel
theorem dX2_hasInflow_8 : decode cX2_hasInflow 8 = .ok (.getfield 46, 3) := by decide +kernel
theorem dX2_hasInflow_11 : decode cX2_hasInflow 11 = .ok (.ifCond .le 7, 3) := by decide +kernel
theorem dX2_hasInflow_14 : decode cX2_hasInflow 14 = .ok (.iconst 1, 1) := by decide +kernel
theorem dX2_hasInflow_15 : decode cX2_hasInflow 15 = .ok (.goto 4, 3) := by decide +kernel
theorem dX2_hasInflow_18 : decode cX2_hasInflow 18 = .ok (.iconst 0, 1) := by decide +kernel
theorem dX2_hasInflow_19 : decode cX2_hasInflow 19 = .ok (.ireturn, 1) := by decide +kernel
theorem dX2_column_0 : decode cX2_column 0 = .ok (.aload_n 0, 1) := by decide +kernel
theorem dX2_column_1 : decode cX2_column 1 = .ok (.getfield 13, 3) := by decide +kernel
theorem dX2_column_4 : decode cX2_column 4 = .ok (.iconst 0, 1) := by decide +kernel
theorem dX2_column_5 : decode cX2_column 5 = .ok (.aload_n 0, 1) := by decide +kernel
theorem dX2_column_6 : decode cX2_column 6 = .ok (.getfield 20, 3) := by decide +kernel
theorem dX2_column_9 : decode cX2_column 9 = .ok (.aload_n 0, 1) := by decide +kernel
theorem dX2_column_10 : decode cX2_column 10 = .ok (.getfield 43, 3) := by decide +kernel
theorem dX2_column_13 : decode cX2_column 13 = .ok (.isub, 1) := by decide +kernel
theorem dX2_column_14 : decode cX2_column 14 = .ok (.aload_n 0, 1) := by decide +kernel
theorem dX2_column_15 : decode cX2_column 15 = .ok (.getfield 46, 3) := by decide +kernel
theorem dX2_column_18 : decode cX2_column 18 = .ok (.isub, 1) := by decide +kernel
theorem dX2_column_19 : decode cX2_column 19 = .ok (.invokestatic 62, 3) := by decide +kernel
theorem dX2_column_22 : decode cX2_column 22 = .ok (.imul, 1) := by decide +kernel
theorem dX2_column_23 : decode cX2_column 23 = .ok (.bipush 100, 2) := by decide +kernel
theorem dX2_column_25 : decode cX2_column 25 = .ok (.aload_n 0, 1) := by decide +kernel
theorem dX2_column_26 : decode cX2_column 26 = .ok (.getfield 46, 3) := by decide +kernel
theorem dX2_column_29 : decode cX2_column 29 = .ok (.imul, 1) := by decide +kernel
theorem dX2_column_30 : decode cX2_column 30 = .ok (.iadd, 1) := by decide +kernel
theorem dX2_column_31 : decode cX2_column 31 = .ok (.bipush 10, 2) := by decide +kernel
theorem dX2_column_33 : decode cX2_column 33 = .ok (.idiv, 1) := by decide +kernel
theorem dX2_column_34 : decode cX2_column 34 = .ok (.ireturn, 1) := by decide +kernel
theorem dX2_bottom_0 : decode cX2_bottom 0 = .ok (.aload_n 0, 1) := by decide +kernel
theorem dX2_bottom_1 : decode cX2_bottom 1 = .ok (.invokevirtual 68, 3) := by decide +kernel
theorem dX2_bottom_4 : decode cX2_bottom 4 = .ok (.aload_n 0, 1) := by decide +kernel
theorem dX2_bottom_5 : decode cX2_bottom 5 = .ok (.getfield 30, 3) := by decide +kernel
theorem dX2_bottom_8 : decode cX2_bottom 8 = .ok (.iadd, 1) := by decide +kernel
theorem dX2_bottom_9 : decode cX2_bottom 9 = .ok (.ireturn, 1) := by decide +kernel
theorem dX2_gasPressure_0 : decode cX2_gasPressure 0 = .ok (.iconst 1, 1) := by decide +kernel
theorem dX2_gasPressure_1 : decode cX2_gasPressure 1 = .ok (.aload_n 0, 1) := by decide +kernel
theorem dX2_gasPressure_2 : decode cX2_gasPressure 2 = .ok (.getfield 13, 3) := by decide +kernel
theorem dX2_gasPressure_5 : decode cX2_gasPressure 5 = .ok (.aload_n 0, 1) := by decide +kernel
theorem dX2_gasPressure_6 : decode cX2_gasPressure 6 = .ok (.getfield 40, 3) := by decide +kernel
theorem dX2_gasPressure_9 : decode cX2_gasPressure 9 = .ok (.imul, 1) := by decide +kernel
theorem dX2_gasPressure_10 : decode cX2_gasPressure 10 = .ok (.bipush 10, 2) := by decide +kernel
theorem dX2_gasPressure_12 : decode cX2_gasPressure 12 = .ok (.idiv, 1) := by decide +kernel
theorem dX2_gasPressure_13 : decode cX2_gasPressure 13 = .ok (.aload_n 0, 1) := by decide +kernel
theorem dX2_gasPressure_14 : decode cX2_gasPressure 14 = .ok (.getfield 30, 3) := by decide +kernel
theorem dX2_gasPressure_17 : decode cX2_gasPressure 17 = .ok (.iadd, 1) := by decide +kernel
theorem dX2_gasPressure_18 : decode cX2_gasPressure 18 = .ok (.invokestatic 62, 3) := by decide +kernel
theorem dX2_gasPressure_21 : decode cX2_gasPressure 21 = .ok (.ireturn, 1) := by decide +kernel
theorem dX2_foot_0 : decode cX2_foot 0 = .ok (.aload_n 0, 1) := by decide +kernel
theorem dX2_foot_1 : decode cX2_foot 1 = .ok (.invokevirtual 58, 3) := by decide +kernel
theorem dX2_foot_4 : decode cX2_foot 4 = .ok (.ifCond .eq 18, 3) := by decide +kernel
theorem dX2_foot_7 : decode cX2_foot 7 = .ok (.aload_n 0, 1) := by decide +kernel
theorem dX2_foot_8 : decode cX2_foot 8 = .ok (.getfield 40, 3) := by decide +kernel
theorem dX2_foot_11 : decode cX2_foot 11 = .ok (.aload_n 0, 1) := by decide +kernel
theorem dX2_foot_12 : decode cX2_foot 12 = .ok (.getfield 23, 3) := by decide +kernel
theorem dX2_foot_15 : decode cX2_foot 15 = .ok (.if_icmp .ge 7, 3) := by decide +kernel
theorem dX2_foot_18 : decode cX2_foot 18 = .ok (.iconst 1, 1) := by decide +kernel
theorem dX2_foot_19 : decode cX2_foot 19 = .ok (.goto 4, 3) := by decide +kernel
theorem dX2_foot_22 : decode cX2_foot 22 = .ok (.iconst 0, 1) := by decide +kernel
theorem dX2_foot_23 : decode cX2_foot 23 = .ok (.istore_n 1, 1) := by decide +kernel
theorem dX2_foot_24 : decode cX2_foot 24 = .ok (.iload_n 1, 1) := by decide +kernel
theorem dX2_foot_25 : decode cX2_foot 25 = .ok (.ifCond .eq 19, 3) := by decide +kernel
theorem dX2_foot_28 : decode cX2_foot 28 = .ok (.iconst 0, 1) := by decide +kernel
theorem dX2_foot_29 : decode cX2_foot 29 = .ok (.aload_n 0, 1) := by decide +kernel
theorem dX2_foot_30 : decode cX2_foot 30 = .ok (.getfield 23, 3) := by decide +kernel
theorem dX2_foot_33 : decode cX2_foot 33 = .ok (.aload_n 0, 1) := by decide +kernel
theorem dX2_foot_34 : decode cX2_foot 34 = .ok (.getfield 43, 3) := by decide +kernel
theorem dX2_foot_37 : decode cX2_foot 37 = .ok (.isub, 1) := by decide +kernel
theorem dX2_foot_38 : decode cX2_foot 38 = .ok (.invokestatic 62, 3) := by decide +kernel
theorem dX2_foot_41 : decode cX2_foot 41 = .ok (.goto 7, 3) := by decide +kernel
theorem dX2_foot_44 : decode cX2_foot 44 = .ok (.aload_n 0, 1) := by decide +kernel
theorem dX2_foot_45 : decode cX2_foot 45 = .ok (.getfield 23, 3) := by decide +kernel
theorem dX2_foot_48 : decode cX2_foot 48 = .ok (.istore_n 2, 1) := by decide +kernel
theorem dX2_foot_49 : decode cX2_foot 49 = .ok (.aload_n 0, 1) := by decide +kernel
theorem dX2_foot_50 : decode cX2_foot 50 = .ok (.getfield 30, 3) := by decide +kernel
theorem dX2_foot_53 : decode cX2_foot 53 = .ok (.aload_n 0, 1) := by decide +kernel
theorem dX2_foot_54 : decode cX2_foot 54 = .ok (.getfield 13, 3) := by decide +kernel
theorem dX2_foot_57 : decode cX2_foot 57 = .ok (.iload_n 2, 1) := by decide +kernel
theorem dX2_foot_58 : decode cX2_foot 58 = .ok (.imul, 1) := by decide +kernel
theorem dX2_foot_59 : decode cX2_foot 59 = .ok (.bipush 10, 2) := by decide +kernel
theorem dX2_foot_61 : decode cX2_foot 61 = .ok (.idiv, 1) := by decide +kernel
theorem dX2_foot_62 : decode cX2_foot 62 = .ok (.iadd, 1) := by decide +kernel
theorem dX2_foot_63 : decode cX2_foot 63 = .ok (.ireturn, 1) := by decide +kernel
theorem dX2_letMinutesGo_0 : decode cX2_letMinutesGo 0 = .ok (.iconst 0, 1) := by decide +kernel
theorem dX2_letMinutesGo_1 : decode cX2_letMinutesGo 1 = .ok (.istore_n 2, 1) := by decide +kernel
theorem dX2_letMinutesGo_2 : decode cX2_letMinutesGo 2 = .ok (.iload_n 2, 1) := by decide +kernel
theorem dX2_letMinutesGo_3 : decode cX2_letMinutesGo 3 = .ok (.iload_n 1, 1) := by decide +kernel
theorem dX2_letMinutesGo_4 : decode cX2_letMinutesGo 4 = .ok (.if_icmp .ge 15, 3) := by decide +kernel
theorem dX2_letMinutesGo_7 : decode cX2_letMinutesGo 7 = .ok (.aload_n 0, 1) := by decide +kernel
theorem dX2_letMinutesGo_8 : decode cX2_letMinutesGo 8 = .ok (.iconst 0, 1) := by decide +kernel
theorem dX2_letMinutesGo_9 : decode cX2_letMinutesGo 9 = .ok (.invokevirtual 72, 3) := by decide +kernel
theorem dX2_letMinutesGo_12 : decode cX2_letMinutesGo 12 = .ok (.pop, 1) := by decide +kernel
theorem dX2_letMinutesGo_13 : decode cX2_letMinutesGo 13 = .ok (.iinc 2 1, 3) := by decide +kernel
theorem dX2_letMinutesGo_16 : decode cX2_letMinutesGo 16 = .ok (.goto (-14), 3) := by decide +kernel
theorem dX2_letMinutesGo_19 : decode cX2_letMinutesGo 19 = .ok (.aload_n 0, 1) := by decide +kernel
theorem dX2_letMinutesGo_20 : decode cX2_letMinutesGo 20 = .ok (.getfield 43, 3) := by decide +kernel
theorem dX2_letMinutesGo_23 : decode cX2_letMinutesGo 23 = .ok (.aload_n 0, 1) := by decide +kernel
theorem dX2_letMinutesGo_24 : decode cX2_letMinutesGo 24 = .ok (.getfield 46, 3) := by decide +kernel
theorem dX2_letMinutesGo_27 : decode cX2_letMinutesGo 27 = .ok (.iadd, 1) := by decide +kernel
theorem dX2_letMinutesGo_28 : decode cX2_letMinutesGo 28 = .ok (.ireturn, 1) := by decide +kernel
theorem dX2_letMinuteGo_0 : decode cX2_letMinuteGo 0 = .ok (.aload_n 0, 1) := by decide +kernel
theorem dX2_letMinuteGo_1 : decode cX2_letMinuteGo 1 = .ok (.dup, 1) := by decide +kernel
theorem dX2_letMinuteGo_2 : decode cX2_letMinuteGo 2 = .ok (.getfield 55, 3) := by decide +kernel
theorem dX2_letMinuteGo_5 : decode cX2_letMinuteGo 5 = .ok (.iconst 1, 1) := by decide +kernel
theorem dX2_letMinuteGo_6 : decode cX2_letMinuteGo 6 = .ok (.iadd, 1) := by decide +kernel
theorem dX2_letMinuteGo_7 : decode cX2_letMinuteGo 7 = .ok (.putfield 55, 3) := by decide +kernel
theorem dX2_letMinuteGo_10 : decode cX2_letMinuteGo 10 = .ok (.aload_n 0, 1) := by decide +kernel
theorem dX2_letMinuteGo_11 : decode cX2_letMinuteGo 11 = .ok (.iload_n 1, 1) := by decide +kernel
theorem dX2_letMinuteGo_12 : decode cX2_letMinuteGo 12 = .ok (.invokevirtual 76, 3) := by decide +kernel
theorem dX2_letMinuteGo_15 : decode cX2_letMinuteGo 15 = .ok (.aload_n 0, 1) := by decide +kernel
theorem dX2_letMinuteGo_16 : decode cX2_letMinuteGo 16 = .ok (.iload_n 1, 1) := by decide +kernel
theorem dX2_letMinuteGo_17 : decode cX2_letMinuteGo 17 = .ok (.invokevirtual 80, 3) := by decide +kernel
theorem dX2_letMinuteGo_20 : decode cX2_letMinuteGo 20 = .ok (.aload_n 0, 1) := by decide +kernel
theorem dX2_letMinuteGo_21 : decode cX2_letMinuteGo 21 = .ok (.invokevirtual 83, 3) := by decide +kernel
theorem dX2_letMinuteGo_24 : decode cX2_letMinuteGo 24 = .ok (.aload_n 0, 1) := by decide +kernel
theorem dX2_letMinuteGo_25 : decode cX2_letMinuteGo 25 = .ok (.invokevirtual 86, 3) := by decide +kernel
theorem dX2_letMinuteGo_28 : decode cX2_letMinuteGo 28 = .ok (.aload_n 0, 1) := by decide +kernel
theorem dX2_letMinuteGo_29 : decode cX2_letMinuteGo 29 = .ok (.invokevirtual 89, 3) := by decide +kernel
theorem dX2_letMinuteGo_32 : decode cX2_letMinuteGo 32 = .ok (.istore_n 2, 1) := by decide +kernel
theorem dX2_letMinuteGo_33 : decode cX2_letMinuteGo 33 = .ok (.aload_n 0, 1) := by decide +kernel
theorem dX2_letMinuteGo_34 : decode cX2_letMinuteGo 34 = .ok (.invokevirtual 92, 3) := by decide +kernel
theorem dX2_letMinuteGo_37 : decode cX2_letMinuteGo 37 = .ok (.iload_n 2, 1) := by decide +kernel
theorem dX2_letMinuteGo_38 : decode cX2_letMinuteGo 38 = .ok (.ireturn, 1) := by decide +kernel
theorem dX2_raiseGas_0 : decode cX2_raiseGas 0 = .ok (.aload_n 0, 1) := by decide +kernel
theorem dX2_raiseGas_1 : decode cX2_raiseGas 1 = .ok (.invokevirtual 58, 3) := by decide +kernel
theorem dX2_raiseGas_4 : decode cX2_raiseGas 4 = .ok (.ifCond .eq 40, 3) := by decide +kernel
theorem dX2_raiseGas_7 : decode cX2_raiseGas 7 = .ok (.iload_n 1, 1) := by decide +kernel
theorem dX2_raiseGas_8 : decode cX2_raiseGas 8 = .ok (.ifCond .eq 8, 3) := by decide +kernel
theorem dX2_raiseGas_11 : decode cX2_raiseGas 11 = .ok (.bipush 20, 2) := by decide +kernel
theorem dX2_raiseGas_13 : decode cX2_raiseGas 13 = .ok (.goto 16, 3) := by decide +kernel
theorem dX2_raiseGas_16 : decode cX2_raiseGas 16 = .ok (.aload_n 0, 1) := by decide +kernel
theorem dX2_raiseGas_17 : decode cX2_raiseGas 17 = .ok (.getfield 26, 3) := by decide +kernel
theorem dX2_raiseGas_20 : decode cX2_raiseGas 20 = .ok (.ifCond .eq 7, 3) := by decide +kernel
theorem dX2_raiseGas_23 : decode cX2_raiseGas 23 = .ok (.iconst 2, 1) := by decide +kernel
theorem dX2_raiseGas_24 : decode cX2_raiseGas 24 = .ok (.goto 5, 3) := by decide +kernel
theorem dX2_raiseGas_27 : decode cX2_raiseGas 27 = .ok (.bipush 8, 2) := by decide +kernel
theorem dX2_raiseGas_29 : decode cX2_raiseGas 29 = .ok (.istore_n 2, 1) := by decide +kernel
theorem dX2_raiseGas_30 : decode cX2_raiseGas 30 = .ok (.aload_n 0, 1) := by decide +kernel
theorem dX2_raiseGas_31 : decode cX2_raiseGas 31 = .ok (.iconst 0, 1) := by decide +kernel
theorem dX2_raiseGas_32 : decode cX2_raiseGas 32 = .ok (.aload_n 0, 1) := by decide +kernel
theorem dX2_raiseGas_33 : decode cX2_raiseGas 33 = .ok (.getfield 40, 3) := by decide +kernel
theorem dX2_raiseGas_36 : decode cX2_raiseGas 36 = .ok (.iload_n 2, 1) := by decide +kernel
theorem dX2_raiseGas_37 : decode cX2_raiseGas 37 = .ok (.isub, 1) := by decide +kernel
theorem dX2_raiseGas_38 : decode cX2_raiseGas 38 = .ok (.invokestatic 62, 3) := by decide +kernel
theorem dX2_raiseGas_41 : decode cX2_raiseGas 41 = .ok (.putfield 40, 3) := by decide +kernel
theorem dX2_raiseGas_44 : decode cX2_raiseGas 44 = .ok (.return_, 1) := by decide +kernel
theorem dX2_ventGas_0 : decode cX2_ventGas 0 = .ok (.aload_n 0, 1) := by decide +kernel
theorem dX2_ventGas_1 : decode cX2_ventGas 1 = .ok (.invokevirtual 58, 3) := by decide +kernel
theorem dX2_ventGas_4 : decode cX2_ventGas 4 = .ok (.ifCond .eq 45, 3) := by decide +kernel
theorem dX2_ventGas_7 : decode cX2_ventGas 7 = .ok (.aload_n 0, 1) := by decide +kernel
theorem dX2_ventGas_8 : decode cX2_ventGas 8 = .ok (.getfield 40, 3) := by decide +kernel
theorem dX2_ventGas_11 : decode cX2_ventGas 11 = .ok (.ifCond .ne 38, 3) := by decide +kernel
theorem dX2_ventGas_14 : decode cX2_ventGas 14 = .ok (.iload_n 1, 1) := by decide +kernel
theorem dX2_ventGas_15 : decode cX2_ventGas 15 = .ok (.ifCond .ne 10, 3) := by decide +kernel
theorem dX2_ventGas_18 : decode cX2_ventGas 18 = .ok (.aload_n 0, 1) := by decide +kernel
theorem dX2_ventGas_19 : decode cX2_ventGas 19 = .ok (.getfield 26, 3) := by decide +kernel
theorem dX2_ventGas_22 : decode cX2_ventGas 22 = .ok (.ifCond .ne 27, 3) := by decide +kernel
theorem dX2_ventGas_25 : decode cX2_ventGas 25 = .ok (.aload_n 0, 1) := by decide +kernel
theorem dX2_ventGas_26 : decode cX2_ventGas 26 = .ok (.dup, 1) := by decide +kernel
theorem dX2_ventGas_27 : decode cX2_ventGas 27 = .ok (.getfield 49, 3) := by decide +kernel
theorem dX2_ventGas_30 : decode cX2_ventGas 30 = .ok (.aload_n 0, 1) := by decide +kernel
theorem dX2_ventGas_31 : decode cX2_ventGas 31 = .ok (.getfield 43, 3) := by decide +kernel
theorem dX2_ventGas_34 : decode cX2_ventGas 34 = .ok (.i2l, 1) := by decide +kernel
theorem dX2_ventGas_35 : decode cX2_ventGas 35 = .ok (.ladd, 1) := by decide +kernel
theorem dX2_ventGas_36 : decode cX2_ventGas 36 = .ok (.putfield 49, 3) := by decide +kernel
theorem dX2_ventGas_39 : decode cX2_ventGas 39 = .ok (.aload_n 0, 1) := by decide +kernel
theorem dX2_ventGas_40 : decode cX2_ventGas 40 = .ok (.lconst 0, 1) := by decide +kernel
theorem dX2_ventGas_41 : decode cX2_ventGas 41 = .ok (.putfield 36, 3) := by decide +kernel
theorem dX2_ventGas_44 : decode cX2_ventGas 44 = .ok (.aload_n 0, 1) := by decide +kernel
theorem dX2_ventGas_45 : decode cX2_ventGas 45 = .ok (.iconst 0, 1) := by decide +kernel
theorem dX2_ventGas_46 : decode cX2_ventGas 46 = .ok (.putfield 43, 3) := by decide +kernel
theorem dX2_ventGas_49 : decode cX2_ventGas 49 = .ok (.return_, 1) := by decide +kernel
theorem dX2_measureGas_0 : decode cX2_measureGas 0 = .ok (.aload_n 0, 1) := by decide +kernel
theorem dX2_measureGas_1 : decode cX2_measureGas 1 = .ok (.invokevirtual 95, 3) := by decide +kernel
theorem dX2_measureGas_4 : decode cX2_measureGas 4 = .ok (.istore_n 1, 1) := by decide +kernel
theorem dX2_measureGas_5 : decode cX2_measureGas 5 = .ok (.aload_n 0, 1) := by decide +kernel
theorem dX2_measureGas_6 : decode cX2_measureGas 6 = .ok (.invokevirtual 58, 3) := by decide +kernel
theorem dX2_measureGas_9 : decode cX2_measureGas 9 = .ok (.ifCond .eq 32, 3) := by decide +kernel
theorem dX2_measureGas_12 : decode cX2_measureGas 12 = .ok (.iload_n 1, 1) := by decide +kernel
theorem dX2_measureGas_13 : decode cX2_measureGas 13 = .ok (.ifCond .le 28, 3) := by decide +kernel
theorem dX2_measureGas_16 : decode cX2_measureGas 16 = .ok (.aload_n 0, 1) := by decide +kernel
theorem dX2_measureGas_17 : decode cX2_measureGas 17 = .ok (.aload_n 0, 1) := by decide +kernel
theorem dX2_measureGas_18 : decode cX2_measureGas 18 = .ok (.getfield 36, 3) := by decide +kernel
theorem dX2_measureGas_21 : decode cX2_measureGas 21 = .ok (.iload_n 1, 1) := by decide +kernel
theorem dX2_measureGas_22 : decode cX2_measureGas 22 = .ok (.i2l, 1) := by decide +kernel
theorem dX2_measureGas_23 : decode cX2_measureGas 23 = .ok (.ldiv, 1) := by decide +kernel
theorem dX2_measureGas_24 : decode cX2_measureGas 24 = .ok (.aload_n 0, 1) := by decide +kernel
theorem dX2_measureGas_25 : decode cX2_measureGas 25 = .ok (.getfield 20, 3) := by decide +kernel
theorem dX2_measureGas_28 : decode cX2_measureGas 28 = .ok (.aload_n 0, 1) := by decide +kernel
theorem dX2_measureGas_29 : decode cX2_measureGas 29 = .ok (.getfield 46, 3) := by decide +kernel
theorem dX2_measureGas_32 : decode cX2_measureGas 32 = .ok (.isub, 1) := by decide +kernel
theorem dX2_measureGas_33 : decode cX2_measureGas 33 = .ok (.i2l, 1) := by decide +kernel
theorem dX2_measureGas_34 : decode cX2_measureGas 34 = .ok (.invokestatic 98, 3) := by decide +kernel
theorem dX2_measureGas_37 : decode cX2_measureGas 37 = .ok (.l2i, 1) := by decide +kernel
theorem dX2_measureGas_38 : decode cX2_measureGas 38 = .ok (.putfield 43, 3) := by decide +kernel
theorem dX2_measureGas_41 : decode cX2_measureGas 41 = .ok (.return_, 1) := by decide +kernel
theorem dX2_setChoke_0 : decode cX2_setChoke 0 = .ok (.aload_n 0, 1) := by decide +kernel
theorem dX2_setChoke_1 : decode cX2_setChoke 1 = .ok (.getfield 26, 3) := by decide +kernel
theorem dX2_setChoke_4 : decode cX2_setChoke 4 = .ok (.ifCond .ne 4, 3) := by decide +kernel
theorem dX2_setChoke_7 : decode cX2_setChoke 7 = .ok (.return_, 1) := by decide +kernel
theorem dX2_setChoke_8 : decode cX2_setChoke 8 = .ok (.aload_n 0, 1) := by decide +kernel
theorem dX2_setChoke_9 : decode cX2_setChoke 9 = .ok (.iconst 0, 1) := by decide +kernel
theorem dX2_setChoke_10 : decode cX2_setChoke 10 = .ok (.aload_n 0, 1) := by decide +kernel
theorem dX2_setChoke_11 : decode cX2_setChoke 11 = .ok (.getfield 7, 3) := by decide +kernel
theorem dX2_setChoke_14 : decode cX2_setChoke 14 = .ok (.aload_n 0, 1) := by decide +kernel
theorem dX2_setChoke_15 : decode cX2_setChoke 15 = .ok (.getfield 20, 3) := by decide +kernel
theorem dX2_setChoke_18 : decode cX2_setChoke 18 = .ok (.invokevirtual 102, 3) := by decide +kernel
theorem dX2_setChoke_21 : decode cX2_setChoke 21 = .ok (.aload_n 0, 1) := by decide +kernel
theorem dX2_setChoke_22 : decode cX2_setChoke 22 = .ok (.invokevirtual 68, 3) := by decide +kernel
theorem dX2_setChoke_25 : decode cX2_setChoke 25 = .ok (.isub, 1) := by decide +kernel
theorem dX2_setChoke_26 : decode cX2_setChoke 26 = .ok (.invokestatic 62, 3) := by decide +kernel
theorem dX2_setChoke_29 : decode cX2_setChoke 29 = .ok (.putfield 30, 3) := by decide +kernel
theorem dX2_setChoke_32 : decode cX2_setChoke 32 = .ok (.aload_n 0, 1) := by decide +kernel
theorem dX2_setChoke_33 : decode cX2_setChoke 33 = .ok (.getfield 30, 3) := by decide +kernel
theorem dX2_setChoke_36 : decode cX2_setChoke 36 = .ok (.aload_n 0, 1) := by decide +kernel
theorem dX2_setChoke_37 : decode cX2_setChoke 37 = .ok (.getfield 17, 3) := by decide +kernel
theorem dX2_setChoke_40 : decode cX2_setChoke 40 = .ok (.if_icmp .le 18, 3) := by decide +kernel
theorem dX2_setChoke_43 : decode cX2_setChoke 43 = .ok (.aload_n 0, 1) := by decide +kernel
theorem dX2_setChoke_44 : decode cX2_setChoke 44 = .ok (.iconst 0, 1) := by decide +kernel
theorem dX2_setChoke_45 : decode cX2_setChoke 45 = .ok (.putfield 26, 3) := by decide +kernel
theorem dX2_setChoke_48 : decode cX2_setChoke 48 = .ok (.aload_n 0, 1) := by decide +kernel
theorem dX2_setChoke_49 : decode cX2_setChoke 49 = .ok (.iconst 0, 1) := by decide +kernel
theorem dX2_setChoke_50 : decode cX2_setChoke 50 = .ok (.putfield 30, 3) := by decide +kernel
theorem dX2_setChoke_53 : decode cX2_setChoke 53 = .ok (.aload_n 0, 1) := by decide +kernel
theorem dX2_setChoke_54 : decode cX2_setChoke 54 = .ok (.iconst 1, 1) := by decide +kernel
theorem dX2_setChoke_55 : decode cX2_setChoke 55 = .ok (.putfield 33, 3) := by decide +kernel
theorem dX2_setChoke_58 : decode cX2_setChoke 58 = .ok (.return_, 1) := by decide +kernel
theorem dX2_flowIn_0 : decode cX2_flowIn 0 = .ok (.aload_n 0, 1) := by decide +kernel
theorem dX2_flowIn_1 : decode cX2_flowIn 1 = .ok (.getfield 7, 3) := by decide +kernel
theorem dX2_flowIn_4 : decode cX2_flowIn 4 = .ok (.aload_n 0, 1) := by decide +kernel
theorem dX2_flowIn_5 : decode cX2_flowIn 5 = .ok (.getfield 20, 3) := by decide +kernel
theorem dX2_flowIn_8 : decode cX2_flowIn 8 = .ok (.invokevirtual 102, 3) := by decide +kernel
theorem dX2_flowIn_11 : decode cX2_flowIn 11 = .ok (.aload_n 0, 1) := by decide +kernel
theorem dX2_flowIn_12 : decode cX2_flowIn 12 = .ok (.invokevirtual 108, 3) := by decide +kernel
theorem dX2_flowIn_15 : decode cX2_flowIn 15 = .ok (.isub, 1) := by decide +kernel
theorem dX2_flowIn_16 : decode cX2_flowIn 16 = .ok (.istore_n 1, 1) := by decide +kernel
theorem dX2_flowIn_17 : decode cX2_flowIn 17 = .ok (.aload_n 0, 1) := by decide +kernel
theorem dX2_flowIn_18 : decode cX2_flowIn 18 = .ok (.getfield 26, 3) := by decide +kernel
theorem dX2_flowIn_21 : decode cX2_flowIn 21 = .ok (.ifCond .ne 7, 3) := by decide +kernel
theorem dX2_flowIn_24 : decode cX2_flowIn 24 = .ok (.iload_n 1, 1) := by decide +kernel
theorem dX2_flowIn_25 : decode cX2_flowIn 25 = .ok (.ifCond .gt 5, 3) := by decide +kernel
theorem dX2_flowIn_28 : decode cX2_flowIn 28 = .ok (.iconst 0, 1) := by decide +kernel
theorem dX2_flowIn_29 : decode cX2_flowIn 29 = .ok (.ireturn, 1) := by decide +kernel
theorem dX2_flowIn_30 : decode cX2_flowIn 30 = .ok (.bipush 40, 2) := by decide +kernel
theorem dX2_flowIn_32 : decode cX2_flowIn 32 = .ok (.iconst 1, 1) := by decide +kernel
theorem dX2_flowIn_33 : decode cX2_flowIn 33 = .ok (.iload_n 1, 1) := by decide +kernel
theorem dX2_flowIn_34 : decode cX2_flowIn 34 = .ok (.aload_n 0, 1) := by decide +kernel
theorem dX2_flowIn_35 : decode cX2_flowIn 35 = .ok (.getfield 7, 3) := by decide +kernel
theorem dX2_flowIn_38 : decode cX2_flowIn 38 = .ok (.aload_n 0, 1) := by decide +kernel
theorem dX2_flowIn_39 : decode cX2_flowIn 39 = .ok (.getfield 20, 3) := by decide +kernel
theorem dX2_flowIn_42 : decode cX2_flowIn 42 = .ok (.invokevirtual 111, 3) := by decide +kernel
theorem dX2_flowIn_45 : decode cX2_flowIn 45 = .ok (.imul, 1) := by decide +kernel
theorem dX2_flowIn_46 : decode cX2_flowIn 46 = .ok (.sipush 10000, 3) := by decide +kernel
theorem dX2_flowIn_49 : decode cX2_flowIn 49 = .ok (.idiv, 1) := by decide +kernel
theorem dX2_flowIn_50 : decode cX2_flowIn 50 = .ok (.iadd, 1) := by decide +kernel
theorem dX2_flowIn_51 : decode cX2_flowIn 51 = .ok (.invokestatic 114, 3) := by decide +kernel
theorem dX2_flowIn_54 : decode cX2_flowIn 54 = .ok (.istore_n 2, 1) := by decide +kernel
theorem dX2_flowIn_55 : decode cX2_flowIn 55 = .ok (.aload_n 0, 1) := by decide +kernel
theorem dX2_flowIn_56 : decode cX2_flowIn 56 = .ok (.getfield 7, 3) := by decide +kernel
theorem dX2_flowIn_59 : decode cX2_flowIn 59 = .ok (.aload_n 0, 1) := by decide +kernel
theorem dX2_flowIn_60 : decode cX2_flowIn 60 = .ok (.getfield 20, 3) := by decide +kernel
theorem dX2_flowIn_63 : decode cX2_flowIn 63 = .ok (.invokevirtual 116, 3) := by decide +kernel
theorem dX2_flowIn_66 : decode cX2_flowIn 66 = .ok (.ifCond .ne 32, 3) := by decide +kernel
theorem dX2_flowIn_69 : decode cX2_flowIn 69 = .ok (.aload_n 0, 1) := by decide +kernel
theorem dX2_flowIn_70 : decode cX2_flowIn 70 = .ok (.dup, 1) := by decide +kernel
theorem dX2_flowIn_71 : decode cX2_flowIn 71 = .ok (.getfield 46, 3) := by decide +kernel
theorem dX2_flowIn_74 : decode cX2_flowIn 74 = .ok (.iload_n 2, 1) := by decide +kernel
theorem dX2_flowIn_75 : decode cX2_flowIn 75 = .ok (.aload_n 0, 1) := by decide +kernel
theorem dX2_flowIn_76 : decode cX2_flowIn 76 = .ok (.getfield 20, 3) := by decide +kernel
theorem dX2_flowIn_79 : decode cX2_flowIn 79 = .ok (.aload_n 0, 1) := by decide +kernel
theorem dX2_flowIn_80 : decode cX2_flowIn 80 = .ok (.getfield 43, 3) := by decide +kernel
theorem dX2_flowIn_83 : decode cX2_flowIn 83 = .ok (.isub, 1) := by decide +kernel
theorem dX2_flowIn_84 : decode cX2_flowIn 84 = .ok (.aload_n 0, 1) := by decide +kernel
theorem dX2_flowIn_85 : decode cX2_flowIn 85 = .ok (.getfield 46, 3) := by decide +kernel
theorem dX2_flowIn_88 : decode cX2_flowIn 88 = .ok (.isub, 1) := by decide +kernel
theorem dX2_flowIn_89 : decode cX2_flowIn 89 = .ok (.invokestatic 114, 3) := by decide +kernel
theorem dX2_flowIn_92 : decode cX2_flowIn 92 = .ok (.iadd, 1) := by decide +kernel
theorem dX2_flowIn_93 : decode cX2_flowIn 93 = .ok (.putfield 46, 3) := by decide +kernel
theorem dX2_flowIn_96 : decode cX2_flowIn 96 = .ok (.iconst 1, 1) := by decide +kernel
theorem dX2_flowIn_97 : decode cX2_flowIn 97 = .ok (.ireturn, 1) := by decide +kernel
theorem dX2_flowIn_98 : decode cX2_flowIn 98 = .ok (.aload_n 0, 1) := by decide +kernel
theorem dX2_flowIn_99 : decode cX2_flowIn 99 = .ok (.invokevirtual 58, 3) := by decide +kernel
theorem dX2_flowIn_102 : decode cX2_flowIn 102 = .ok (.ifCond .ne 11, 3) := by decide +kernel
theorem dX2_flowIn_105 : decode cX2_flowIn 105 = .ok (.aload_n 0, 1) := by decide +kernel
theorem dX2_flowIn_106 : decode cX2_flowIn 106 = .ok (.aload_n 0, 1) := by decide +kernel
theorem dX2_flowIn_107 : decode cX2_flowIn 107 = .ok (.getfield 20, 3) := by decide +kernel
theorem dX2_flowIn_110 : decode cX2_flowIn 110 = .ok (.putfield 40, 3) := by decide +kernel
theorem dX2_flowIn_113 : decode cX2_flowIn 113 = .ok (.aload_n 0, 1) := by decide +kernel
theorem dX2_flowIn_114 : decode cX2_flowIn 114 = .ok (.dup, 1) := by decide +kernel
theorem dX2_flowIn_115 : decode cX2_flowIn 115 = .ok (.getfield 36, 3) := by decide +kernel
theorem dX2_flowIn_118 : decode cX2_flowIn 118 = .ok (.iload_n 2, 1) := by decide +kernel
theorem dX2_flowIn_119 : decode cX2_flowIn 119 = .ok (.i2l, 1) := by decide +kernel
theorem dX2_flowIn_120 : decode cX2_flowIn 120 = .ok (.iconst 1, 1) := by decide +kernel
theorem dX2_flowIn_121 : decode cX2_flowIn 121 = .ok (.aload_n 0, 1) := by decide +kernel
theorem dX2_flowIn_122 : decode cX2_flowIn 122 = .ok (.invokevirtual 108, 3) := by decide +kernel
theorem dX2_flowIn_125 : decode cX2_flowIn 125 = .ok (.invokestatic 62, 3) := by decide +kernel
theorem dX2_flowIn_128 : decode cX2_flowIn 128 = .ok (.i2l, 1) := by decide +kernel
theorem dX2_flowIn_129 : decode cX2_flowIn 129 = .ok (.lmul, 1) := by decide +kernel
theorem dX2_flowIn_130 : decode cX2_flowIn 130 = .ok (.ladd, 1) := by decide +kernel
theorem dX2_flowIn_131 : decode cX2_flowIn 131 = .ok (.putfield 36, 3) := by decide +kernel
theorem dX2_flowIn_134 : decode cX2_flowIn 134 = .ok (.aload_n 0, 1) := by decide +kernel
theorem dX2_flowIn_135 : decode cX2_flowIn 135 = .ok (.invokevirtual 83, 3) := by decide +kernel
theorem dX2_flowIn_138 : decode cX2_flowIn 138 = .ok (.iconst 1, 1) := by decide +kernel
theorem dX2_flowIn_139 : decode cX2_flowIn 139 = .ok (.ireturn, 1) := by decide +kernel
theorem dX2_loseAtShoe_0 : decode cX2_loseAtShoe 0 = .ok (.aload_n 0, 1) := by decide +kernel
theorem dX2_loseAtShoe_1 : decode cX2_loseAtShoe 1 = .ok (.getfield 23, 3) := by decide +kernel
theorem dX2_loseAtShoe_4 : decode cX2_loseAtShoe 4 = .ok (.ifCond .le 31, 3) := by decide +kernel
theorem dX2_loseAtShoe_7 : decode cX2_loseAtShoe 7 = .ok (.aload_n 0, 1) := by decide +kernel
theorem dX2_loseAtShoe_8 : decode cX2_loseAtShoe 8 = .ok (.invokevirtual 120, 3) := by decide +kernel
theorem dX2_loseAtShoe_11 : decode cX2_loseAtShoe 11 = .ok (.aload_n 0, 1) := by decide +kernel
theorem dX2_loseAtShoe_12 : decode cX2_loseAtShoe 12 = .ok (.getfield 7, 3) := by decide +kernel
theorem dX2_loseAtShoe_15 : decode cX2_loseAtShoe 15 = .ok (.aload_n 0, 1) := by decide +kernel
theorem dX2_loseAtShoe_16 : decode cX2_loseAtShoe 16 = .ok (.getfield 23, 3) := by decide +kernel
theorem dX2_loseAtShoe_19 : decode cX2_loseAtShoe 19 = .ok (.invokevirtual 123, 3) := by decide +kernel
theorem dX2_loseAtShoe_22 : decode cX2_loseAtShoe 22 = .ok (.if_icmp .le 13, 3) := by decide +kernel
theorem dX2_loseAtShoe_25 : decode cX2_loseAtShoe 25 = .ok (.aload_n 0, 1) := by decide +kernel
theorem dX2_loseAtShoe_26 : decode cX2_loseAtShoe 26 = .ok (.dup, 1) := by decide +kernel
theorem dX2_loseAtShoe_27 : decode cX2_loseAtShoe 27 = .ok (.getfield 52, 3) := by decide +kernel
theorem dX2_loseAtShoe_30 : decode cX2_loseAtShoe 30 = .ok (.iconst 5, 1) := by decide +kernel
theorem dX2_loseAtShoe_31 : decode cX2_loseAtShoe 31 = .ok (.iadd, 1) := by decide +kernel
theorem dX2_loseAtShoe_32 : decode cX2_loseAtShoe 32 = .ok (.putfield 52, 3) := by decide +kernel
theorem dX2_loseAtShoe_35 : decode cX2_loseAtShoe 35 = .ok (.return_, 1) := by decide +kernel
theorem dX3_init_0 : decode cX3_init 0 = .ok (.aload_n 0, 1) := by decide +kernel
theorem dX3_init_1 : decode cX3_init 1 = .ok (.invokespecial 1, 3) := by decide +kernel
theorem dX3_init_4 : decode cX3_init 4 = .ok (.aload_n 0, 1) := by decide +kernel
theorem dX3_init_5 : decode cX3_init 5 = .ok (.new 7, 3) := by decide +kernel
theorem dX3_init_8 : decode cX3_init 8 = .ok (.dup, 1) := by decide +kernel
theorem dX3_init_9 : decode cX3_init 9 = .ok (.invokespecial 9, 3) := by decide +kernel
theorem dX3_init_12 : decode cX3_init 12 = .ok (.putfield 10, 3) := by decide +kernel
theorem dX3_init_15 : decode cX3_init 15 = .ok (.aload_n 0, 1) := by decide +kernel
theorem dX3_init_16 : decode cX3_init 16 = .ok (.new 16, 3) := by decide +kernel
theorem dX3_init_19 : decode cX3_init 19 = .ok (.dup, 1) := by decide +kernel
theorem dX3_init_20 : decode cX3_init 20 = .ok (.aload_n 0, 1) := by decide +kernel
theorem dX3_init_21 : decode cX3_init 21 = .ok (.getfield 10, 3) := by decide +kernel
theorem dX3_init_24 : decode cX3_init 24 = .ok (.invokespecial 18, 3) := by decide +kernel
theorem dX3_init_27 : decode cX3_init 27 = .ok (.putfield 21, 3) := by decide +kernel
theorem dX3_init_30 : decode cX3_init 30 = .ok (.aload_n 0, 1) := by decide +kernel
theorem dX3_init_31 : decode cX3_init 31 = .ok (.new 16, 3) := by decide +kernel
theorem dX3_init_34 : decode cX3_init 34 = .ok (.dup, 1) := by decide +kernel
theorem dX3_init_35 : decode cX3_init 35 = .ok (.aload_n 0, 1) := by decide +kernel
theorem dX3_init_36 : decode cX3_init 36 = .ok (.getfield 10, 3) := by decide +kernel
theorem dX3_init_39 : decode cX3_init 39 = .ok (.invokespecial 18, 3) := by decide +kernel
theorem dX3_init_42 : decode cX3_init 42 = .ok (.putfield 25, 3) := by decide +kernel
theorem dX3_init_45 : decode cX3_init 45 = .ok (.aload_n 0, 1) := by decide +kernel
theorem dX3_init_46 : decode cX3_init 46 = .ok (.new 28, 3) := by decide +kernel
theorem dX3_init_49 : decode cX3_init 49 = .ok (.dup, 1) := by decide +kernel
theorem dX3_init_50 : decode cX3_init 50 = .ok (.invokespecial 30, 3) := by decide +kernel
theorem dX3_init_53 : decode cX3_init 53 = .ok (.putfield 31, 3) := by decide +kernel
theorem dX3_init_56 : decode cX3_init 56 = .ok (.aload_n 0, 1) := by decide +kernel
theorem dX3_init_57 : decode cX3_init 57 = .ok (.iconst (-1), 1) := by decide +kernel
theorem dX3_init_58 : decode cX3_init 58 = .ok (.putfield 35, 3) := by decide +kernel
theorem dX3_init_61 : decode cX3_init 61 = .ok (.return_, 1) := by decide +kernel
theorem dX3_layer_0 : decode cX3_layer 0 = .ok (.iload_n 1, 1) := by decide +kernel
theorem dX3_layer_1 : decode cX3_layer 1 = .ok (.iconst 0, 1) := by decide +kernel
theorem dX3_layer_2 : decode cX3_layer 2 = .ok (.bipush 49, 2) := by decide +kernel
theorem dX3_layer_4 : decode cX3_layer 4 = .ok (.invokestatic 39, 3) := by decide +kernel
theorem dX3_layer_7 : decode cX3_layer 7 = .ok (.ifCond .ne 13, 3) := by decide +kernel
theorem dX3_layer_10 : decode cX3_layer 10 = .ok (.new 43, 3) := by decide +kernel
theorem dX3_layer_13 : decode cX3_layer 13 = .ok (.dup, 1) := by decide +kernel
theorem dX3_layer_14 : decode cX3_layer 14 = .ok (.ldc 45, 2) := by decide +kernel
theorem dX3_layer_16 : decode cX3_layer 16 = .ok (.invokespecial 47, 3) := by decide +kernel
theorem dX3_layer_19 : decode cX3_layer 19 = .ok (.athrow, 1) := by decide +kernel
theorem dX3_layer_20 : decode cX3_layer 20 = .ok (.iload_n 2, 1) := by decide +kernel
theorem dX3_layer_21 : decode cX3_layer 21 = .ok (.iconst 0, 1) := by decide +kernel
theorem dX3_layer_22 : decode cX3_layer 22 = .ok (.sipush 300, 3) := by decide +kernel
theorem dX3_layer_25 : decode cX3_layer 25 = .ok (.invokestatic 39, 3) := by decide +kernel
theorem dX3_layer_28 : decode cX3_layer 28 = .ok (.ifCond .eq 26, 3) := by decide +kernel
theorem dX3_layer_31 : decode cX3_layer 31 = .ok (.iload_n 3, 1) := by decide +kernel
theorem dX3_layer_32 : decode cX3_layer 32 = .ok (.iconst 0, 1) := by decide +kernel
theorem dX3_layer_33 : decode cX3_layer 33 = .ok (.sipush 300, 3) := by decide +kernel
theorem dX3_layer_36 : decode cX3_layer 36 = .ok (.invokestatic 39, 3) := by decide +kernel
theorem dX3_layer_39 : decode cX3_layer 39 = .ok (.ifCond .eq 15, 3) := by decide +kernel
theorem dX3_layer_42 : decode cX3_layer 42 = .ok (.iload 4, 2) := by decide +kernel
theorem dX3_layer_44 : decode cX3_layer 44 = .ok (.iconst 0, 1) := by decide +kernel
theorem dX3_layer_45 : decode cX3_layer 45 = .ok (.sipush 1000, 3) := by decide +kernel
theorem dX3_layer_48 : decode cX3_layer 48 = .ok (.invokestatic 39, 3) := by decide +kernel
theorem dX3_layer_51 : decode cX3_layer 51 = .ok (.ifCond .ne 13, 3) := by decide +kernel
theorem dX3_layer_54 : decode cX3_layer 54 = .ok (.new 50, 3) := by decide +kernel
theorem dX3_layer_57 : decode cX3_layer 57 = .ok (.dup, 1) := by decide +kernel
theorem dX3_layer_58 : decode cX3_layer 58 = .ok (.ldc 52, 2) := by decide +kernel
theorem dX3_layer_60 : decode cX3_layer 60 = .ok (.invokespecial 54, 3) := by decide +kernel
theorem dX3_layer_63 : decode cX3_layer 63 = .ok (.athrow, 1) := by decide +kernel
theorem dX3_layer_64 : decode cX3_layer 64 = .ok (.aload_n 0, 1) := by decide +kernel
theorem dX3_layer_65 : decode cX3_layer 65 = .ok (.getfield 21, 3) := by decide +kernel
theorem dX3_layer_68 : decode cX3_layer 68 = .ok (.getfield 55, 3) := by decide +kernel
theorem dX3_layer_71 : decode cX3_layer 71 = .ok (.iload_n 1, 1) := by decide +kernel
theorem dX3_layer_72 : decode cX3_layer 72 = .ok (.bipush 100, 2) := by decide +kernel
theorem dX3_layer_74 : decode cX3_layer 74 = .ok (.imul, 1) := by decide +kernel
theorem dX3_layer_75 : decode cX3_layer 75 = .ok (.if_icmp .le 13, 3) := by decide +kernel
theorem dX3_layer_78 : decode cX3_layer 78 = .ok (.new 58, 3) := by decide +kernel
theorem dX3_layer_81 : decode cX3_layer 81 = .ok (.dup, 1) := by decide +kernel
theorem dX3_layer_82 : decode cX3_layer 82 = .ok (.ldc 60, 2) := by decide +kernel
theorem dX3_layer_84 : decode cX3_layer 84 = .ok (.invokespecial 62, 3) := by decide +kernel
theorem dX3_layer_87 : decode cX3_layer 87 = .ok (.athrow, 1) := by decide +kernel
theorem dX3_layer_88 : decode cX3_layer 88 = .ok (.aload_n 0, 1) := by decide +kernel
theorem dX3_layer_89 : decode cX3_layer 89 = .ok (.getfield 10, 3) := by decide +kernel
theorem dX3_layer_92 : decode cX3_layer 92 = .ok (.iload_n 1, 1) := by decide +kernel
theorem dX3_layer_93 : decode cX3_layer 93 = .ok (.iload_n 2, 1) := by decide +kernel
theorem dX3_layer_94 : decode cX3_layer 94 = .ok (.iload_n 3, 1) := by decide +kernel
theorem dX3_layer_95 : decode cX3_layer 95 = .ok (.iload 4, 2) := by decide +kernel
theorem dX3_layer_97 : decode cX3_layer 97 = .ok (.iload 5, 2) := by decide +kernel
theorem dX3_layer_99 : decode cX3_layer 99 = .ok (.invokevirtual 63, 3) := by decide +kernel
theorem dX3_layer_102 : decode cX3_layer 102 = .ok (.return_, 1) := by decide +kernel
theorem dX3_mud_0 : decode cX3_mud 0 = .ok (.iload_n 1, 1) := by decide +kernel
theorem dX3_mud_1 : decode cX3_mud 1 = .ok (.iconst 0, 1) := by decide +kernel
theorem dX3_mud_2 : decode cX3_mud 2 = .ok (.sipush 300, 3) := by decide +kernel
theorem dX3_mud_5 : decode cX3_mud 5 = .ok (.invokestatic 39, 3) := by decide +kernel
theorem dX3_mud_8 : decode cX3_mud 8 = .ok (.ifCond .ne 13, 3) := by decide +kernel
theorem dX3_mud_11 : decode cX3_mud 11 = .ok (.new 50, 3) := by decide +kernel
theorem dX3_mud_14 : decode cX3_mud 14 = .ok (.dup, 1) := by decide +kernel
theorem dX3_mud_15 : decode cX3_mud 15 = .ok (.ldc 67, 2) := by decide +kernel
theorem dX3_mud_17 : decode cX3_mud 17 = .ok (.invokespecial 54, 3) := by decide +kernel
theorem dX3_mud_20 : decode cX3_mud 20 = .ok (.athrow, 1) := by decide +kernel
theorem dX3_mud_21 : decode cX3_mud 21 = .ok (.aload_n 0, 1) := by decide +kernel
theorem dX3_mud_22 : decode cX3_mud 22 = .ok (.getfield 21, 3) := by decide +kernel
theorem dX3_mud_25 : decode cX3_mud 25 = .ok (.getfield 69, 3) := by decide +kernel
theorem dX3_mud_28 : decode cX3_mud 28 = .ok (.ifCond .eq 13, 3) := by decide +kernel
theorem dX3_mud_31 : decode cX3_mud 31 = .ok (.new 58, 3) := by decide +kernel
theorem dX3_mud_34 : decode cX3_mud 34 = .ok (.dup, 1) := by decide +kernel
theorem dX3_mud_35 : decode cX3_mud 35 = .ok (.ldc 73, 2) := by decide +kernel
theorem dX3_mud_37 : decode cX3_mud 37 = .ok (.invokespecial 62, 3) := by decide +kernel
theorem dX3_mud_40 : decode cX3_mud 40 = .ok (.athrow, 1) := by decide +kernel
theorem dX3_mud_41 : decode cX3_mud 41 = .ok (.aload_n 0, 1) := by decide +kernel
theorem dX3_mud_42 : decode cX3_mud 42 = .ok (.getfield 21, 3) := by decide +kernel
theorem dX3_mud_45 : decode cX3_mud 45 = .ok (.getfield 75, 3) := by decide +kernel
theorem dX3_mud_48 : decode cX3_mud 48 = .ok (.istore_n 2, 1) := by decide +kernel
theorem dX3_mud_49 : decode cX3_mud 49 = .ok (.aload_n 0, 1) := by decide +kernel
theorem dX3_mud_50 : decode cX3_mud 50 = .ok (.getfield 21, 3) := by decide +kernel
theorem dX3_mud_53 : decode cX3_mud 53 = .ok (.iload_n 1, 1) := by decide +kernel
theorem dX3_mud_54 : decode cX3_mud 54 = .ok (.putfield 75, 3) := by decide +kernel
theorem dX3_mud_57 : decode cX3_mud 57 = .ok (.aload_n 0, 1) := by decide +kernel
theorem dX3_mud_58 : decode cX3_mud 58 = .ok (.iconst 0, 1) := by decide +kernel
theorem dX3_mud_59 : decode cX3_mud 59 = .ok (.putfield 78, 3) := by decide +kernel
theorem dX3_mud_62 : decode cX3_mud 62 = .ok (.iload_n 2, 1) := by decide +kernel
theorem dX3_mud_63 : decode cX3_mud 63 = .ok (.ireturn, 1) := by decide +kernel
theorem dX3_drill_0 : decode cX3_drill 0 = .ok (.iload_n 1, 1) := by decide +kernel
theorem dX3_drill_1 : decode cX3_drill 1 = .ok (.iconst 1, 1) := by decide +kernel
theorem dX3_drill_2 : decode cX3_drill 2 = .ok (.sipush 500, 3) := by decide +kernel
theorem dX3_drill_5 : decode cX3_drill 5 = .ok (.invokestatic 39, 3) := by decide +kernel
theorem dX3_drill_8 : decode cX3_drill 8 = .ok (.ifCond .ne 13, 3) := by decide +kernel
theorem dX3_drill_11 : decode cX3_drill 11 = .ok (.new 50, 3) := by decide +kernel
theorem dX3_drill_14 : decode cX3_drill 14 = .ok (.dup, 1) := by decide +kernel
theorem dX3_drill_15 : decode cX3_drill 15 = .ok (.ldc 81, 2) := by decide +kernel
theorem dX3_drill_17 : decode cX3_drill 17 = .ok (.invokespecial 54, 3) := by decide +kernel
theorem dX3_drill_20 : decode cX3_drill 20 = .ok (.athrow, 1) := by decide +kernel
theorem dX3_drill_21 : decode cX3_drill 21 = .ok (.aload_n 0, 1) := by decide +kernel
theorem dX3_drill_22 : decode cX3_drill 22 = .ok (.invokevirtual 83, 3) := by decide +kernel
theorem dX3_drill_25 : decode cX3_drill 25 = .ok (.ifCond .ne 26, 3) := by decide +kernel
theorem dX3_drill_28 : decode cX3_drill 28 = .ok (.aload_n 0, 1) := by decide +kernel
theorem dX3_drill_29 : decode cX3_drill 29 = .ok (.getfield 21, 3) := by decide +kernel
theorem dX3_drill_32 : decode cX3_drill 32 = .ok (.getfield 55, 3) := by decide +kernel
theorem dX3_drill_35 : decode cX3_drill 35 = .ok (.iload_n 1, 1) := by decide +kernel
theorem dX3_drill_36 : decode cX3_drill 36 = .ok (.iadd, 1) := by decide +kernel
theorem dX3_drill_37 : decode cX3_drill 37 = .ok (.sipush 5000, 3) := by decide +kernel
theorem dX3_drill_40 : decode cX3_drill 40 = .ok (.if_icmp .gt 11, 3) := by decide +kernel
theorem dX3_drill_43 : decode cX3_drill 43 = .ok (.aload_n 0, 1) := by decide +kernel
theorem dX3_drill_44 : decode cX3_drill 44 = .ok (.iload_n 1, 1) := by decide +kernel
theorem dX3_drill_45 : decode cX3_drill 45 = .ok (.invokevirtual 87, 3) := by decide +kernel
theorem dX3_drill_48 : decode cX3_drill 48 = .ok (.ifCond .ne 13, 3) := by decide +kernel
theorem dX3_drill_51 : decode cX3_drill 51 = .ok (.new 58, 3) := by decide +kernel
theorem dX3_drill_54 : decode cX3_drill 54 = .ok (.dup, 1) := by decide +kernel
theorem dX3_drill_55 : decode cX3_drill 55 = .ok (.ldc 91, 2) := by decide +kernel
theorem dX3_drill_57 : decode cX3_drill 57 = .ok (.invokespecial 62, 3) := by decide +kernel
theorem dX3_drill_60 : decode cX3_drill 60 = .ok (.athrow, 1) := by decide +kernel
theorem dX3_drill_61 : decode cX3_drill 61 = .ok (.iconst 1, 1) := by decide +kernel
theorem dX3_drill_62 : decode cX3_drill 62 = .ok (.istore_n 2, 1) := by decide +kernel
theorem dX3_drill_63 : decode cX3_drill 63 = .ok (.iload_n 2, 1) := by decide +kernel
theorem dX3_drill_64 : decode cX3_drill 64 = .ok (.iload_n 1, 1) := by decide +kernel
theorem dX3_drill_65 : decode cX3_drill 65 = .ok (.if_icmp .gt 35, 3) := by decide +kernel
theorem dX3_drill_68 : decode cX3_drill 68 = .ok (.aload_n 0, 1) := by decide +kernel
theorem dX3_drill_69 : decode cX3_drill 69 = .ok (.getfield 21, 3) := by decide +kernel
theorem dX3_drill_72 : decode cX3_drill 72 = .ok (.dup, 1) := by decide +kernel
theorem dX3_drill_73 : decode cX3_drill 73 = .ok (.getfield 55, 3) := by decide +kernel
theorem dX3_drill_76 : decode cX3_drill 76 = .ok (.iconst 1, 1) := by decide +kernel
theorem dX3_drill_77 : decode cX3_drill 77 = .ok (.iadd, 1) := by decide +kernel
theorem dX3_drill_78 : decode cX3_drill 78 = .ok (.putfield 55, 3) := by decide +kernel
theorem dX3_drill_81 : decode cX3_drill 81 = .ok (.aload_n 0, 1) := by decide +kernel
theorem dX3_drill_82 : decode cX3_drill 82 = .ok (.getfield 21, 3) := by decide +kernel
theorem dX3_drill_85 : decode cX3_drill 85 = .ok (.iconst 0, 1) := by decide +kernel
theorem dX3_drill_86 : decode cX3_drill 86 = .ok (.invokevirtual 93, 3) := by decide +kernel
theorem dX3_drill_89 : decode cX3_drill 89 = .ok (.ifCond .eq 5, 3) := by decide +kernel
theorem dX3_drill_92 : decode cX3_drill 92 = .ok (.iload_n 2, 1) := by decide +kernel
theorem dX3_drill_93 : decode cX3_drill 93 = .ok (.ireturn, 1) := by decide +kernel
theorem dX3_drill_94 : decode cX3_drill 94 = .ok (.iinc 2 1, 3) := by decide +kernel
theorem dX3_drill_97 : decode cX3_drill 97 = .ok (.goto (-34), 3) := by decide +kernel
theorem dX3_drill_100 : decode cX3_drill 100 = .ok (.iload_n 1, 1) := by decide +kernel
theorem dX3_drill_101 : decode cX3_drill 101 = .ok (.ireturn, 1) := by decide +kernel
theorem dX3_pass_0 : decode cX3_pass 0 = .ok (.iload_n 1, 1) := by decide +kernel
theorem dX3_pass_1 : decode cX3_pass 1 = .ok (.iconst 1, 1) := by decide +kernel
theorem dX3_pass_2 : decode cX3_pass 2 = .ok (.sipush 2000, 3) := by decide +kernel
theorem dX3_pass_5 : decode cX3_pass 5 = .ok (.invokestatic 39, 3) := by decide +kernel
theorem dX3_pass_8 : decode cX3_pass 8 = .ok (.ifCond .ne 13, 3) := by decide +kernel
theorem dX3_pass_11 : decode cX3_pass 11 = .ok (.new 50, 3) := by decide +kernel
theorem dX3_pass_14 : decode cX3_pass 14 = .ok (.dup, 1) := by decide +kernel
theorem dX3_pass_15 : decode cX3_pass 15 = .ok (.ldc 97, 2) := by decide +kernel
theorem dX3_pass_17 : decode cX3_pass 17 = .ok (.invokespecial 54, 3) := by decide +kernel
theorem dX3_pass_20 : decode cX3_pass 20 = .ok (.athrow, 1) := by decide +kernel
theorem dX3_pass_21 : decode cX3_pass 21 = .ok (.aload_n 0, 1) := by decide +kernel
theorem dX3_pass_22 : decode cX3_pass 22 = .ok (.iload_n 1, 1) := by decide +kernel
theorem dX3_pass_23 : decode cX3_pass 23 = .ok (.invokevirtual 87, 3) := by decide +kernel
theorem dX3_pass_26 : decode cX3_pass 26 = .ok (.ifCond .ne 13, 3) := by decide +kernel
theorem dX3_pass_29 : decode cX3_pass 29 = .ok (.new 58, 3) := by decide +kernel
theorem dX3_pass_32 : decode cX3_pass 32 = .ok (.dup, 1) := by decide +kernel
theorem dX3_pass_33 : decode cX3_pass 33 = .ok (.ldc 99, 2) := by decide +kernel
theorem dX3_pass_35 : decode cX3_pass 35 = .ok (.invokespecial 62, 3) := by decide +kernel
theorem dX3_pass_38 : decode cX3_pass 38 = .ok (.athrow, 1) := by decide +kernel
theorem dX3_pass_39 : decode cX3_pass 39 = .ok (.aload_n 0, 1) := by decide +kernel
theorem dX3_pass_40 : decode cX3_pass 40 = .ok (.getfield 21, 3) := by decide +kernel
theorem dX3_pass_43 : decode cX3_pass 43 = .ok (.iload_n 1, 1) := by decide +kernel
theorem dX3_pass_44 : decode cX3_pass 44 = .ok (.invokevirtual 101, 3) := by decide +kernel
theorem dX3_pass_47 : decode cX3_pass 47 = .ok (.ireturn, 1) := by decide +kernel
theorem dX3_close_0 : decode cX3_close 0 = .ok (.aload_n 0, 1) := by decide +kernel
theorem dX3_close_1 : decode cX3_close 1 = .ok (.getfield 21, 3) := by decide +kernel
theorem dX3_close_4 : decode cX3_close 4 = .ok (.getfield 69, 3) := by decide +kernel
theorem dX3_close_7 : decode cX3_close 7 = .ok (.ifCond .eq 13, 3) := by decide +kernel
theorem dX3_close_10 : decode cX3_close 10 = .ok (.new 58, 3) := by decide +kernel
theorem dX3_close_13 : decode cX3_close 13 = .ok (.dup, 1) := by decide +kernel
theorem dX3_close_14 : decode cX3_close 14 = .ok (.ldc 73, 2) := by decide +kernel
theorem dX3_close_16 : decode cX3_close 16 = .ok (.invokespecial 62, 3) := by decide +kernel
theorem dX3_close_19 : decode cX3_close 19 = .ok (.athrow, 1) := by decide +kernel
theorem dX3_close_20 : decode cX3_close 20 = .ok (.aload_n 0, 1) := by decide +kernel
theorem dX3_close_21 : decode cX3_close 21 = .ok (.getfield 21, 3) := by decide +kernel
theorem dX3_close_24 : decode cX3_close 24 = .ok (.iconst 1, 1) := by decide +kernel
theorem dX3_close_25 : decode cX3_close 25 = .ok (.putfield 69, 3) := by decide +kernel
theorem dX3_close_28 : decode cX3_close 28 = .ok (.return_, 1) := by decide +kernel
theorem dX3_open_0 : decode cX3_open 0 = .ok (.aload_n 0, 1) := by decide +kernel
theorem dX3_open_1 : decode cX3_open 1 = .ok (.getfield 21, 3) := by decide +kernel
theorem dX3_open_4 : decode cX3_open 4 = .ok (.getfield 69, 3) := by decide +kernel
theorem dX3_open_7 : decode cX3_open 7 = .ok (.ifCond .ne 13, 3) := by decide +kernel
theorem dX3_open_10 : decode cX3_open 10 = .ok (.new 58, 3) := by decide +kernel
theorem dX3_open_13 : decode cX3_open 13 = .ok (.dup, 1) := by decide +kernel
theorem dX3_open_14 : decode cX3_open 14 = .ok (.ldc 105, 2) := by decide +kernel
theorem dX3_open_16 : decode cX3_open 16 = .ok (.invokespecial 62, 3) := by decide +kernel
theorem dX3_open_19 : decode cX3_open 19 = .ok (.athrow, 1) := by decide +kernel
theorem dX3_open_20 : decode cX3_open 20 = .ok (.aload_n 0, 1) := by decide +kernel
theorem dX3_open_21 : decode cX3_open 21 = .ok (.getfield 21, 3) := by decide +kernel
theorem dX3_open_24 : decode cX3_open 24 = .ok (.getfield 107, 3) := by decide +kernel
theorem dX3_open_27 : decode cX3_open 27 = .ok (.istore_n 1, 1) := by decide +kernel
theorem dX3_open_28 : decode cX3_open 28 = .ok (.aload_n 0, 1) := by decide +kernel
theorem dX3_open_29 : decode cX3_open 29 = .ok (.getfield 21, 3) := by decide +kernel
theorem dX3_open_32 : decode cX3_open 32 = .ok (.iconst 0, 1) := by decide +kernel
theorem dX3_open_33 : decode cX3_open 33 = .ok (.putfield 69, 3) := by decide +kernel
theorem dX3_open_36 : decode cX3_open 36 = .ok (.aload_n 0, 1) := by decide +kernel
theorem dX3_open_37 : decode cX3_open 37 = .ok (.getfield 21, 3) := by decide +kernel
theorem dX3_open_40 : decode cX3_open 40 = .ok (.iconst 0, 1) := by decide +kernel
theorem dX3_open_41 : decode cX3_open 41 = .ok (.putfield 107, 3) := by decide +kernel
theorem dX3_open_44 : decode cX3_open 44 = .ok (.iload_n 1, 1) := by decide +kernel
theorem dX3_open_45 : decode cX3_open 45 = .ok (.ireturn, 1) := by decide +kernel
theorem dX3_pump_0 : decode cX3_pump 0 = .ok (.iload_n 1, 1) := by decide +kernel
theorem dX3_pump_1 : decode cX3_pump 1 = .ok (.iconst 1, 1) := by decide +kernel
theorem dX3_pump_2 : decode cX3_pump 2 = .ok (.sipush 500, 3) := by decide +kernel
theorem dX3_pump_5 : decode cX3_pump 5 = .ok (.invokestatic 39, 3) := by decide +kernel
theorem dX3_pump_8 : decode cX3_pump 8 = .ok (.ifCond .eq 14, 3) := by decide +kernel
theorem dX3_pump_11 : decode cX3_pump 11 = .ok (.iload_n 2, 1) := by decide +kernel
theorem dX3_pump_12 : decode cX3_pump 12 = .ok (.iconst 0, 1) := by decide +kernel
theorem dX3_pump_13 : decode cX3_pump 13 = .ok (.sipush 300, 3) := by decide +kernel
theorem dX3_pump_16 : decode cX3_pump 16 = .ok (.invokestatic 39, 3) := by decide +kernel
theorem dX3_pump_19 : decode cX3_pump 19 = .ok (.ifCond .ne 13, 3) := by decide +kernel
theorem dX3_pump_22 : decode cX3_pump 22 = .ok (.new 50, 3) := by decide +kernel
theorem dX3_pump_25 : decode cX3_pump 25 = .ok (.dup, 1) := by decide +kernel
theorem dX3_pump_26 : decode cX3_pump 26 = .ok (.ldc 110, 2) := by decide +kernel
theorem dX3_pump_28 : decode cX3_pump 28 = .ok (.invokespecial 54, 3) := by decide +kernel
theorem dX3_pump_31 : decode cX3_pump 31 = .ok (.athrow, 1) := by decide +kernel
theorem dX3_pump_32 : decode cX3_pump 32 = .ok (.aload_n 0, 1) := by decide +kernel
theorem dX3_pump_33 : decode cX3_pump 33 = .ok (.getfield 21, 3) := by decide +kernel
theorem dX3_pump_36 : decode cX3_pump 36 = .ok (.getfield 69, 3) := by decide +kernel
theorem dX3_pump_39 : decode cX3_pump 39 = .ok (.ifCond .eq 21, 3) := by decide +kernel
theorem dX3_pump_42 : decode cX3_pump 42 = .ok (.aload_n 0, 1) := by decide +kernel
theorem dX3_pump_43 : decode cX3_pump 43 = .ok (.getfield 21, 3) := by decide +kernel
theorem dX3_pump_46 : decode cX3_pump 46 = .ok (.getfield 55, 3) := by decide +kernel
theorem dX3_pump_49 : decode cX3_pump 49 = .ok (.ifCond .eq 11, 3) := by decide +kernel
theorem dX3_pump_52 : decode cX3_pump 52 = .ok (.aload_n 0, 1) := by decide +kernel
theorem dX3_pump_53 : decode cX3_pump 53 = .ok (.iload_n 1, 1) := by decide +kernel
theorem dX3_pump_54 : decode cX3_pump 54 = .ok (.invokevirtual 87, 3) := by decide +kernel
theorem dX3_pump_57 : decode cX3_pump 57 = .ok (.ifCond .ne 13, 3) := by decide +kernel
theorem dX3_pump_60 : decode cX3_pump 60 = .ok (.new 58, 3) := by decide +kernel
theorem dX3_pump_63 : decode cX3_pump 63 = .ok (.dup, 1) := by decide +kernel
theorem dX3_pump_64 : decode cX3_pump 64 = .ok (.ldc 112, 2) := by decide +kernel
theorem dX3_pump_66 : decode cX3_pump 66 = .ok (.invokespecial 62, 3) := by decide +kernel
theorem dX3_pump_69 : decode cX3_pump 69 = .ok (.athrow, 1) := by decide +kernel
theorem dX3_pump_70 : decode cX3_pump 70 = .ok (.iload_n 2, 1) := by decide +kernel
theorem dX3_pump_71 : decode cX3_pump 71 = .ok (.aload_n 0, 1) := by decide +kernel
theorem dX3_pump_72 : decode cX3_pump 72 = .ok (.getfield 35, 3) := by decide +kernel
theorem dX3_pump_75 : decode cX3_pump 75 = .ok (.if_icmp .eq 8, 3) := by decide +kernel
theorem dX3_pump_78 : decode cX3_pump 78 = .ok (.aload_n 0, 1) := by decide +kernel
theorem dX3_pump_79 : decode cX3_pump 79 = .ok (.iconst 0, 1) := by decide +kernel
theorem dX3_pump_80 : decode cX3_pump 80 = .ok (.putfield 78, 3) := by decide +kernel
theorem dX3_pump_83 : decode cX3_pump 83 = .ok (.aload_n 0, 1) := by decide +kernel
theorem dX3_pump_84 : decode cX3_pump 84 = .ok (.iload_n 2, 1) := by decide +kernel
theorem dX3_pump_85 : decode cX3_pump 85 = .ok (.putfield 35, 3) := by decide +kernel
theorem dX3_pump_88 : decode cX3_pump 88 = .ok (.iconst 1, 1) := by decide +kernel
theorem dX3_pump_89 : decode cX3_pump 89 = .ok (.istore_n 3, 1) := by decide +kernel
theorem dX3_pump_90 : decode cX3_pump 90 = .ok (.iload_n 3, 1) := by decide +kernel
theorem dX3_pump_91 : decode cX3_pump 91 = .ok (.iload_n 1, 1) := by decide +kernel
theorem dX3_pump_92 : decode cX3_pump 92 = .ok (.if_icmp .gt 35, 3) := by decide +kernel
theorem dX3_pump_95 : decode cX3_pump 95 = .ok (.aload_n 0, 1) := by decide +kernel
theorem dX3_pump_96 : decode cX3_pump 96 = .ok (.getfield 21, 3) := by decide +kernel
theorem dX3_pump_99 : decode cX3_pump 99 = .ok (.iconst 1, 1) := by decide +kernel
theorem dX3_pump_100 : decode cX3_pump 100 = .ok (.invokevirtual 93, 3) := by decide +kernel
theorem dX3_pump_103 : decode cX3_pump 103 = .ok (.pop, 1) := by decide +kernel
theorem dX3_pump_104 : decode cX3_pump 104 = .ok (.aload_n 0, 1) := by decide +kernel
theorem dX3_pump_105 : decode cX3_pump 105 = .ok (.getfield 21, 3) := by decide +kernel
theorem dX3_pump_108 : decode cX3_pump 108 = .ok (.getfield 69, 3) := by decide +kernel
theorem dX3_pump_111 : decode cX3_pump 111 = .ok (.ifCond .ne 5, 3) := by decide +kernel
theorem dX3_pump_114 : decode cX3_pump 114 = .ok (.iload_n 3, 1) := by decide +kernel
theorem dX3_pump_115 : decode cX3_pump 115 = .ok (.ireturn, 1) := by decide +kernel
theorem dX3_pump_116 : decode cX3_pump 116 = .ok (.aload_n 0, 1) := by decide +kernel
theorem dX3_pump_117 : decode cX3_pump 117 = .ok (.iload_n 2, 1) := by decide +kernel
theorem dX3_pump_118 : decode cX3_pump 118 = .ok (.invokevirtual 114, 3) := by decide +kernel
theorem dX3_pump_121 : decode cX3_pump 121 = .ok (.iinc 3 1, 3) := by decide +kernel
theorem dX3_pump_124 : decode cX3_pump 124 = .ok (.goto (-34), 3) := by decide +kernel
theorem dX3_pump_127 : decode cX3_pump 127 = .ok (.iload_n 1, 1) := by decide +kernel
theorem dX3_pump_128 : decode cX3_pump 128 = .ok (.ireturn, 1) := by decide +kernel
theorem dX3_pumpOn_0 : decode cX3_pumpOn 0 = .ok (.aload_n 0, 1) := by decide +kernel
theorem dX3_pumpOn_1 : decode cX3_pumpOn 1 = .ok (.dup, 1) := by decide +kernel
theorem dX3_pumpOn_2 : decode cX3_pumpOn 2 = .ok (.getfield 78, 3) := by decide +kernel
theorem dX3_pumpOn_5 : decode cX3_pumpOn 5 = .ok (.bipush 20, 2) := by decide +kernel
theorem dX3_pumpOn_7 : decode cX3_pumpOn 7 = .ok (.iadd, 1) := by decide +kernel
theorem dX3_pumpOn_8 : decode cX3_pumpOn 8 = .ok (.putfield 78, 3) := by decide +kernel
theorem dX3_pumpOn_11 : decode cX3_pumpOn 11 = .ok (.aload_n 0, 1) := by decide +kernel
theorem dX3_pumpOn_12 : decode cX3_pumpOn 12 = .ok (.getfield 78, 3) := by decide +kernel
theorem dX3_pumpOn_15 : decode cX3_pumpOn 15 = .ok (.aload_n 0, 1) := by decide +kernel
theorem dX3_pumpOn_16 : decode cX3_pumpOn 16 = .ok (.getfield 21, 3) := by decide +kernel
theorem dX3_pumpOn_19 : decode cX3_pumpOn 19 = .ok (.getfield 55, 3) := by decide +kernel
theorem dX3_pumpOn_22 : decode cX3_pumpOn 22 = .ok (.if_icmp .lt 24, 3) := by decide +kernel
theorem dX3_pumpOn_25 : decode cX3_pumpOn 25 = .ok (.aload_n 0, 1) := by decide +kernel
theorem dX3_pumpOn_26 : decode cX3_pumpOn 26 = .ok (.getfield 21, 3) := by decide +kernel
theorem dX3_pumpOn_29 : decode cX3_pumpOn 29 = .ok (.iload_n 1, 1) := by decide +kernel
theorem dX3_pumpOn_30 : decode cX3_pumpOn 30 = .ok (.putfield 75, 3) := by decide +kernel
theorem dX3_pumpOn_33 : decode cX3_pumpOn 33 = .ok (.aload_n 0, 1) := by decide +kernel
theorem dX3_pumpOn_34 : decode cX3_pumpOn 34 = .ok (.getfield 21, 3) := by decide +kernel
theorem dX3_pumpOn_37 : decode cX3_pumpOn 37 = .ok (.iconst 0, 1) := by decide +kernel
theorem dX3_pumpOn_38 : decode cX3_pumpOn 38 = .ok (.putfield 118, 3) := by decide +kernel
theorem dX3_pumpOn_41 : decode cX3_pumpOn 41 = .ok (.aload_n 0, 1) := by decide +kernel
theorem dX3_pumpOn_42 : decode cX3_pumpOn 42 = .ok (.iconst 0, 1) := by decide +kernel
theorem dX3_pumpOn_43 : decode cX3_pumpOn 43 = .ok (.putfield 78, 3) := by decide +kernel
theorem dX3_pumpOn_46 : decode cX3_pumpOn 46 = .ok (.return_, 1) := by decide +kernel
theorem dX3_casing_0 : decode cX3_casing 0 = .ok (.iload_n 1, 1) := by decide +kernel
theorem dX3_casing_1 : decode cX3_casing 1 = .ok (.iconst 0, 1) := by decide +kernel
theorem dX3_casing_2 : decode cX3_casing 2 = .ok (.sipush 1000, 3) := by decide +kernel
theorem dX3_casing_5 : decode cX3_casing 5 = .ok (.invokestatic 39, 3) := by decide +kernel
theorem dX3_casing_8 : decode cX3_casing 8 = .ok (.ifCond .ne 13, 3) := by decide +kernel
theorem dX3_casing_11 : decode cX3_casing 11 = .ok (.new 50, 3) := by decide +kernel
theorem dX3_casing_14 : decode cX3_casing 14 = .ok (.dup, 1) := by decide +kernel
theorem dX3_casing_15 : decode cX3_casing 15 = .ok (.ldc 121, 2) := by decide +kernel
theorem dX3_casing_17 : decode cX3_casing 17 = .ok (.invokespecial 54, 3) := by decide +kernel
theorem dX3_casing_20 : decode cX3_casing 20 = .ok (.athrow, 1) := by decide +kernel
theorem dX3_casing_21 : decode cX3_casing 21 = .ok (.aload_n 0, 1) := by decide +kernel
theorem dX3_casing_22 : decode cX3_casing 22 = .ok (.getfield 21, 3) := by decide +kernel
theorem dX3_casing_25 : decode cX3_casing 25 = .ok (.getfield 55, 3) := by decide +kernel
theorem dX3_casing_28 : decode cX3_casing 28 = .ok (.aload_n 0, 1) := by decide +kernel
theorem dX3_casing_29 : decode cX3_casing 29 = .ok (.getfield 21, 3) := by decide +kernel
theorem dX3_casing_32 : decode cX3_casing 32 = .ok (.getfield 123, 3) := by decide +kernel
theorem dX3_casing_35 : decode cX3_casing 35 = .ok (.isub, 1) := by decide +kernel
theorem dX3_casing_36 : decode cX3_casing 36 = .ok (.istore_n 2, 1) := by decide +kernel
theorem dX3_casing_37 : decode cX3_casing 37 = .ok (.iload_n 2, 1) := by decide +kernel
theorem dX3_casing_38 : decode cX3_casing 38 = .ok (.ifCond .le 13, 3) := by decide +kernel
theorem dX3_casing_41 : decode cX3_casing 41 = .ok (.aload_n 0, 1) := by decide +kernel
theorem dX3_casing_42 : decode cX3_casing 42 = .ok (.getfield 21, 3) := by decide +kernel
theorem dX3_casing_45 : decode cX3_casing 45 = .ok (.invokevirtual 126, 3) := by decide +kernel
theorem dX3_casing_48 : decode cX3_casing 48 = .ok (.ifCond .eq 13, 3) := by decide +kernel
theorem dX3_casing_51 : decode cX3_casing 51 = .ok (.new 58, 3) := by decide +kernel
theorem dX3_casing_54 : decode cX3_casing 54 = .ok (.dup, 1) := by decide +kernel
theorem dX3_casing_55 : decode cX3_casing 55 = .ok (.ldc 130, 2) := by decide +kernel
theorem dX3_casing_57 : decode cX3_casing 57 = .ok (.invokespecial 62, 3) := by decide +kernel
theorem dX3_casing_60 : decode cX3_casing 60 = .ok (.athrow, 1) := by decide +kernel
theorem dX3_casing_61 : decode cX3_casing 61 = .ok (.aload_n 0, 1) := by decide +kernel
theorem dX3_casing_62 : decode cX3_casing 62 = .ok (.sipush 1000, 3) := by decide +kernel
theorem dX3_casing_65 : decode cX3_casing 65 = .ok (.iload_n 1, 1) := by decide +kernel
theorem dX3_casing_66 : decode cX3_casing 66 = .ok (.imul, 1) := by decide +kernel
theorem dX3_casing_67 : decode cX3_casing 67 = .ok (.iload_n 2, 1) := by decide +kernel
theorem dX3_casing_68 : decode cX3_casing 68 = .ok (.idiv, 1) := by decide +kernel
theorem dX3_casing_69 : decode cX3_casing 69 = .ok (.putfield 132, 3) := by decide +kernel
theorem dX3_casing_72 : decode cX3_casing 72 = .ok (.aload_n 0, 1) := by decide +kernel
theorem dX3_casing_73 : decode cX3_casing 73 = .ok (.getfield 21, 3) := by decide +kernel
theorem dX3_casing_76 : decode cX3_casing 76 = .ok (.aload_n 0, 1) := by decide +kernel
theorem dX3_casing_77 : decode cX3_casing 77 = .ok (.getfield 21, 3) := by decide +kernel
theorem dX3_casing_80 : decode cX3_casing 80 = .ok (.getfield 55, 3) := by decide +kernel
theorem dX3_casing_83 : decode cX3_casing 83 = .ok (.putfield 123, 3) := by decide +kernel
theorem dX3_casing_86 : decode cX3_casing 86 = .ok (.aload_n 0, 1) := by decide +kernel
theorem dX3_casing_87 : decode cX3_casing 87 = .ok (.getfield 31, 3) := by decide +kernel
theorem dX3_casing_90 : decode cX3_casing 90 = .ok (.iconst (-1), 1) := by decide +kernel
theorem dX3_casing_91 : decode cX3_casing 91 = .ok (.putfield 135, 3) := by decide +kernel
theorem dX3_casing_94 : decode cX3_casing 94 = .ok (.aload_n 0, 1) := by decide +kernel
theorem dX3_casing_95 : decode cX3_casing 95 = .ok (.getfield 132, 3) := by decide +kernel
theorem dX3_casing_98 : decode cX3_casing 98 = .ok (.ireturn, 1) := by decide +kernel
theorem dX3_strength_0 : decode cX3_strength 0 = .ok (.iload_n 1, 1) := by decide +kernel
theorem dX3_strength_1 : decode cX3_strength 1 = .ok (.iconst 0, 1) := by decide +kernel
theorem dX3_strength_2 : decode cX3_strength 2 = .ok (.ldc 138, 2) := by decide +kernel
theorem dX3_strength_4 : decode cX3_strength 4 = .ok (.invokestatic 39, 3) := by decide +kernel
theorem dX3_strength_7 : decode cX3_strength 7 = .ok (.ifCond .ne 13, 3) := by decide +kernel
theorem dX3_strength_10 : decode cX3_strength 10 = .ok (.new 50, 3) := by decide +kernel
theorem dX3_strength_13 : decode cX3_strength 13 = .ok (.dup, 1) := by decide +kernel
theorem dX3_strength_14 : decode cX3_strength 14 = .ok (.ldc 139, 2) := by decide +kernel
theorem dX3_strength_16 : decode cX3_strength 16 = .ok (.invokespecial 54, 3) := by decide +kernel
theorem dX3_strength_19 : decode cX3_strength 19 = .ok (.athrow, 1) := by decide +kernel
theorem dX3_strength_20 : decode cX3_strength 20 = .ok (.aload_n 0, 1) := by decide +kernel
theorem dX3_strength_21 : decode cX3_strength 21 = .ok (.getfield 21, 3) := by decide +kernel
theorem dX3_strength_24 : decode cX3_strength 24 = .ok (.getfield 141, 3) := by decide +kernel
theorem dX3_strength_27 : decode cX3_strength 27 = .ok (.istore_n 2, 1) := by decide +kernel
theorem dX3_strength_28 : decode cX3_strength 28 = .ok (.aload_n 0, 1) := by decide +kernel
theorem dX3_strength_29 : decode cX3_strength 29 = .ok (.getfield 21, 3) := by decide +kernel
theorem dX3_strength_32 : decode cX3_strength 32 = .ok (.iload_n 1, 1) := by decide +kernel
theorem dX3_strength_33 : decode cX3_strength 33 = .ok (.putfield 141, 3) := by decide +kernel
theorem dX3_strength_36 : decode cX3_strength 36 = .ok (.iload_n 2, 1) := by decide +kernel
theorem dX3_strength_37 : decode cX3_strength 37 = .ok (.ireturn, 1) := by decide +kernel
theorem dX3_test_0 : decode cX3_test 0 = .ok (.iload_n 1, 1) := by decide +kernel
theorem dX3_test_1 : decode cX3_test 1 = .ok (.iconst 0, 1) := by decide +kernel
theorem dX3_test_2 : decode cX3_test 2 = .ok (.iconst 1, 1) := by decide +kernel
theorem dX3_test_3 : decode cX3_test 3 = .ok (.invokestatic 39, 3) := by decide +kernel
theorem dX3_test_6 : decode cX3_test 6 = .ok (.ifCond .eq 15, 3) := by decide +kernel
theorem dX3_test_9 : decode cX3_test 9 = .ok (.iload_n 2, 1) := by decide +kernel
theorem dX3_test_10 : decode cX3_test 10 = .ok (.sipush 1000, 3) := by decide +kernel
theorem dX3_test_13 : decode cX3_test 13 = .ok (.ldc 138, 2) := by decide +kernel
theorem dX3_test_15 : decode cX3_test 15 = .ok (.invokestatic 39, 3) := by decide +kernel
theorem dX3_test_18 : decode cX3_test 18 = .ok (.ifCond .ne 13, 3) := by decide +kernel
theorem dX3_test_21 : decode cX3_test 21 = .ok (.new 50, 3) := by decide +kernel
theorem dX3_test_24 : decode cX3_test 24 = .ok (.dup, 1) := by decide +kernel
theorem dX3_test_25 : decode cX3_test 25 = .ok (.ldc 144, 2) := by decide +kernel
theorem dX3_test_27 : decode cX3_test 27 = .ok (.invokespecial 54, 3) := by decide +kernel
theorem dX3_test_30 : decode cX3_test 30 = .ok (.athrow, 1) := by decide +kernel
theorem dX3_test_31 : decode cX3_test 31 = .ok (.aload_n 0, 1) := by decide +kernel
theorem dX3_test_32 : decode cX3_test 32 = .ok (.getfield 21, 3) := by decide +kernel
theorem dX3_test_35 : decode cX3_test 35 = .ok (.getfield 69, 3) := by decide +kernel
theorem dX3_test_38 : decode cX3_test 38 = .ok (.ifCond .ne 30, 3) := by decide +kernel
theorem dX3_test_41 : decode cX3_test 41 = .ok (.aload_n 0, 1) := by decide +kernel
theorem dX3_test_42 : decode cX3_test 42 = .ok (.getfield 31, 3) := by decide +kernel
theorem dX3_test_45 : decode cX3_test 45 = .ok (.getfield 146, 3) := by decide +kernel
theorem dX3_test_48 : decode cX3_test 48 = .ok (.bipush 60, 2) := by decide +kernel
theorem dX3_test_50 : decode cX3_test 50 = .ok (.if_icmp .ge 18, 3) := by decide +kernel
theorem dX3_test_53 : decode cX3_test 53 = .ok (.iload_n 1, 1) := by decide +kernel
theorem dX3_test_54 : decode cX3_test 54 = .ok (.iconst 1, 1) := by decide +kernel
theorem dX3_test_55 : decode cX3_test 55 = .ok (.if_icmp .ne 23, 3) := by decide +kernel
theorem dX3_test_58 : decode cX3_test 58 = .ok (.aload_n 0, 1) := by decide +kernel
theorem dX3_test_59 : decode cX3_test 59 = .ok (.getfield 21, 3) := by decide +kernel
theorem dX3_test_62 : decode cX3_test 62 = .ok (.getfield 123, 3) := by decide +kernel
theorem dX3_test_65 : decode cX3_test 65 = .ok (.ifCond .ne 13, 3) := by decide +kernel
theorem dX3_test_68 : decode cX3_test 68 = .ok (.new 58, 3) := by decide +kernel
theorem dX3_test_71 : decode cX3_test 71 = .ok (.dup, 1) := by decide +kernel
theorem dX3_test_72 : decode cX3_test 72 = .ok (.ldc 149, 2) := by decide +kernel
theorem dX3_test_74 : decode cX3_test 74 = .ok (.invokespecial 62, 3) := by decide +kernel
theorem dX3_test_77 : decode cX3_test 77 = .ok (.athrow, 1) := by decide +kernel
theorem dX3_test_78 : decode cX3_test 78 = .ok (.iload_n 2, 1) := by decide +kernel
theorem dX3_test_79 : decode cX3_test 79 = .ok (.iload_n 1, 1) := by decide +kernel
theorem dX3_test_80 : decode cX3_test 80 = .ok (.ifCond .ne 13, 3) := by decide +kernel
theorem dX3_test_83 : decode cX3_test 83 = .ok (.aload_n 0, 1) := by decide +kernel
theorem dX3_test_84 : decode cX3_test 84 = .ok (.getfield 21, 3) := by decide +kernel
theorem dX3_test_87 : decode cX3_test 87 = .ok (.getfield 141, 3) := by decide +kernel
theorem dX3_test_90 : decode cX3_test 90 = .ok (.goto 7, 3) := by decide +kernel
theorem dX3_test_93 : decode cX3_test 93 = .ok (.aload_n 0, 1) := by decide +kernel
theorem dX3_test_94 : decode cX3_test 94 = .ok (.getfield 132, 3) := by decide +kernel
theorem dX3_test_97 : decode cX3_test 97 = .ok (.if_icmp .gt 7, 3) := by decide +kernel
theorem dX3_test_100 : decode cX3_test 100 = .ok (.iconst 1, 1) := by decide +kernel
theorem dX3_test_101 : decode cX3_test 101 = .ok (.goto 4, 3) := by decide +kernel
theorem dX3_test_104 : decode cX3_test 104 = .ok (.iconst 0, 1) := by decide +kernel
theorem dX3_test_105 : decode cX3_test 105 = .ok (.istore_n 3, 1) := by decide +kernel
theorem dX3_test_106 : decode cX3_test 106 = .ok (.aload_n 0, 1) := by decide +kernel
theorem dX3_test_107 : decode cX3_test 107 = .ok (.getfield 31, 3) := by decide +kernel
theorem dX3_test_110 : decode cX3_test 110 = .ok (.iload_n 1, 1) := by decide +kernel
theorem dX3_test_111 : decode cX3_test 111 = .ok (.iload_n 2, 1) := by decide +kernel
theorem dX3_test_112 : decode cX3_test 112 = .ok (.iload_n 3, 1) := by decide +kernel
theorem dX3_test_113 : decode cX3_test 113 = .ok (.aload_n 0, 1) := by decide +kernel
theorem dX3_test_114 : decode cX3_test 114 = .ok (.getfield 21, 3) := by decide +kernel
theorem dX3_test_117 : decode cX3_test 117 = .ok (.getfield 151, 3) := by decide +kernel
theorem dX3_test_120 : decode cX3_test 120 = .ok (.invokevirtual 154, 3) := by decide +kernel
theorem dX3_test_123 : decode cX3_test 123 = .ok (.iload_n 1, 1) := by decide +kernel
theorem dX3_test_124 : decode cX3_test 124 = .ok (.ifCond .ne 11, 3) := by decide +kernel
theorem dX3_test_127 : decode cX3_test 127 = .ok (.aload_n 0, 1) := by decide +kernel
theorem dX3_test_128 : decode cX3_test 128 = .ok (.getfield 21, 3) := by decide +kernel
theorem dX3_test_131 : decode cX3_test 131 = .ok (.iconst 0, 1) := by decide +kernel
theorem dX3_test_132 : decode cX3_test 132 = .ok (.putfield 158, 3) := by decide +kernel
theorem dX3_test_135 : decode cX3_test 135 = .ok (.iload_n 3, 1) := by decide +kernel
theorem dX3_test_136 : decode cX3_test 136 = .ok (.ireturn, 1) := by decide +kernel
theorem dX3_stop_0 : decode cX3_stop 0 = .ok (.iload_n 1, 1) := by decide +kernel
theorem dX3_stop_1 : decode cX3_stop 1 = .ok (.iconst 0, 1) := by decide +kernel
theorem dX3_stop_2 : decode cX3_stop 2 = .ok (.iconst 5, 1) := by decide +kernel
theorem dX3_stop_3 : decode cX3_stop 3 = .ok (.invokestatic 39, 3) := by decide +kernel
theorem dX3_stop_6 : decode cX3_stop 6 = .ok (.ifCond .ne 13, 3) := by decide +kernel
theorem dX3_stop_9 : decode cX3_stop 9 = .ok (.new 43, 3) := by decide +kernel
theorem dX3_stop_12 : decode cX3_stop 12 = .ok (.dup, 1) := by decide +kernel
theorem dX3_stop_13 : decode cX3_stop 13 = .ok (.ldc 161, 2) := by decide +kernel
theorem dX3_stop_15 : decode cX3_stop 15 = .ok (.invokespecial 47, 3) := by decide +kernel
theorem dX3_stop_18 : decode cX3_stop 18 = .ok (.athrow, 1) := by decide +kernel
theorem dX3_stop_19 : decode cX3_stop 19 = .ok (.iconst 1, 1) := by decide +kernel
theorem dX3_stop_20 : decode cX3_stop 20 = .ok (.iload_n 1, 1) := by decide +kernel
theorem dX3_stop_21 : decode cX3_stop 21 = .ok (.ishl, 1) := by decide +kernel
theorem dX3_stop_22 : decode cX3_stop 22 = .ok (.istore_n 3, 1) := by decide +kernel
theorem dX3_stop_23 : decode cX3_stop 23 = .ok (.aload_n 0, 1) := by decide +kernel
theorem dX3_stop_24 : decode cX3_stop 24 = .ok (.iload_n 2, 1) := by decide +kernel
theorem dX3_stop_25 : decode cX3_stop 25 = .ok (.ifCond .eq 12, 3) := by decide +kernel
theorem dX3_stop_28 : decode cX3_stop 28 = .ok (.aload_n 0, 1) := by decide +kernel
theorem dX3_stop_29 : decode cX3_stop 29 = .ok (.getfield 163, 3) := by decide +kernel
theorem dX3_stop_32 : decode cX3_stop 32 = .ok (.iload_n 3, 1) := by decide +kernel
theorem dX3_stop_33 : decode cX3_stop 33 = .ok (.ior, 1) := by decide +kernel
theorem dX3_stop_34 : decode cX3_stop 34 = .ok (.goto 11, 3) := by decide +kernel
theorem dX3_stop_37 : decode cX3_stop 37 = .ok (.aload_n 0, 1) := by decide +kernel
theorem dX3_stop_38 : decode cX3_stop 38 = .ok (.getfield 163, 3) := by decide +kernel
theorem dX3_stop_41 : decode cX3_stop 41 = .ok (.iload_n 3, 1) := by decide +kernel
theorem dX3_stop_42 : decode cX3_stop 42 = .ok (.iconst (-1), 1) := by decide +kernel
theorem dX3_stop_43 : decode cX3_stop 43 = .ok (.ixor, 1) := by decide +kernel
theorem dX3_stop_44 : decode cX3_stop 44 = .ok (.iand, 1) := by decide +kernel
theorem dX3_stop_45 : decode cX3_stop 45 = .ok (.putfield 163, 3) := by decide +kernel
theorem dX3_stop_48 : decode cX3_stop 48 = .ok (.aload_n 0, 1) := by decide +kernel
theorem dX3_stop_49 : decode cX3_stop 49 = .ok (.getfield 163, 3) := by decide +kernel
theorem dX3_stop_52 : decode cX3_stop 52 = .ok (.invokestatic 166, 3) := by decide +kernel
theorem dX3_stop_55 : decode cX3_stop 55 = .ok (.ireturn, 1) := by decide +kernel
theorem dX3_pressure_0 : decode cX3_pressure 0 = .ok (.iload_n 1, 1) := by decide +kernel
theorem dX3_pressure_1 : decode cX3_pressure 1 = .ok (.tableswitch 115 0 5 #[39, 47, 62, 70, 85, 93], 39) := by decide +kernel
theorem dX3_pressure_40 : decode cX3_pressure 40 = .ok (.aload_n 0, 1) := by decide +kernel
theorem dX3_pressure_41 : decode cX3_pressure 41 = .ok (.getfield 21, 3) := by decide +kernel
theorem dX3_pressure_44 : decode cX3_pressure 44 = .ok (.invokevirtual 171, 3) := by decide +kernel
theorem dX3_pressure_47 : decode cX3_pressure 47 = .ok (.ireturn, 1) := by decide +kernel
theorem dX3_pressure_48 : decode cX3_pressure 48 = .ok (.aload_n 0, 1) := by decide +kernel
theorem dX3_pressure_49 : decode cX3_pressure 49 = .ok (.getfield 10, 3) := by decide +kernel
theorem dX3_pressure_52 : decode cX3_pressure 52 = .ok (.aload_n 0, 1) := by decide +kernel
theorem dX3_pressure_53 : decode cX3_pressure 53 = .ok (.getfield 21, 3) := by decide +kernel
theorem dX3_pressure_56 : decode cX3_pressure 56 = .ok (.getfield 55, 3) := by decide +kernel
theorem dX3_pressure_59 : decode cX3_pressure 59 = .ok (.invokevirtual 174, 3) := by decide +kernel
theorem dX3_pressure_62 : decode cX3_pressure 62 = .ok (.ireturn, 1) := by decide +kernel
theorem dX3_pressure_63 : decode cX3_pressure 63 = .ok (.aload_n 0, 1) := by decide +kernel
theorem dX3_pressure_64 : decode cX3_pressure 64 = .ok (.getfield 21, 3) := by decide +kernel
theorem dX3_pressure_67 : decode cX3_pressure 67 = .ok (.invokevirtual 177, 3) := by decide +kernel
theorem dX3_pressure_70 : decode cX3_pressure 70 = .ok (.ireturn, 1) := by decide +kernel
theorem dX3_pressure_71 : decode cX3_pressure 71 = .ok (.aload_n 0, 1) := by decide +kernel
theorem dX3_pressure_72 : decode cX3_pressure 72 = .ok (.getfield 10, 3) := by decide +kernel
theorem dX3_pressure_75 : decode cX3_pressure 75 = .ok (.aload_n 0, 1) := by decide +kernel
theorem dX3_pressure_76 : decode cX3_pressure 76 = .ok (.getfield 21, 3) := by decide +kernel
theorem dX3_pressure_79 : decode cX3_pressure 79 = .ok (.getfield 123, 3) := by decide +kernel
theorem dX3_pressure_82 : decode cX3_pressure 82 = .ok (.invokevirtual 180, 3) := by decide +kernel
theorem dX3_pressure_85 : decode cX3_pressure 85 = .ok (.ireturn, 1) := by decide +kernel
theorem dX3_pressure_86 : decode cX3_pressure 86 = .ok (.aload_n 0, 1) := by decide +kernel
theorem dX3_pressure_87 : decode cX3_pressure 87 = .ok (.getfield 21, 3) := by decide +kernel
theorem dX3_pressure_90 : decode cX3_pressure 90 = .ok (.getfield 107, 3) := by decide +kernel
theorem dX3_pressure_93 : decode cX3_pressure 93 = .ok (.ireturn, 1) := by decide +kernel
theorem dX3_pressure_94 : decode cX3_pressure 94 = .ok (.aload_n 0, 1) := by decide +kernel
theorem dX3_pressure_95 : decode cX3_pressure 95 = .ok (.getfield 21, 3) := by decide +kernel
theorem dX3_pressure_98 : decode cX3_pressure 98 = .ok (.invokevirtual 183, 3) := by decide +kernel
theorem dX3_pressure_101 : decode cX3_pressure 101 = .ok (.ifCond .eq 13, 3) := by decide +kernel
theorem dX3_pressure_104 : decode cX3_pressure 104 = .ok (.aload_n 0, 1) := by decide +kernel
theorem dX3_pressure_105 : decode cX3_pressure 105 = .ok (.getfield 21, 3) := by decide +kernel
theorem dX3_pressure_108 : decode cX3_pressure 108 = .ok (.invokevirtual 186, 3) := by decide +kernel
theorem dX3_pressure_111 : decode cX3_pressure 111 = .ok (.goto 4, 3) := by decide +kernel
theorem dX3_pressure_114 : decode cX3_pressure 114 = .ok (.iconst 0, 1) := by decide +kernel
theorem dX3_pressure_115 : decode cX3_pressure 115 = .ok (.ireturn, 1) := by decide +kernel
theorem dX3_pressure_116 : decode cX3_pressure 116 = .ok (.new 50, 3) := by decide +kernel
theorem dX3_pressure_119 : decode cX3_pressure 119 = .ok (.dup, 1) := by decide +kernel
theorem dX3_pressure_120 : decode cX3_pressure 120 = .ok (.ldc 189, 2) := by decide +kernel
theorem dX3_pressure_122 : decode cX3_pressure 122 = .ok (.invokespecial 54, 3) := by decide +kernel
theorem dX3_pressure_125 : decode cX3_pressure 125 = .ok (.athrow, 1) := by decide +kernel
theorem dX3_of_0 : decode cX3_of 0 = .ok (.iload_n 1, 1) := by decide +kernel
theorem dX3_of_1 : decode cX3_of 1 = .ok (.tableswitch 187 0 11 #[63, 72, 81, 90, 106, 115, 124, 149, 158, 166, 175, 181], 63) := by decide +kernel
theorem dX3_of_64 : decode cX3_of 64 = .ok (.aload_n 0, 1) := by decide +kernel
theorem dX3_of_65 : decode cX3_of 65 = .ok (.getfield 21, 3) := by decide +kernel
theorem dX3_of_68 : decode cX3_of 68 = .ok (.getfield 55, 3) := by decide +kernel
theorem dX3_of_71 : decode cX3_of 71 = .ok (.i2l, 1) := by decide +kernel
theorem dX3_of_72 : decode cX3_of 72 = .ok (.lreturn, 1) := by decide +kernel
theorem dX3_of_73 : decode cX3_of 73 = .ok (.aload_n 0, 1) := by decide +kernel
theorem dX3_of_74 : decode cX3_of 74 = .ok (.getfield 21, 3) := by decide +kernel
theorem dX3_of_77 : decode cX3_of 77 = .ok (.getfield 123, 3) := by decide +kernel
theorem dX3_of_80 : decode cX3_of 80 = .ok (.i2l, 1) := by decide +kernel
theorem dX3_of_81 : decode cX3_of 81 = .ok (.lreturn, 1) := by decide +kernel
theorem dX3_of_82 : decode cX3_of 82 = .ok (.aload_n 0, 1) := by decide +kernel
theorem dX3_of_83 : decode cX3_of 83 = .ok (.getfield 21, 3) := by decide +kernel
theorem dX3_of_86 : decode cX3_of 86 = .ok (.getfield 75, 3) := by decide +kernel
theorem dX3_of_89 : decode cX3_of 89 = .ok (.i2l, 1) := by decide +kernel
theorem dX3_of_90 : decode cX3_of 90 = .ok (.lreturn, 1) := by decide +kernel
theorem dX3_of_91 : decode cX3_of 91 = .ok (.aload_n 0, 1) := by decide +kernel
theorem dX3_of_92 : decode cX3_of 92 = .ok (.getfield 21, 3) := by decide +kernel
theorem dX3_of_95 : decode cX3_of 95 = .ok (.getfield 69, 3) := by decide +kernel
theorem dX3_of_98 : decode cX3_of 98 = .ok (.ifCond .eq 7, 3) := by decide +kernel
theorem dX3_of_101 : decode cX3_of 101 = .ok (.lconst 1, 1) := by decide +kernel
theorem dX3_of_102 : decode cX3_of 102 = .ok (.goto 4, 3) := by decide +kernel
theorem dX3_of_105 : decode cX3_of 105 = .ok (.lconst 0, 1) := by decide +kernel
theorem dX3_of_106 : decode cX3_of 106 = .ok (.lreturn, 1) := by decide +kernel
theorem dX3_of_107 : decode cX3_of 107 = .ok (.aload_n 0, 1) := by decide +kernel
theorem dX3_of_108 : decode cX3_of 108 = .ok (.getfield 21, 3) := by decide +kernel
theorem dX3_of_111 : decode cX3_of 111 = .ok (.getfield 151, 3) := by decide +kernel
theorem dX3_of_114 : decode cX3_of 114 = .ok (.i2l, 1) := by decide +kernel
theorem dX3_of_115 : decode cX3_of 115 = .ok (.lreturn, 1) := by decide +kernel
theorem dX3_of_116 : decode cX3_of 116 = .ok (.aload_n 0, 1) := by decide +kernel
theorem dX3_of_117 : decode cX3_of 117 = .ok (.getfield 21, 3) := by decide +kernel
theorem dX3_of_120 : decode cX3_of 120 = .ok (.getfield 191, 3) := by decide +kernel
theorem dX3_of_123 : decode cX3_of 123 = .ok (.i2l, 1) := by decide +kernel
theorem dX3_of_124 : decode cX3_of 124 = .ok (.lreturn, 1) := by decide +kernel
theorem dX3_of_125 : decode cX3_of 125 = .ok (.aload_n 0, 1) := by decide +kernel
theorem dX3_of_126 : decode cX3_of 126 = .ok (.getfield 21, 3) := by decide +kernel
theorem dX3_of_129 : decode cX3_of 129 = .ok (.invokevirtual 183, 3) := by decide +kernel
theorem dX3_of_132 : decode cX3_of 132 = .ok (.ifCond .eq 14, 3) := by decide +kernel
theorem dX3_of_135 : decode cX3_of 135 = .ok (.aload_n 0, 1) := by decide +kernel
theorem dX3_of_136 : decode cX3_of 136 = .ok (.getfield 21, 3) := by decide +kernel
theorem dX3_of_139 : decode cX3_of 139 = .ok (.getfield 194, 3) := by decide +kernel
theorem dX3_of_142 : decode cX3_of 142 = .ok (.i2l, 1) := by decide +kernel
theorem dX3_of_143 : decode cX3_of 143 = .ok (.goto 6, 3) := by decide +kernel
theorem dX3_of_146 : decode cX3_of 146 = .ok (.ldc2_w 197, 3) := by decide +kernel
theorem dX3_of_149 : decode cX3_of 149 = .ok (.lreturn, 1) := by decide +kernel
theorem dX3_of_150 : decode cX3_of 150 = .ok (.aload_n 0, 1) := by decide +kernel
theorem dX3_of_151 : decode cX3_of 151 = .ok (.getfield 21, 3) := by decide +kernel
theorem dX3_of_154 : decode cX3_of 154 = .ok (.getfield 118, 3) := by decide +kernel
theorem dX3_of_157 : decode cX3_of 157 = .ok (.i2l, 1) := by decide +kernel
theorem dX3_of_158 : decode cX3_of 158 = .ok (.lreturn, 1) := by decide +kernel
theorem dX3_of_159 : decode cX3_of 159 = .ok (.aload_n 0, 1) := by decide +kernel
theorem dX3_of_160 : decode cX3_of 160 = .ok (.getfield 21, 3) := by decide +kernel
theorem dX3_of_163 : decode cX3_of 163 = .ok (.getfield 199, 3) := by decide +kernel
theorem dX3_of_166 : decode cX3_of 166 = .ok (.lreturn, 1) := by decide +kernel
theorem dX3_of_167 : decode cX3_of 167 = .ok (.aload_n 0, 1) := by decide +kernel
theorem dX3_of_168 : decode cX3_of 168 = .ok (.getfield 21, 3) := by decide +kernel
theorem dX3_of_171 : decode cX3_of 171 = .ok (.getfield 203, 3) := by decide +kernel
theorem dX3_of_174 : decode cX3_of 174 = .ok (.i2l, 1) := by decide +kernel
theorem dX3_of_175 : decode cX3_of 175 = .ok (.lreturn, 1) := by decide +kernel
theorem dX3_of_176 : decode cX3_of 176 = .ok (.aload_n 0, 1) := by decide +kernel
theorem dX3_of_177 : decode cX3_of 177 = .ok (.getfield 78, 3) := by decide +kernel
theorem dX3_of_180 : decode cX3_of 180 = .ok (.i2l, 1) := by decide +kernel
theorem dX3_of_181 : decode cX3_of 181 = .ok (.lreturn, 1) := by decide +kernel
theorem dX3_of_182 : decode cX3_of 182 = .ok (.aload_n 0, 1) := by decide +kernel
theorem dX3_of_183 : decode cX3_of 183 = .ok (.getfield 132, 3) := by decide +kernel
theorem dX3_of_186 : decode cX3_of 186 = .ok (.i2l, 1) := by decide +kernel
theorem dX3_of_187 : decode cX3_of 187 = .ok (.lreturn, 1) := by decide +kernel
theorem dX3_of_188 : decode cX3_of 188 = .ok (.new 50, 3) := by decide +kernel
theorem dX3_of_191 : decode cX3_of 191 = .ok (.dup, 1) := by decide +kernel
theorem dX3_of_192 : decode cX3_of 192 = .ok (.ldc 189, 2) := by decide +kernel
theorem dX3_of_194 : decode cX3_of 194 = .ok (.invokespecial 54, 3) := by decide +kernel
theorem dX3_of_197 : decode cX3_of 197 = .ok (.athrow, 1) := by decide +kernel
theorem dX3_barriers_0 : decode cX3_barriers 0 = .ok (.aload_n 0, 1) := by decide +kernel
theorem dX3_barriers_1 : decode cX3_barriers 1 = .ok (.invokevirtual 206, 3) := by decide +kernel
theorem dX3_barriers_4 : decode cX3_barriers 4 = .ok (.ifCond .eq 7, 3) := by decide +kernel
theorem dX3_barriers_7 : decode cX3_barriers 7 = .ok (.iconst 1, 1) := by decide +kernel
theorem dX3_barriers_8 : decode cX3_barriers 8 = .ok (.goto 4, 3) := by decide +kernel
theorem dX3_barriers_11 : decode cX3_barriers 11 = .ok (.iconst 0, 1) := by decide +kernel
theorem dX3_barriers_12 : decode cX3_barriers 12 = .ok (.aload_n 0, 1) := by decide +kernel
theorem dX3_barriers_13 : decode cX3_barriers 13 = .ok (.invokevirtual 209, 3) := by decide +kernel
theorem dX3_barriers_16 : decode cX3_barriers 16 = .ok (.ifCond .eq 7, 3) := by decide +kernel
theorem dX3_barriers_19 : decode cX3_barriers 19 = .ok (.iconst 2, 1) := by decide +kernel
theorem dX3_barriers_20 : decode cX3_barriers 20 = .ok (.goto 4, 3) := by decide +kernel
theorem dX3_barriers_23 : decode cX3_barriers 23 = .ok (.iconst 0, 1) := by decide +kernel
theorem dX3_barriers_24 : decode cX3_barriers 24 = .ok (.iadd, 1) := by decide +kernel
theorem dX3_barriers_25 : decode cX3_barriers 25 = .ok (.aload_n 0, 1) := by decide +kernel
theorem dX3_barriers_26 : decode cX3_barriers 26 = .ok (.invokevirtual 212, 3) := by decide +kernel
theorem dX3_barriers_29 : decode cX3_barriers 29 = .ok (.ifCond .eq 7, 3) := by decide +kernel
theorem dX3_barriers_32 : decode cX3_barriers 32 = .ok (.iconst 4, 1) := by decide +kernel
theorem dX3_barriers_33 : decode cX3_barriers 33 = .ok (.goto 4, 3) := by decide +kernel
theorem dX3_barriers_36 : decode cX3_barriers 36 = .ok (.iconst 0, 1) := by decide +kernel
theorem dX3_barriers_37 : decode cX3_barriers 37 = .ok (.iadd, 1) := by decide +kernel
theorem dX3_barriers_38 : decode cX3_barriers 38 = .ok (.ireturn, 1) := by decide +kernel
theorem dX3_bars_0 : decode cX3_bars 0 = .ok (.aload_n 0, 1) := by decide +kernel
theorem dX3_bars_1 : decode cX3_bars 1 = .ok (.getfield 163, 3) := by decide +kernel
theorem dX3_bars_4 : decode cX3_bars 4 = .ok (.ifCond .eq 5, 3) := by decide +kernel
theorem dX3_bars_7 : decode cX3_bars 7 = .ok (.iconst 1, 1) := by decide +kernel
theorem dX3_bars_8 : decode cX3_bars 8 = .ok (.ireturn, 1) := by decide +kernel
theorem dX3_bars_9 : decode cX3_bars 9 = .ok (.aload_n 0, 1) := by decide +kernel
theorem dX3_bars_10 : decode cX3_bars 10 = .ok (.getfield 21, 3) := by decide +kernel
theorem dX3_bars_13 : decode cX3_bars 13 = .ok (.getfield 69, 3) := by decide +kernel
theorem dX3_bars_16 : decode cX3_bars 16 = .ok (.ifCond .eq 5, 3) := by decide +kernel
theorem dX3_bars_19 : decode cX3_bars 19 = .ok (.iconst 2, 1) := by decide +kernel
theorem dX3_bars_20 : decode cX3_bars 20 = .ok (.ireturn, 1) := by decide +kernel
theorem dX3_bars_21 : decode cX3_bars 21 = .ok (.aload_n 0, 1) := by decide +kernel
theorem dX3_bars_22 : decode cX3_bars 22 = .ok (.getfield 21, 3) := by decide +kernel
theorem dX3_bars_25 : decode cX3_bars 25 = .ok (.invokevirtual 126, 3) := by decide +kernel
theorem dX3_bars_28 : decode cX3_bars 28 = .ok (.ifCond .eq 5, 3) := by decide +kernel
theorem dX3_bars_31 : decode cX3_bars 31 = .ok (.iconst 3, 1) := by decide +kernel
theorem dX3_bars_32 : decode cX3_bars 32 = .ok (.ireturn, 1) := by decide +kernel
theorem dX3_bars_33 : decode cX3_bars 33 = .ok (.aload_n 0, 1) := by decide +kernel
theorem dX3_bars_34 : decode cX3_bars 34 = .ok (.invokevirtual 215, 3) := by decide +kernel
theorem dX3_bars_37 : decode cX3_bars 37 = .ok (.invokestatic 166, 3) := by decide +kernel
theorem dX3_bars_40 : decode cX3_bars 40 = .ok (.iconst 2, 1) := by decide +kernel
theorem dX3_bars_41 : decode cX3_bars 41 = .ok (.if_icmp .ge 5, 3) := by decide +kernel
theorem dX3_bars_44 : decode cX3_bars 44 = .ok (.iconst 4, 1) := by decide +kernel
theorem dX3_bars_45 : decode cX3_bars 45 = .ok (.ireturn, 1) := by decide +kernel
theorem dX3_bars_46 : decode cX3_bars 46 = .ok (.aload_n 0, 1) := by decide +kernel
theorem dX3_bars_47 : decode cX3_bars 47 = .ok (.getfield 21, 3) := by decide +kernel
theorem dX3_bars_50 : decode cX3_bars 50 = .ok (.getfield 55, 3) := by decide +kernel
theorem dX3_bars_53 : decode cX3_bars 53 = .ok (.sipush 5000, 3) := by decide +kernel
theorem dX3_bars_56 : decode cX3_bars 56 = .ok (.if_icmp .lt 7, 3) := by decide +kernel
theorem dX3_bars_59 : decode cX3_bars 59 = .ok (.iconst 5, 1) := by decide +kernel
theorem dX3_bars_60 : decode cX3_bars 60 = .ok (.goto 4, 3) := by decide +kernel
theorem dX3_bars_63 : decode cX3_bars 63 = .ok (.iconst 0, 1) := by decide +kernel
theorem dX3_bars_64 : decode cX3_bars 64 = .ok (.ireturn, 1) := by decide +kernel
theorem dX3_ofTest_0 : decode cX3_ofTest 0 = .ok (.iload_n 1, 1) := by decide +kernel
theorem dX3_ofTest_1 : decode cX3_ofTest 1 = .ok (.iconst 0, 1) := by decide +kernel
theorem dX3_ofTest_2 : decode cX3_ofTest 2 = .ok (.aload_n 0, 1) := by decide +kernel
theorem dX3_ofTest_3 : decode cX3_ofTest 3 = .ok (.getfield 31, 3) := by decide +kernel
theorem dX3_ofTest_6 : decode cX3_ofTest 6 = .ok (.getfield 146, 3) := by decide +kernel
theorem dX3_ofTest_9 : decode cX3_ofTest 9 = .ok (.iconst 1, 1) := by decide +kernel
theorem dX3_ofTest_10 : decode cX3_ofTest 10 = .ok (.isub, 1) := by decide +kernel
theorem dX3_ofTest_11 : decode cX3_ofTest 11 = .ok (.invokestatic 39, 3) := by decide +kernel
theorem dX3_ofTest_14 : decode cX3_ofTest 14 = .ok (.ifCond .ne 13, 3) := by decide +kernel
theorem dX3_ofTest_17 : decode cX3_ofTest 17 = .ok (.new 43, 3) := by decide +kernel
theorem dX3_ofTest_20 : decode cX3_ofTest 20 = .ok (.dup, 1) := by decide +kernel
theorem dX3_ofTest_21 : decode cX3_ofTest 21 = .ok (.ldc 218, 2) := by decide +kernel
theorem dX3_ofTest_23 : decode cX3_ofTest 23 = .ok (.invokespecial 47, 3) := by decide +kernel
theorem dX3_ofTest_26 : decode cX3_ofTest 26 = .ok (.athrow, 1) := by decide +kernel
theorem dX3_ofTest_27 : decode cX3_ofTest 27 = .ok (.iload_n 2, 1) := by decide +kernel
theorem dX3_ofTest_28 : decode cX3_ofTest 28 = .ok (.tableswitch 80 0 3 #[32, 44, 56, 68], 32) := by decide +kernel
theorem dX3_ofTest_60 : decode cX3_ofTest 60 = .ok (.aload_n 0, 1) := by decide +kernel
theorem dX3_ofTest_61 : decode cX3_ofTest 61 = .ok (.getfield 31, 3) := by decide +kernel
theorem dX3_ofTest_64 : decode cX3_ofTest 64 = .ok (.getfield 220, 3) := by decide +kernel
theorem dX3_ofTest_67 : decode cX3_ofTest 67 = .ok (.iload_n 1, 1) := by decide +kernel
theorem dX3_ofTest_68 : decode cX3_ofTest 68 = .ok (.invokestatic 224, 3) := by decide +kernel
theorem dX3_ofTest_71 : decode cX3_ofTest 71 = .ok (.ireturn, 1) := by decide +kernel
theorem dX3_ofTest_72 : decode cX3_ofTest 72 = .ok (.aload_n 0, 1) := by decide +kernel
theorem dX3_ofTest_73 : decode cX3_ofTest 73 = .ok (.getfield 31, 3) := by decide +kernel
theorem dX3_ofTest_76 : decode cX3_ofTest 76 = .ok (.getfield 228, 3) := by decide +kernel
theorem dX3_ofTest_79 : decode cX3_ofTest 79 = .ok (.iload_n 1, 1) := by decide +kernel
theorem dX3_ofTest_80 : decode cX3_ofTest 80 = .ok (.invokestatic 224, 3) := by decide +kernel
theorem dX3_ofTest_83 : decode cX3_ofTest 83 = .ok (.ireturn, 1) := by decide +kernel
theorem dX3_ofTest_84 : decode cX3_ofTest 84 = .ok (.aload_n 0, 1) := by decide +kernel
theorem dX3_ofTest_85 : decode cX3_ofTest 85 = .ok (.getfield 31, 3) := by decide +kernel
theorem dX3_ofTest_88 : decode cX3_ofTest 88 = .ok (.getfield 231, 3) := by decide +kernel
theorem dX3_ofTest_91 : decode cX3_ofTest 91 = .ok (.iload_n 1, 1) := by decide +kernel
theorem dX3_ofTest_92 : decode cX3_ofTest 92 = .ok (.invokestatic 224, 3) := by decide +kernel
theorem dX3_ofTest_95 : decode cX3_ofTest 95 = .ok (.ireturn, 1) := by decide +kernel
theorem dX3_ofTest_96 : decode cX3_ofTest 96 = .ok (.aload_n 0, 1) := by decide +kernel
theorem dX3_ofTest_97 : decode cX3_ofTest 97 = .ok (.getfield 31, 3) := by decide +kernel
theorem dX3_ofTest_100 : decode cX3_ofTest 100 = .ok (.getfield 234, 3) := by decide +kernel
theorem dX3_ofTest_103 : decode cX3_ofTest 103 = .ok (.iload_n 1, 1) := by decide +kernel
theorem dX3_ofTest_104 : decode cX3_ofTest 104 = .ok (.invokestatic 224, 3) := by decide +kernel
theorem dX3_ofTest_107 : decode cX3_ofTest 107 = .ok (.ireturn, 1) := by decide +kernel
theorem dX3_ofTest_108 : decode cX3_ofTest 108 = .ok (.new 50, 3) := by decide +kernel
theorem dX3_ofTest_111 : decode cX3_ofTest 111 = .ok (.dup, 1) := by decide +kernel
theorem dX3_ofTest_112 : decode cX3_ofTest 112 = .ok (.ldc 189, 2) := by decide +kernel
theorem dX3_ofTest_114 : decode cX3_ofTest 114 = .ok (.invokespecial 54, 3) := by decide +kernel
theorem dX3_ofTest_117 : decode cX3_ofTest 117 = .ok (.athrow, 1) := by decide +kernel
theorem dX3_killWeight_0 : decode cX3_killWeight 0 = .ok (.aload_n 0, 1) := by decide +kernel
theorem dX3_killWeight_1 : decode cX3_killWeight 1 = .ok (.getfield 21, 3) := by decide +kernel
theorem dX3_killWeight_4 : decode cX3_killWeight 4 = .ok (.getfield 55, 3) := by decide +kernel
theorem dX3_killWeight_7 : decode cX3_killWeight 7 = .ok (.istore_n 1, 1) := by decide +kernel
theorem dX3_killWeight_8 : decode cX3_killWeight 8 = .ok (.iload_n 1, 1) := by decide +kernel
theorem dX3_killWeight_9 : decode cX3_killWeight 9 = .ok (.ifCond .gt 13, 3) := by decide +kernel
theorem dX3_killWeight_12 : decode cX3_killWeight 12 = .ok (.new 58, 3) := by decide +kernel
theorem dX3_killWeight_15 : decode cX3_killWeight 15 = .ok (.dup, 1) := by decide +kernel
theorem dX3_killWeight_16 : decode cX3_killWeight 16 = .ok (.ldc 236, 2) := by decide +kernel
theorem dX3_killWeight_18 : decode cX3_killWeight 18 = .ok (.invokespecial 62, 3) := by decide +kernel
theorem dX3_killWeight_21 : decode cX3_killWeight 21 = .ok (.athrow, 1) := by decide +kernel
theorem dX3_killWeight_22 : decode cX3_killWeight 22 = .ok (.bipush 10, 2) := by decide +kernel
theorem dX3_killWeight_24 : decode cX3_killWeight 24 = .ok (.aload_n 0, 1) := by decide +kernel
theorem dX3_killWeight_25 : decode cX3_killWeight 25 = .ok (.getfield 10, 3) := by decide +kernel
theorem dX3_killWeight_28 : decode cX3_killWeight 28 = .ok (.iload_n 1, 1) := by decide +kernel
theorem dX3_killWeight_29 : decode cX3_killWeight 29 = .ok (.invokevirtual 174, 3) := by decide +kernel
theorem dX3_killWeight_32 : decode cX3_killWeight 32 = .ok (.imul, 1) := by decide +kernel
theorem dX3_killWeight_33 : decode cX3_killWeight 33 = .ok (.iload_n 1, 1) := by decide +kernel
theorem dX3_killWeight_34 : decode cX3_killWeight 34 = .ok (.iadd, 1) := by decide +kernel
theorem dX3_killWeight_35 : decode cX3_killWeight 35 = .ok (.iconst 1, 1) := by decide +kernel
theorem dX3_killWeight_36 : decode cX3_killWeight 36 = .ok (.isub, 1) := by decide +kernel
theorem dX3_killWeight_37 : decode cX3_killWeight 37 = .ok (.iload_n 1, 1) := by decide +kernel
theorem dX3_killWeight_38 : decode cX3_killWeight 38 = .ok (.idiv, 1) := by decide +kernel
theorem dX3_killWeight_39 : decode cX3_killWeight 39 = .ok (.ireturn, 1) := by decide +kernel
theorem dX3_window_0 : decode cX3_window 0 = .ok (.iload_n 1, 1) := by decide +kernel
theorem dX3_window_1 : decode cX3_window 1 = .ok (.iconst 0, 1) := by decide +kernel
theorem dX3_window_2 : decode cX3_window 2 = .ok (.sipush 4999, 3) := by decide +kernel
theorem dX3_window_5 : decode cX3_window 5 = .ok (.invokestatic 39, 3) := by decide +kernel
theorem dX3_window_8 : decode cX3_window 8 = .ok (.ifCond .eq 16, 3) := by decide +kernel
theorem dX3_window_11 : decode cX3_window 11 = .ok (.iload_n 2, 1) := by decide +kernel
theorem dX3_window_12 : decode cX3_window 12 = .ok (.iload_n 1, 1) := by decide +kernel
theorem dX3_window_13 : decode cX3_window 13 = .ok (.iconst 1, 1) := by decide +kernel
theorem dX3_window_14 : decode cX3_window 14 = .ok (.iadd, 1) := by decide +kernel
theorem dX3_window_15 : decode cX3_window 15 = .ok (.sipush 5000, 3) := by decide +kernel
theorem dX3_window_18 : decode cX3_window 18 = .ok (.invokestatic 39, 3) := by decide +kernel
theorem dX3_window_21 : decode cX3_window 21 = .ok (.ifCond .ne 13, 3) := by decide +kernel
theorem dX3_window_24 : decode cX3_window 24 = .ok (.new 50, 3) := by decide +kernel
theorem dX3_window_27 : decode cX3_window 27 = .ok (.dup, 1) := by decide +kernel
theorem dX3_window_28 : decode cX3_window 28 = .ok (.ldc 238, 2) := by decide +kernel
theorem dX3_window_30 : decode cX3_window 30 = .ok (.invokespecial 54, 3) := by decide +kernel
theorem dX3_window_33 : decode cX3_window 33 = .ok (.athrow, 1) := by decide +kernel
theorem dX3_window_34 : decode cX3_window 34 = .ok (.iload_n 1, 1) := by decide +kernel
theorem dX3_window_35 : decode cX3_window 35 = .ok (.iconst 1, 1) := by decide +kernel
theorem dX3_window_36 : decode cX3_window 36 = .ok (.iadd, 1) := by decide +kernel
theorem dX3_window_37 : decode cX3_window 37 = .ok (.invokestatic 240, 3) := by decide +kernel
theorem dX3_window_40 : decode cX3_window 40 = .ok (.istore 4, 2) := by decide +kernel
theorem dX3_window_42 : decode cX3_window 42 = .ok (.iload_n 2, 1) := by decide +kernel
theorem dX3_window_43 : decode cX3_window 43 = .ok (.invokestatic 240, 3) := by decide +kernel
theorem dX3_window_46 : decode cX3_window 46 = .ok (.istore 5, 2) := by decide +kernel
theorem dX3_window_48 : decode cX3_window 48 = .ok (.iload_n 3, 1) := by decide +kernel
theorem dX3_window_49 : decode cX3_window 49 = .ok (.ifCond .eq 17, 3) := by decide +kernel
theorem dX3_window_52 : decode cX3_window 52 = .ok (.aload_n 0, 1) := by decide +kernel
theorem dX3_window_53 : decode cX3_window 53 = .ok (.getfield 10, 3) := by decide +kernel
theorem dX3_window_56 : decode cX3_window 56 = .ok (.iload 4, 2) := by decide +kernel
theorem dX3_window_58 : decode cX3_window 58 = .ok (.iload 5, 2) := by decide +kernel
theorem dX3_window_60 : decode cX3_window 60 = .ok (.invokevirtual 243, 3) := by decide +kernel
theorem dX3_window_63 : decode cX3_window 63 = .ok (.goto 14, 3) := by decide +kernel
theorem dX3_window_66 : decode cX3_window 66 = .ok (.aload_n 0, 1) := by decide +kernel
theorem dX3_window_67 : decode cX3_window 67 = .ok (.getfield 10, 3) := by decide +kernel
theorem dX3_window_70 : decode cX3_window 70 = .ok (.iload 4, 2) := by decide +kernel
theorem dX3_window_72 : decode cX3_window 72 = .ok (.iload 5, 2) := by decide +kernel
theorem dX3_window_74 : decode cX3_window 74 = .ok (.invokevirtual 247, 3) := by decide +kernel
theorem dX3_window_77 : decode cX3_window 77 = .ok (.ireturn, 1) := by decide +kernel
theorem dX3_casings_0 : decode cX3_casings 0 = .ok (.iload_n 1, 1) := by decide +kernel
theorem dX3_casings_1 : decode cX3_casings 1 = .ok (.iconst 1, 1) := by decide +kernel
theorem dX3_casings_2 : decode cX3_casings 2 = .ok (.sipush 5000, 3) := by decide +kernel
theorem dX3_casings_5 : decode cX3_casings 5 = .ok (.invokestatic 39, 3) := by decide +kernel
theorem dX3_casings_8 : decode cX3_casings 8 = .ok (.ifCond .ne 13, 3) := by decide +kernel
theorem dX3_casings_11 : decode cX3_casings 11 = .ok (.new 50, 3) := by decide +kernel
theorem dX3_casings_14 : decode cX3_casings 14 = .ok (.dup, 1) := by decide +kernel
theorem dX3_casings_15 : decode cX3_casings 15 = .ok (.ldc 250, 2) := by decide +kernel
theorem dX3_casings_17 : decode cX3_casings 17 = .ok (.invokespecial 54, 3) := by decide +kernel
theorem dX3_casings_20 : decode cX3_casings 20 = .ok (.athrow, 1) := by decide +kernel
theorem dX3_casings_21 : decode cX3_casings 21 = .ok (.aload_n 0, 1) := by decide +kernel
theorem dX3_casings_22 : decode cX3_casings 22 = .ok (.getfield 10, 3) := by decide +kernel
theorem dX3_casings_25 : decode cX3_casings 25 = .ok (.iload_n 1, 1) := by decide +kernel
theorem dX3_casings_26 : decode cX3_casings 26 = .ok (.invokestatic 240, 3) := by decide +kernel
theorem dX3_casings_29 : decode cX3_casings 29 = .ok (.invokevirtual 252, 3) := by decide +kernel
theorem dX3_casings_32 : decode cX3_casings 32 = .ok (.ireturn, 1) := by decide +kernel
theorem dX3_casingsAnew_0 : decode cX3_casingsAnew 0 = .ok (.iload_n 1, 1) := by decide +kernel
theorem dX3_casingsAnew_1 : decode cX3_casingsAnew 1 = .ok (.iconst 1, 1) := by decide +kernel
theorem dX3_casingsAnew_2 : decode cX3_casingsAnew 2 = .ok (.sipush 5000, 3) := by decide +kernel
theorem dX3_casingsAnew_5 : decode cX3_casingsAnew 5 = .ok (.invokestatic 39, 3) := by decide +kernel
theorem dX3_casingsAnew_8 : decode cX3_casingsAnew 8 = .ok (.ifCond .ne 13, 3) := by decide +kernel
theorem dX3_casingsAnew_11 : decode cX3_casingsAnew 11 = .ok (.new 50, 3) := by decide +kernel
theorem dX3_casingsAnew_14 : decode cX3_casingsAnew 14 = .ok (.dup, 1) := by decide +kernel
theorem dX3_casingsAnew_15 : decode cX3_casingsAnew 15 = .ok (.ldc 250, 2) := by decide +kernel
theorem dX3_casingsAnew_17 : decode cX3_casingsAnew 17 = .ok (.invokespecial 54, 3) := by decide +kernel
theorem dX3_casingsAnew_20 : decode cX3_casingsAnew 20 = .ok (.athrow, 1) := by decide +kernel
theorem dX3_casingsAnew_21 : decode cX3_casingsAnew 21 = .ok (.aload_n 0, 1) := by decide +kernel
theorem dX3_casingsAnew_22 : decode cX3_casingsAnew 22 = .ok (.getfield 10, 3) := by decide +kernel
theorem dX3_casingsAnew_25 : decode cX3_casingsAnew 25 = .ok (.iload_n 1, 1) := by decide +kernel
theorem dX3_casingsAnew_26 : decode cX3_casingsAnew 26 = .ok (.invokestatic 240, 3) := by decide +kernel
theorem dX3_casingsAnew_29 : decode cX3_casingsAnew 29 = .ok (.invokevirtual 255, 3) := by decide +kernel
theorem dX3_casingsAnew_32 : decode cX3_casingsAnew 32 = .ok (.ireturn, 1) := by decide +kernel
theorem dX3_equivalent_0 : decode cX3_equivalent 0 = .ok (.aload_n 0, 1) := by decide +kernel
theorem dX3_equivalent_1 : decode cX3_equivalent 1 = .ok (.getfield 21, 3) := by decide +kernel
theorem dX3_equivalent_4 : decode cX3_equivalent 4 = .ok (.getfield 123, 3) := by decide +kernel
theorem dX3_equivalent_7 : decode cX3_equivalent 7 = .ok (.istore_n 1, 1) := by decide +kernel
theorem dX3_equivalent_8 : decode cX3_equivalent 8 = .ok (.iload_n 1, 1) := by decide +kernel
theorem dX3_equivalent_9 : decode cX3_equivalent 9 = .ok (.ifCond .gt 14, 3) := by decide +kernel
theorem dX3_equivalent_12 : decode cX3_equivalent 12 = .ok (.new 58, 3) := by decide +kernel
theorem dX3_equivalent_15 : decode cX3_equivalent 15 = .ok (.dup, 1) := by decide +kernel
theorem dX3_equivalent_16 : decode cX3_equivalent 16 = .ok (.ldc_w 258, 3) := by decide +kernel
theorem dX3_equivalent_19 : decode cX3_equivalent 19 = .ok (.invokespecial 62, 3) := by decide +kernel
theorem dX3_equivalent_22 : decode cX3_equivalent 22 = .ok (.athrow, 1) := by decide +kernel
theorem dX3_equivalent_23 : decode cX3_equivalent 23 = .ok (.bipush 10, 2) := by decide +kernel
theorem dX3_equivalent_25 : decode cX3_equivalent 25 = .ok (.aload_n 0, 1) := by decide +kernel
theorem dX3_equivalent_26 : decode cX3_equivalent 26 = .ok (.getfield 21, 3) := by decide +kernel
theorem dX3_equivalent_29 : decode cX3_equivalent 29 = .ok (.invokevirtual 177, 3) := by decide +kernel
theorem dX3_equivalent_32 : decode cX3_equivalent 32 = .ok (.imul, 1) := by decide +kernel
theorem dX3_equivalent_33 : decode cX3_equivalent 33 = .ok (.i2f, 1) := by decide +kernel
theorem dX3_equivalent_34 : decode cX3_equivalent 34 = .ok (.iload_n 1, 1) := by decide +kernel
theorem dX3_equivalent_35 : decode cX3_equivalent 35 = .ok (.i2f, 1) := by decide +kernel
theorem dX3_equivalent_36 : decode cX3_equivalent 36 = .ok (.fdiv, 1) := by decide +kernel
theorem dX3_equivalent_37 : decode cX3_equivalent 37 = .ok (.freturn, 1) := by decide +kernel
theorem dX3_ahead_0 : decode cX3_ahead 0 = .ok (.iload_n 1, 1) := by decide +kernel
theorem dX3_ahead_1 : decode cX3_ahead 1 = .ok (.iconst 1, 1) := by decide +kernel
theorem dX3_ahead_2 : decode cX3_ahead 2 = .ok (.sipush 2000, 3) := by decide +kernel
theorem dX3_ahead_5 : decode cX3_ahead 5 = .ok (.invokestatic 39, 3) := by decide +kernel
theorem dX3_ahead_8 : decode cX3_ahead 8 = .ok (.ifCond .ne 13, 3) := by decide +kernel
theorem dX3_ahead_11 : decode cX3_ahead 11 = .ok (.new 50, 3) := by decide +kernel
theorem dX3_ahead_14 : decode cX3_ahead 14 = .ok (.dup, 1) := by decide +kernel
theorem dX3_ahead_15 : decode cX3_ahead 15 = .ok (.ldc 97, 2) := by decide +kernel
theorem dX3_ahead_17 : decode cX3_ahead 17 = .ok (.invokespecial 54, 3) := by decide +kernel
theorem dX3_ahead_20 : decode cX3_ahead 20 = .ok (.athrow, 1) := by decide +kernel
theorem dX3_ahead_21 : decode cX3_ahead 21 = .ok (.aload_n 0, 1) := by decide +kernel
theorem dX3_ahead_22 : decode cX3_ahead 22 = .ok (.getfield 25, 3) := by decide +kernel
theorem dX3_ahead_25 : decode cX3_ahead 25 = .ok (.aload_n 0, 1) := by decide +kernel
theorem dX3_ahead_26 : decode cX3_ahead 26 = .ok (.getfield 21, 3) := by decide +kernel
theorem dX3_ahead_29 : decode cX3_ahead 29 = .ok (.invokevirtual 260, 3) := by decide +kernel
theorem dX3_ahead_32 : decode cX3_ahead 32 = .ok (.aload_n 0, 1) := by decide +kernel
theorem dX3_ahead_33 : decode cX3_ahead 33 = .ok (.getfield 25, 3) := by decide +kernel
theorem dX3_ahead_36 : decode cX3_ahead 36 = .ok (.iload_n 1, 1) := by decide +kernel
theorem dX3_ahead_37 : decode cX3_ahead 37 = .ok (.invokevirtual 101, 3) := by decide +kernel
theorem dX3_ahead_40 : decode cX3_ahead 40 = .ok (.ireturn, 1) := by decide +kernel
theorem dX3_hasMinutes_0 : decode cX3_hasMinutes 0 = .ok (.aload_n 0, 1) := by decide +kernel
theorem dX3_hasMinutes_1 : decode cX3_hasMinutes 1 = .ok (.getfield 21, 3) := by decide +kernel
theorem dX3_hasMinutes_4 : decode cX3_hasMinutes 4 = .ok (.getfield 151, 3) := by decide +kernel
theorem dX3_hasMinutes_7 : decode cX3_hasMinutes 7 = .ok (.iload_n 1, 1) := by decide +kernel
theorem dX3_hasMinutes_8 : decode cX3_hasMinutes 8 = .ok (.iadd, 1) := by decide +kernel
theorem dX3_hasMinutes_9 : decode cX3_hasMinutes 9 = .ok (.ldc 138, 2) := by decide +kernel
theorem dX3_hasMinutes_11 : decode cX3_hasMinutes 11 = .ok (.if_icmp .gt 7, 3) := by decide +kernel
theorem dX3_hasMinutes_14 : decode cX3_hasMinutes 14 = .ok (.iconst 1, 1) := by decide +kernel
theorem dX3_hasMinutes_15 : decode cX3_hasMinutes 15 = .ok (.goto 4, 3) := by decide +kernel
theorem dX3_hasMinutes_18 : decode cX3_hasMinutes 18 = .ok (.iconst 0, 1) := by decide +kernel
theorem dX3_hasMinutes_19 : decode cX3_hasMinutes 19 = .ok (.ireturn, 1) := by decide +kernel
theorem dX3_isMudBarrier_0 : decode cX3_isMudBarrier 0 = .ok (.aload_n 0, 1) := by decide +kernel
theorem dX3_isMudBarrier_1 : decode cX3_isMudBarrier 1 = .ok (.getfield 21, 3) := by decide +kernel
theorem dX3_isMudBarrier_4 : decode cX3_isMudBarrier 4 = .ok (.invokevirtual 126, 3) := by decide +kernel
theorem dX3_isMudBarrier_7 : decode cX3_isMudBarrier 7 = .ok (.ifCond .ne 31, 3) := by decide +kernel
theorem dX3_isMudBarrier_10 : decode cX3_isMudBarrier 10 = .ok (.aload_n 0, 1) := by decide +kernel
theorem dX3_isMudBarrier_11 : decode cX3_isMudBarrier 11 = .ok (.getfield 21, 3) := by decide +kernel
theorem dX3_isMudBarrier_14 : decode cX3_isMudBarrier 14 = .ok (.invokevirtual 171, 3) := by decide +kernel
theorem dX3_isMudBarrier_17 : decode cX3_isMudBarrier 17 = .ok (.aload_n 0, 1) := by decide +kernel
theorem dX3_isMudBarrier_18 : decode cX3_isMudBarrier 18 = .ok (.getfield 10, 3) := by decide +kernel
theorem dX3_isMudBarrier_21 : decode cX3_isMudBarrier 21 = .ok (.aload_n 0, 1) := by decide +kernel
theorem dX3_isMudBarrier_22 : decode cX3_isMudBarrier 22 = .ok (.getfield 21, 3) := by decide +kernel
theorem dX3_isMudBarrier_25 : decode cX3_isMudBarrier 25 = .ok (.getfield 55, 3) := by decide +kernel
theorem dX3_isMudBarrier_28 : decode cX3_isMudBarrier 28 = .ok (.invokevirtual 174, 3) := by decide +kernel
theorem dX3_isMudBarrier_31 : decode cX3_isMudBarrier 31 = .ok (.if_icmp .lt 7, 3) := by decide +kernel
theorem dX3_isMudBarrier_34 : decode cX3_isMudBarrier 34 = .ok (.iconst 1, 1) := by decide +kernel
theorem dX3_isMudBarrier_35 : decode cX3_isMudBarrier 35 = .ok (.goto 4, 3) := by decide +kernel
theorem dX3_isMudBarrier_38 : decode cX3_isMudBarrier 38 = .ok (.iconst 0, 1) := by decide +kernel
theorem dX3_isMudBarrier_39 : decode cX3_isMudBarrier 39 = .ok (.ireturn, 1) := by decide +kernel
theorem dX3_isValveBarrier_0 : decode cX3_isValveBarrier 0 = .ok (.aload_n 0, 1) := by decide +kernel
theorem dX3_isValveBarrier_1 : decode cX3_isValveBarrier 1 = .ok (.getfield 31, 3) := by decide +kernel
theorem dX3_isValveBarrier_4 : decode cX3_isValveBarrier 4 = .ok (.getfield 264, 3) := by decide +kernel
theorem dX3_isValveBarrier_7 : decode cX3_isValveBarrier 7 = .ok (.istore_n 1, 1) := by decide +kernel
theorem dX3_isValveBarrier_8 : decode cX3_isValveBarrier 8 = .ok (.aload_n 0, 1) := by decide +kernel
theorem dX3_isValveBarrier_9 : decode cX3_isValveBarrier 9 = .ok (.getfield 31, 3) := by decide +kernel
theorem dX3_isValveBarrier_12 : decode cX3_isValveBarrier 12 = .ok (.iload_n 1, 1) := by decide +kernel
theorem dX3_isValveBarrier_13 : decode cX3_isValveBarrier 13 = .ok (.invokevirtual 267, 3) := by decide +kernel
theorem dX3_isValveBarrier_16 : decode cX3_isValveBarrier 16 = .ok (.ifCond .eq 42, 3) := by decide +kernel
theorem dX3_isValveBarrier_19 : decode cX3_isValveBarrier 19 = .ok (.aload_n 0, 1) := by decide +kernel
theorem dX3_isValveBarrier_20 : decode cX3_isValveBarrier 20 = .ok (.getfield 21, 3) := by decide +kernel
theorem dX3_isValveBarrier_23 : decode cX3_isValveBarrier 23 = .ok (.getfield 151, 3) := by decide +kernel
theorem dX3_isValveBarrier_26 : decode cX3_isValveBarrier 26 = .ok (.aload_n 0, 1) := by decide +kernel
theorem dX3_isValveBarrier_27 : decode cX3_isValveBarrier 27 = .ok (.getfield 31, 3) := by decide +kernel
theorem dX3_isValveBarrier_30 : decode cX3_isValveBarrier 30 = .ok (.getfield 234, 3) := by decide +kernel
theorem dX3_isValveBarrier_33 : decode cX3_isValveBarrier 33 = .ok (.iload_n 1, 1) := by decide +kernel
theorem dX3_isValveBarrier_34 : decode cX3_isValveBarrier 34 = .ok (.invokestatic 224, 3) := by decide +kernel
theorem dX3_isValveBarrier_37 : decode cX3_isValveBarrier 37 = .ok (.isub, 1) := by decide +kernel
theorem dX3_isValveBarrier_38 : decode cX3_isValveBarrier 38 = .ok (.sipush 20160, 3) := by decide +kernel
theorem dX3_isValveBarrier_41 : decode cX3_isValveBarrier 41 = .ok (.if_icmp .gt 17, 3) := by decide +kernel
theorem dX3_isValveBarrier_44 : decode cX3_isValveBarrier 44 = .ok (.aload_n 0, 1) := by decide +kernel
theorem dX3_isValveBarrier_45 : decode cX3_isValveBarrier 45 = .ok (.getfield 21, 3) := by decide +kernel
theorem dX3_isValveBarrier_48 : decode cX3_isValveBarrier 48 = .ok (.getfield 158, 3) := by decide +kernel
theorem dX3_isValveBarrier_51 : decode cX3_isValveBarrier 51 = .ok (.ifCond .ne 7, 3) := by decide +kernel
theorem dX3_isValveBarrier_54 : decode cX3_isValveBarrier 54 = .ok (.iconst 1, 1) := by decide +kernel
theorem dX3_isValveBarrier_55 : decode cX3_isValveBarrier 55 = .ok (.goto 4, 3) := by decide +kernel
theorem dX3_isValveBarrier_58 : decode cX3_isValveBarrier 58 = .ok (.iconst 0, 1) := by decide +kernel
theorem dX3_isValveBarrier_59 : decode cX3_isValveBarrier 59 = .ok (.ireturn, 1) := by decide +kernel
theorem dX3_isCementBarrier_0 : decode cX3_isCementBarrier 0 = .ok (.aload_n 0, 1) := by decide +kernel
theorem dX3_isCementBarrier_1 : decode cX3_isCementBarrier 1 = .ok (.getfield 21, 3) := by decide +kernel
theorem dX3_isCementBarrier_4 : decode cX3_isCementBarrier 4 = .ok (.getfield 123, 3) := by decide +kernel
theorem dX3_isCementBarrier_7 : decode cX3_isCementBarrier 7 = .ok (.ifCond .le 24, 3) := by decide +kernel
theorem dX3_isCementBarrier_10 : decode cX3_isCementBarrier 10 = .ok (.aload_n 0, 1) := by decide +kernel
theorem dX3_isCementBarrier_11 : decode cX3_isCementBarrier 11 = .ok (.getfield 31, 3) := by decide +kernel
theorem dX3_isCementBarrier_14 : decode cX3_isCementBarrier 14 = .ok (.aload_n 0, 1) := by decide +kernel
theorem dX3_isCementBarrier_15 : decode cX3_isCementBarrier 15 = .ok (.getfield 31, 3) := by decide +kernel
theorem dX3_isCementBarrier_18 : decode cX3_isCementBarrier 18 = .ok (.getfield 135, 3) := by decide +kernel
theorem dX3_isCementBarrier_21 : decode cX3_isCementBarrier 21 = .ok (.invokevirtual 267, 3) := by decide +kernel
theorem dX3_isCementBarrier_24 : decode cX3_isCementBarrier 24 = .ok (.ifCond .eq 7, 3) := by decide +kernel
theorem dX3_isCementBarrier_27 : decode cX3_isCementBarrier 27 = .ok (.iconst 1, 1) := by decide +kernel
theorem dX3_isCementBarrier_28 : decode cX3_isCementBarrier 28 = .ok (.goto 4, 3) := by decide +kernel
theorem dX3_isCementBarrier_31 : decode cX3_isCementBarrier 31 = .ok (.iconst 0, 1) := by decide +kernel
theorem dX3_isCementBarrier_32 : decode cX3_isCementBarrier 32 = .ok (.ireturn, 1) := by decide +kernel
theorem dX3_isWithin_0 : decode cX3_isWithin 0 = .ok (.iload_n 0, 1) := by decide +kernel
theorem dX3_isWithin_1 : decode cX3_isWithin 1 = .ok (.iload_n 1, 1) := by decide +kernel
theorem dX3_isWithin_2 : decode cX3_isWithin 2 = .ok (.if_icmp .lt 12, 3) := by decide +kernel
theorem dX3_isWithin_5 : decode cX3_isWithin 5 = .ok (.iload_n 0, 1) := by decide +kernel
theorem dX3_isWithin_6 : decode cX3_isWithin 6 = .ok (.iload_n 2, 1) := by decide +kernel
theorem dX3_isWithin_7 : decode cX3_isWithin 7 = .ok (.if_icmp .gt 7, 3) := by decide +kernel
theorem dX3_isWithin_10 : decode cX3_isWithin 10 = .ok (.iconst 1, 1) := by decide +kernel
theorem dX3_isWithin_11 : decode cX3_isWithin 11 = .ok (.goto 4, 3) := by decide +kernel
theorem dX3_isWithin_14 : decode cX3_isWithin 14 = .ok (.iconst 0, 1) := by decide +kernel
theorem dX3_isWithin_15 : decode cX3_isWithin 15 = .ok (.ireturn, 1) := by decide +kernel
theorem dX3_read_0 : decode cX3_read 0 = .ok (.iload_n 1, 1) := by decide +kernel
theorem dX3_read_1 : decode cX3_read 1 = .ok (.ifCond .lt 15, 3) := by decide +kernel
theorem dX3_read_4 : decode cX3_read 4 = .ok (.iload_n 1, 1) := by decide +kernel
theorem dX3_read_5 : decode cX3_read 5 = .ok (.aload_n 0, 1) := by decide +kernel
theorem dX3_read_6 : decode cX3_read 6 = .ok (.arraylength, 1) := by decide +kernel
theorem dX3_read_7 : decode cX3_read 7 = .ok (.if_icmp .ge 9, 3) := by decide +kernel
theorem dX3_read_10 : decode cX3_read 10 = .ok (.aload_n 0, 1) := by decide +kernel
theorem dX3_read_11 : decode cX3_read 11 = .ok (.iload_n 1, 1) := by decide +kernel
theorem dX3_read_12 : decode cX3_read 12 = .ok (.iaload, 1) := by decide +kernel
theorem dX3_read_13 : decode cX3_read 13 = .ok (.goto 4, 3) := by decide +kernel
theorem dX3_read_16 : decode cX3_read 16 = .ok (.iconst 0, 1) := by decide +kernel
theorem dX3_read_17 : decode cX3_read 17 = .ok (.ireturn, 1) := by decide +kernel
theorem dX3_write_0 : decode cX3_write 0 = .ok (.iload_n 1, 1) := by decide +kernel
theorem dX3_write_1 : decode cX3_write 1 = .ok (.ifCond .lt 13, 3) := by decide +kernel
theorem dX3_write_4 : decode cX3_write 4 = .ok (.iload_n 1, 1) := by decide +kernel
theorem dX3_write_5 : decode cX3_write 5 = .ok (.aload_n 0, 1) := by decide +kernel
theorem dX3_write_6 : decode cX3_write 6 = .ok (.arraylength, 1) := by decide +kernel
theorem dX3_write_7 : decode cX3_write 7 = .ok (.if_icmp .ge 7, 3) := by decide +kernel
theorem dX3_write_10 : decode cX3_write 10 = .ok (.aload_n 0, 1) := by decide +kernel
theorem dX3_write_11 : decode cX3_write 11 = .ok (.iload_n 1, 1) := by decide +kernel
theorem dX3_write_12 : decode cX3_write 12 = .ok (.iload_n 2, 1) := by decide +kernel
theorem dX3_write_13 : decode cX3_write 13 = .ok (.iastore, 1) := by decide +kernel
theorem dX3_write_14 : decode cX3_write 14 = .ok (.return_, 1) := by decide +kernel
theorem dX4_thrown_0 : decode cX4_thrown 0 = .ok (.aload_n 0, 1) := by decide +kernel
theorem dX4_thrown_1 : decode cX4_thrown 1 = .ok (.getfield 52, 3) := by decide +kernel
theorem dX4_thrown_4 : decode cX4_thrown 4 = .ok (.ireturn, 1) := by decide +kernel
theorem dX4_goesWell_0 : decode cX4_goesWell 0 = .ok (.aload_n 0, 1) := by decide +kernel
theorem dX4_goesWell_1 : decode cX4_goesWell 1 = .ok (.iload_n 1, 1) := by decide +kernel
theorem dX4_goesWell_2 : decode cX4_goesWell 2 = .ok (.putfield 52, 3) := by decide +kernel
theorem dX4_goesWell_5 : decode cX4_goesWell 5 = .ok (.iload_n 1, 1) := by decide +kernel
theorem dX4_goesWell_6 : decode cX4_goesWell 6 = .ok (.ifCond .ne 7, 3) := by decide +kernel
theorem dX4_goesWell_9 : decode cX4_goesWell 9 = .ok (.iconst 1, 1) := by decide +kernel
theorem dX4_goesWell_10 : decode cX4_goesWell 10 = .ok (.goto 4, 3) := by decide +kernel
theorem dX4_goesWell_13 : decode cX4_goesWell 13 = .ok (.iconst 0, 1) := by decide +kernel
theorem dX4_goesWell_14 : decode cX4_goesWell 14 = .ok (.ireturn, 1) := by decide +kernel
theorem dX4_in_0 : decode cX4_in 0 = .ok (.iload_n 0, 1) := by decide +kernel
theorem dX4_in_1 : decode cX4_in 1 = .ok (.iload_n 1, 1) := by decide +kernel
theorem dX4_in_2 : decode cX4_in 2 = .ok (.if_icmp .lt 12, 3) := by decide +kernel
theorem dX4_in_5 : decode cX4_in 5 = .ok (.iload_n 0, 1) := by decide +kernel
theorem dX4_in_6 : decode cX4_in 6 = .ok (.iload_n 2, 1) := by decide +kernel
theorem dX4_in_7 : decode cX4_in 7 = .ok (.if_icmp .gt 7, 3) := by decide +kernel
theorem dX4_in_10 : decode cX4_in 10 = .ok (.iconst 1, 1) := by decide +kernel
theorem dX4_in_11 : decode cX4_in 11 = .ok (.goto 4, 3) := by decide +kernel
theorem dX4_in_14 : decode cX4_in 14 = .ok (.iconst 0, 1) := by decide +kernel
theorem dX4_in_15 : decode cX4_in 15 = .ok (.ireturn, 1) := by decide +kernel
theorem dX4_layerAt_0 : decode cX4_layerAt 0 = .ok (.iload_n 0, 1) := by decide +kernel
theorem dX4_layerAt_1 : decode cX4_layerAt 1 = .ok (.ifCond .ne 7, 3) := by decide +kernel
theorem dX4_layerAt_4 : decode cX4_layerAt 4 = .ok (.iconst 0, 1) := by decide +kernel
theorem dX4_layerAt_5 : decode cX4_layerAt 5 = .ok (.goto 9, 3) := by decide +kernel
theorem dX4_layerAt_8 : decode cX4_layerAt 8 = .ok (.iload_n 0, 1) := by decide +kernel
theorem dX4_layerAt_9 : decode cX4_layerAt 9 = .ok (.iconst 1, 1) := by decide +kernel
theorem dX4_layerAt_10 : decode cX4_layerAt 10 = .ok (.isub, 1) := by decide +kernel
theorem dX4_layerAt_11 : decode cX4_layerAt 11 = .ok (.bipush 100, 2) := by decide +kernel
theorem dX4_layerAt_13 : decode cX4_layerAt 13 = .ok (.idiv, 1) := by decide +kernel
theorem dX4_layerAt_14 : decode cX4_layerAt 14 = .ok (.ireturn, 1) := by decide +kernel
theorem dX4_poreAt_0 : decode cX4_poreAt 0 = .ok (.aload_n 0, 1) := by decide +kernel
theorem dX4_poreAt_1 : decode cX4_poreAt 1 = .ok (.getfield 7, 3) := by decide +kernel
theorem dX4_poreAt_4 : decode cX4_poreAt 4 = .ok (.iload_n 1, 1) := by decide +kernel
theorem dX4_poreAt_5 : decode cX4_poreAt 5 = .ok (.invokestatic 55, 3) := by decide +kernel
theorem dX4_poreAt_8 : decode cX4_poreAt 8 = .ok (.iaload, 1) := by decide +kernel
theorem dX4_poreAt_9 : decode cX4_poreAt 9 = .ok (.iload_n 1, 1) := by decide +kernel
theorem dX4_poreAt_10 : decode cX4_poreAt 10 = .ok (.imul, 1) := by decide +kernel
theorem dX4_poreAt_11 : decode cX4_poreAt 11 = .ok (.bipush 10, 2) := by decide +kernel
theorem dX4_poreAt_13 : decode cX4_poreAt 13 = .ok (.idiv, 1) := by decide +kernel
theorem dX4_poreAt_14 : decode cX4_poreAt 14 = .ok (.ireturn, 1) := by decide +kernel
theorem dX4_breakAt_0 : decode cX4_breakAt 0 = .ok (.aload_n 0, 1) := by decide +kernel
theorem dX4_breakAt_1 : decode cX4_breakAt 1 = .ok (.getfield 13, 3) := by decide +kernel
theorem dX4_breakAt_4 : decode cX4_breakAt 4 = .ok (.iload_n 1, 1) := by decide +kernel
theorem dX4_breakAt_5 : decode cX4_breakAt 5 = .ok (.invokestatic 55, 3) := by decide +kernel
theorem dX4_breakAt_8 : decode cX4_breakAt 8 = .ok (.iaload, 1) := by decide +kernel
theorem dX4_breakAt_9 : decode cX4_breakAt 9 = .ok (.iload_n 1, 1) := by decide +kernel
theorem dX4_breakAt_10 : decode cX4_breakAt 10 = .ok (.imul, 1) := by decide +kernel
theorem dX4_breakAt_11 : decode cX4_breakAt 11 = .ok (.bipush 10, 2) := by decide +kernel
theorem dX4_breakAt_13 : decode cX4_breakAt 13 = .ok (.idiv, 1) := by decide +kernel
theorem dX4_breakAt_14 : decode cX4_breakAt 14 = .ok (.ireturn, 1) := by decide +kernel
theorem dX4_layer_0 : decode cX4_layer 0 = .ok (.iload_n 1, 1) := by decide +kernel
theorem dX4_layer_1 : decode cX4_layer 1 = .ok (.iconst 0, 1) := by decide +kernel
theorem dX4_layer_2 : decode cX4_layer 2 = .ok (.bipush 49, 2) := by decide +kernel
theorem dX4_layer_4 : decode cX4_layer 4 = .ok (.invokestatic 59, 3) := by decide +kernel
theorem dX4_layer_7 : decode cX4_layer 7 = .ok (.istore 6, 2) := by decide +kernel
theorem dX4_layer_9 : decode cX4_layer 9 = .ok (.iload_n 2, 1) := by decide +kernel
theorem dX4_layer_10 : decode cX4_layer 10 = .ok (.iconst 0, 1) := by decide +kernel
theorem dX4_layer_11 : decode cX4_layer 11 = .ok (.sipush 300, 3) := by decide +kernel
theorem dX4_layer_14 : decode cX4_layer 14 = .ok (.invokestatic 59, 3) := by decide +kernel
theorem dX4_layer_17 : decode cX4_layer 17 = .ok (.ifCond .eq 30, 3) := by decide +kernel
theorem dX4_layer_20 : decode cX4_layer 20 = .ok (.iload_n 3, 1) := by decide +kernel
theorem dX4_layer_21 : decode cX4_layer 21 = .ok (.iconst 0, 1) := by decide +kernel
theorem dX4_layer_22 : decode cX4_layer 22 = .ok (.sipush 300, 3) := by decide +kernel
theorem dX4_layer_25 : decode cX4_layer 25 = .ok (.invokestatic 59, 3) := by decide +kernel
theorem dX4_layer_28 : decode cX4_layer 28 = .ok (.ifCond .eq 19, 3) := by decide +kernel
theorem dX4_layer_31 : decode cX4_layer 31 = .ok (.iload 4, 2) := by decide +kernel
theorem dX4_layer_33 : decode cX4_layer 33 = .ok (.iconst 0, 1) := by decide +kernel
theorem dX4_layer_34 : decode cX4_layer 34 = .ok (.sipush 1000, 3) := by decide +kernel
theorem dX4_layer_37 : decode cX4_layer 37 = .ok (.invokestatic 59, 3) := by decide +kernel
theorem dX4_layer_40 : decode cX4_layer 40 = .ok (.ifCond .eq 7, 3) := by decide +kernel
theorem dX4_layer_43 : decode cX4_layer 43 = .ok (.iconst 1, 1) := by decide +kernel
theorem dX4_layer_44 : decode cX4_layer 44 = .ok (.goto 4, 3) := by decide +kernel
theorem dX4_layer_47 : decode cX4_layer 47 = .ok (.iconst 0, 1) := by decide +kernel
theorem dX4_layer_48 : decode cX4_layer 48 = .ok (.istore 7, 2) := by decide +kernel
theorem dX4_layer_50 : decode cX4_layer 50 = .ok (.aload_n 0, 1) := by decide +kernel
theorem dX4_layer_51 : decode cX4_layer 51 = .ok (.iload 6, 2) := by decide +kernel
theorem dX4_layer_53 : decode cX4_layer 53 = .ok (.ifCond .ne 7, 3) := by decide +kernel
theorem dX4_layer_56 : decode cX4_layer 56 = .ok (.iconst 1, 1) := by decide +kernel
theorem dX4_layer_57 : decode cX4_layer 57 = .ok (.goto 28, 3) := by decide +kernel
theorem dX4_layer_60 : decode cX4_layer 60 = .ok (.iload 7, 2) := by decide +kernel
theorem dX4_layer_62 : decode cX4_layer 62 = .ok (.ifCond .ne 7, 3) := by decide +kernel
theorem dX4_layer_65 : decode cX4_layer 65 = .ok (.iconst 2, 1) := by decide +kernel
theorem dX4_layer_66 : decode cX4_layer 66 = .ok (.goto 19, 3) := by decide +kernel
theorem dX4_layer_69 : decode cX4_layer 69 = .ok (.aload_n 0, 1) := by decide +kernel
theorem dX4_layer_70 : decode cX4_layer 70 = .ok (.getfield 63, 3) := by decide +kernel
theorem dX4_layer_73 : decode cX4_layer 73 = .ok (.bipush 100, 2) := by decide +kernel
theorem dX4_layer_75 : decode cX4_layer 75 = .ok (.iload_n 1, 1) := by decide +kernel
theorem dX4_layer_76 : decode cX4_layer 76 = .ok (.imul, 1) := by decide +kernel
theorem dX4_layer_77 : decode cX4_layer 77 = .ok (.if_icmp .le 7, 3) := by decide +kernel
theorem dX4_layer_80 : decode cX4_layer 80 = .ok (.iconst 3, 1) := by decide +kernel
theorem dX4_layer_81 : decode cX4_layer 81 = .ok (.goto 4, 3) := by decide +kernel
theorem dX4_layer_84 : decode cX4_layer 84 = .ok (.iconst 0, 1) := by decide +kernel
theorem dX4_layer_85 : decode cX4_layer 85 = .ok (.invokevirtual 66, 3) := by decide +kernel
theorem dX4_layer_88 : decode cX4_layer 88 = .ok (.ifCond .eq 33, 3) := by decide +kernel
theorem dX4_layer_91 : decode cX4_layer 91 = .ok (.aload_n 0, 1) := by decide +kernel
theorem dX4_layer_92 : decode cX4_layer 92 = .ok (.getfield 7, 3) := by decide +kernel
theorem dX4_layer_95 : decode cX4_layer 95 = .ok (.iload_n 1, 1) := by decide +kernel
theorem dX4_layer_96 : decode cX4_layer 96 = .ok (.iload_n 2, 1) := by decide +kernel
theorem dX4_layer_97 : decode cX4_layer 97 = .ok (.iastore, 1) := by decide +kernel
theorem dX4_layer_98 : decode cX4_layer 98 = .ok (.aload_n 0, 1) := by decide +kernel
theorem dX4_layer_99 : decode cX4_layer 99 = .ok (.getfield 13, 3) := by decide +kernel
theorem dX4_layer_102 : decode cX4_layer 102 = .ok (.iload_n 1, 1) := by decide +kernel
theorem dX4_layer_103 : decode cX4_layer 103 = .ok (.iload_n 3, 1) := by decide +kernel
theorem dX4_layer_104 : decode cX4_layer 104 = .ok (.iastore, 1) := by decide +kernel
theorem dX4_layer_105 : decode cX4_layer 105 = .ok (.aload_n 0, 1) := by decide +kernel
theorem dX4_layer_106 : decode cX4_layer 106 = .ok (.getfield 16, 3) := by decide +kernel
theorem dX4_layer_109 : decode cX4_layer 109 = .ok (.iload_n 1, 1) := by decide +kernel
theorem dX4_layer_110 : decode cX4_layer 110 = .ok (.iload 4, 2) := by decide +kernel
theorem dX4_layer_112 : decode cX4_layer 112 = .ok (.iastore, 1) := by decide +kernel
theorem dX4_layer_113 : decode cX4_layer 113 = .ok (.aload_n 0, 1) := by decide +kernel
theorem dX4_layer_114 : decode cX4_layer 114 = .ok (.getfield 19, 3) := by decide +kernel
theorem dX4_layer_117 : decode cX4_layer 117 = .ok (.iload_n 1, 1) := by decide +kernel
theorem dX4_layer_118 : decode cX4_layer 118 = .ok (.iload 5, 2) := by decide +kernel
theorem dX4_layer_120 : decode cX4_layer 120 = .ok (.bastore, 1) := by decide +kernel
theorem dX4_layer_121 : decode cX4_layer 121 = .ok (.return_, 1) := by decide +kernel
theorem dX4_mud_0 : decode cX4_mud 0 = .ok (.iload_n 1, 1) := by decide +kernel
theorem dX4_mud_1 : decode cX4_mud 1 = .ok (.iconst 0, 1) := by decide +kernel
theorem dX4_mud_2 : decode cX4_mud 2 = .ok (.sipush 300, 3) := by decide +kernel
theorem dX4_mud_5 : decode cX4_mud 5 = .ok (.invokestatic 59, 3) := by decide +kernel
theorem dX4_mud_8 : decode cX4_mud 8 = .ok (.istore_n 2, 1) := by decide +kernel
theorem dX4_mud_9 : decode cX4_mud 9 = .ok (.aload_n 0, 1) := by decide +kernel
theorem dX4_mud_10 : decode cX4_mud 10 = .ok (.iload_n 2, 1) := by decide +kernel
theorem dX4_mud_11 : decode cX4_mud 11 = .ok (.ifCond .ne 7, 3) := by decide +kernel
theorem dX4_mud_14 : decode cX4_mud 14 = .ok (.iconst 1, 1) := by decide +kernel
theorem dX4_mud_15 : decode cX4_mud 15 = .ok (.goto 15, 3) := by decide +kernel
theorem dX4_mud_18 : decode cX4_mud 18 = .ok (.aload_n 0, 1) := by decide +kernel
theorem dX4_mud_19 : decode cX4_mud 19 = .ok (.getfield 70, 3) := by decide +kernel
theorem dX4_mud_22 : decode cX4_mud 22 = .ok (.ifCond .eq 7, 3) := by decide +kernel
theorem dX4_mud_25 : decode cX4_mud 25 = .ok (.iconst 2, 1) := by decide +kernel
theorem dX4_mud_26 : decode cX4_mud 26 = .ok (.goto 4, 3) := by decide +kernel
theorem dX4_mud_29 : decode cX4_mud 29 = .ok (.iconst 0, 1) := by decide +kernel
theorem dX4_mud_30 : decode cX4_mud 30 = .ok (.invokevirtual 66, 3) := by decide +kernel
theorem dX4_mud_33 : decode cX4_mud 33 = .ok (.ifCond .ne 5, 3) := by decide +kernel
theorem dX4_mud_36 : decode cX4_mud 36 = .ok (.iconst 0, 1) := by decide +kernel
theorem dX4_mud_37 : decode cX4_mud 37 = .ok (.ireturn, 1) := by decide +kernel
theorem dX4_mud_38 : decode cX4_mud 38 = .ok (.aload_n 0, 1) := by decide +kernel
theorem dX4_mud_39 : decode cX4_mud 39 = .ok (.getfield 23, 3) := by decide +kernel
theorem dX4_mud_42 : decode cX4_mud 42 = .ok (.istore_n 3, 1) := by decide +kernel
theorem dX4_mud_43 : decode cX4_mud 43 = .ok (.aload_n 0, 1) := by decide +kernel
theorem dX4_mud_44 : decode cX4_mud 44 = .ok (.iload_n 1, 1) := by decide +kernel
theorem dX4_mud_45 : decode cX4_mud 45 = .ok (.putfield 23, 3) := by decide +kernel
theorem dX4_mud_48 : decode cX4_mud 48 = .ok (.aload_n 0, 1) := by decide +kernel
theorem dX4_mud_49 : decode cX4_mud 49 = .ok (.iconst 0, 1) := by decide +kernel
theorem dX4_mud_50 : decode cX4_mud 50 = .ok (.putfield 74, 3) := by decide +kernel
theorem dX4_mud_53 : decode cX4_mud 53 = .ok (.iload_n 3, 1) := by decide +kernel
theorem dX4_mud_54 : decode cX4_mud 54 = .ok (.ireturn, 1) := by decide +kernel
theorem dX4_column_0 : decode cX4_column 0 = .ok (.aload_n 0, 1) := by decide +kernel
theorem dX4_column_1 : decode cX4_column 1 = .ok (.getfield 23, 3) := by decide +kernel
theorem dX4_column_4 : decode cX4_column 4 = .ok (.aload_n 0, 1) := by decide +kernel
theorem dX4_column_5 : decode cX4_column 5 = .ok (.getfield 63, 3) := by decide +kernel
theorem dX4_column_8 : decode cX4_column 8 = .ok (.aload_n 0, 1) := by decide +kernel
theorem dX4_column_9 : decode cX4_column 9 = .ok (.getfield 77, 3) := by decide +kernel
theorem dX4_column_12 : decode cX4_column 12 = .ok (.isub, 1) := by decide +kernel
theorem dX4_column_13 : decode cX4_column 13 = .ok (.aload_n 0, 1) := by decide +kernel
theorem dX4_column_14 : decode cX4_column 14 = .ok (.getfield 80, 3) := by decide +kernel
theorem dX4_column_17 : decode cX4_column 17 = .ok (.isub, 1) := by decide +kernel
theorem dX4_column_18 : decode cX4_column 18 = .ok (.imul, 1) := by decide +kernel
theorem dX4_column_19 : decode cX4_column 19 = .ok (.bipush 100, 2) := by decide +kernel
theorem dX4_column_21 : decode cX4_column 21 = .ok (.aload_n 0, 1) := by decide +kernel
theorem dX4_column_22 : decode cX4_column 22 = .ok (.getfield 80, 3) := by decide +kernel
theorem dX4_column_25 : decode cX4_column 25 = .ok (.imul, 1) := by decide +kernel
theorem dX4_column_26 : decode cX4_column 26 = .ok (.iadd, 1) := by decide +kernel
theorem dX4_column_27 : decode cX4_column 27 = .ok (.bipush 10, 2) := by decide +kernel
theorem dX4_column_29 : decode cX4_column 29 = .ok (.idiv, 1) := by decide +kernel
theorem dX4_column_30 : decode cX4_column 30 = .ok (.ireturn, 1) := by decide +kernel
theorem dX4_bottom_0 : decode cX4_bottom 0 = .ok (.aload_n 0, 1) := by decide +kernel
theorem dX4_bottom_1 : decode cX4_bottom 1 = .ok (.invokevirtual 83, 3) := by decide +kernel
theorem dX4_bottom_4 : decode cX4_bottom 4 = .ok (.aload_n 0, 1) := by decide +kernel
theorem dX4_bottom_5 : decode cX4_bottom 5 = .ok (.getfield 87, 3) := by decide +kernel
theorem dX4_bottom_8 : decode cX4_bottom 8 = .ok (.iadd, 1) := by decide +kernel
theorem dX4_bottom_9 : decode cX4_bottom 9 = .ok (.ireturn, 1) := by decide +kernel
theorem dX4_gasPressure_0 : decode cX4_gasPressure 0 = .ok (.aload_n 0, 1) := by decide +kernel
theorem dX4_gasPressure_1 : decode cX4_gasPressure 1 = .ok (.getfield 23, 3) := by decide +kernel
theorem dX4_gasPressure_4 : decode cX4_gasPressure 4 = .ok (.aload_n 0, 1) := by decide +kernel
theorem dX4_gasPressure_5 : decode cX4_gasPressure 5 = .ok (.getfield 90, 3) := by decide +kernel
theorem dX4_gasPressure_8 : decode cX4_gasPressure 8 = .ok (.imul, 1) := by decide +kernel
theorem dX4_gasPressure_9 : decode cX4_gasPressure 9 = .ok (.bipush 10, 2) := by decide +kernel
theorem dX4_gasPressure_11 : decode cX4_gasPressure 11 = .ok (.idiv, 1) := by decide +kernel
theorem dX4_gasPressure_12 : decode cX4_gasPressure 12 = .ok (.aload_n 0, 1) := by decide +kernel
theorem dX4_gasPressure_13 : decode cX4_gasPressure 13 = .ok (.getfield 87, 3) := by decide +kernel
theorem dX4_gasPressure_16 : decode cX4_gasPressure 16 = .ok (.iadd, 1) := by decide +kernel
theorem dX4_gasPressure_17 : decode cX4_gasPressure 17 = .ok (.istore_n 1, 1) := by decide +kernel
theorem dX4_gasPressure_18 : decode cX4_gasPressure 18 = .ok (.iload_n 1, 1) := by decide +kernel
theorem dX4_gasPressure_19 : decode cX4_gasPressure 19 = .ok (.iconst 1, 1) := by decide +kernel
theorem dX4_gasPressure_20 : decode cX4_gasPressure 20 = .ok (.if_icmp .ge 7, 3) := by decide +kernel
theorem dX4_gasPressure_23 : decode cX4_gasPressure 23 = .ok (.iconst 1, 1) := by decide +kernel
theorem dX4_gasPressure_24 : decode cX4_gasPressure 24 = .ok (.goto 4, 3) := by decide +kernel
theorem dX4_gasPressure_27 : decode cX4_gasPressure 27 = .ok (.iload_n 1, 1) := by decide +kernel
theorem dX4_gasPressure_28 : decode cX4_gasPressure 28 = .ok (.ireturn, 1) := by decide +kernel
theorem dX4_foot_0 : decode cX4_foot 0 = .ok (.aload_n 0, 1) := by decide +kernel
theorem dX4_foot_1 : decode cX4_foot 1 = .ok (.getfield 93, 3) := by decide +kernel
theorem dX4_foot_4 : decode cX4_foot 4 = .ok (.aload_n 0, 1) := by decide +kernel
theorem dX4_foot_5 : decode cX4_foot 5 = .ok (.getfield 77, 3) := by decide +kernel
theorem dX4_foot_8 : decode cX4_foot 8 = .ok (.if_icmp .le 15, 3) := by decide +kernel
theorem dX4_foot_11 : decode cX4_foot 11 = .ok (.aload_n 0, 1) := by decide +kernel
theorem dX4_foot_12 : decode cX4_foot 12 = .ok (.getfield 93, 3) := by decide +kernel
theorem dX4_foot_15 : decode cX4_foot 15 = .ok (.aload_n 0, 1) := by decide +kernel
theorem dX4_foot_16 : decode cX4_foot 16 = .ok (.getfield 77, 3) := by decide +kernel
theorem dX4_foot_19 : decode cX4_foot 19 = .ok (.isub, 1) := by decide +kernel
theorem dX4_foot_20 : decode cX4_foot 20 = .ok (.goto 4, 3) := by decide +kernel
theorem dX4_foot_23 : decode cX4_foot 23 = .ok (.iconst 0, 1) := by decide +kernel
theorem dX4_foot_24 : decode cX4_foot 24 = .ok (.istore_n 1, 1) := by decide +kernel
theorem dX4_foot_25 : decode cX4_foot 25 = .ok (.aload_n 0, 1) := by decide +kernel
theorem dX4_foot_26 : decode cX4_foot 26 = .ok (.getfield 87, 3) := by decide +kernel
theorem dX4_foot_29 : decode cX4_foot 29 = .ok (.aload_n 0, 1) := by decide +kernel
theorem dX4_foot_30 : decode cX4_foot 30 = .ok (.getfield 23, 3) := by decide +kernel
theorem dX4_foot_33 : decode cX4_foot 33 = .ok (.aload_n 0, 1) := by decide +kernel
theorem dX4_foot_34 : decode cX4_foot 34 = .ok (.getfield 96, 3) := by decide +kernel
theorem dX4_foot_37 : decode cX4_foot 37 = .ok (.lconst 0, 1) := by decide +kernel
theorem dX4_foot_38 : decode cX4_foot 38 = .ok (.lcmp, 1) := by decide +kernel
theorem dX4_foot_39 : decode cX4_foot 39 = .ok (.ifCond .le 18, 3) := by decide +kernel
theorem dX4_foot_42 : decode cX4_foot 42 = .ok (.aload_n 0, 1) := by decide +kernel
theorem dX4_foot_43 : decode cX4_foot 43 = .ok (.getfield 90, 3) := by decide +kernel
theorem dX4_foot_46 : decode cX4_foot 46 = .ok (.aload_n 0, 1) := by decide +kernel
theorem dX4_foot_47 : decode cX4_foot 47 = .ok (.getfield 93, 3) := by decide +kernel
theorem dX4_foot_50 : decode cX4_foot 50 = .ok (.if_icmp .ge 7, 3) := by decide +kernel
theorem dX4_foot_53 : decode cX4_foot 53 = .ok (.iload_n 1, 1) := by decide +kernel
theorem dX4_foot_54 : decode cX4_foot 54 = .ok (.goto 7, 3) := by decide +kernel
theorem dX4_foot_57 : decode cX4_foot 57 = .ok (.aload_n 0, 1) := by decide +kernel
theorem dX4_foot_58 : decode cX4_foot 58 = .ok (.getfield 93, 3) := by decide +kernel
theorem dX4_foot_61 : decode cX4_foot 61 = .ok (.imul, 1) := by decide +kernel
theorem dX4_foot_62 : decode cX4_foot 62 = .ok (.bipush 10, 2) := by decide +kernel
theorem dX4_foot_64 : decode cX4_foot 64 = .ok (.idiv, 1) := by decide +kernel
theorem dX4_foot_65 : decode cX4_foot 65 = .ok (.iadd, 1) := by decide +kernel
theorem dX4_foot_66 : decode cX4_foot 66 = .ok (.ireturn, 1) := by decide +kernel
theorem dX4_measure_0 : decode cX4_measure 0 = .ok (.aload_n 0, 1) := by decide +kernel
theorem dX4_measure_1 : decode cX4_measure 1 = .ok (.getfield 96, 3) := by decide +kernel
theorem dX4_measure_4 : decode cX4_measure 4 = .ok (.aload_n 0, 1) := by decide +kernel
theorem dX4_measure_5 : decode cX4_measure 5 = .ok (.invokevirtual 100, 3) := by decide +kernel
theorem dX4_measure_8 : decode cX4_measure 8 = .ok (.i2l, 1) := by decide +kernel
theorem dX4_measure_9 : decode cX4_measure 9 = .ok (.ldiv, 1) := by decide +kernel
theorem dX4_measure_10 : decode cX4_measure 10 = .ok (.lstore_n 1, 1) := by decide +kernel
theorem dX4_measure_11 : decode cX4_measure 11 = .ok (.aload_n 0, 1) := by decide +kernel
theorem dX4_measure_12 : decode cX4_measure 12 = .ok (.getfield 63, 3) := by decide +kernel
theorem dX4_measure_15 : decode cX4_measure 15 = .ok (.aload_n 0, 1) := by decide +kernel
theorem dX4_measure_16 : decode cX4_measure 16 = .ok (.getfield 80, 3) := by decide +kernel
theorem dX4_measure_19 : decode cX4_measure 19 = .ok (.isub, 1) := by decide +kernel
theorem dX4_measure_20 : decode cX4_measure 20 = .ok (.i2l, 1) := by decide +kernel
theorem dX4_measure_21 : decode cX4_measure 21 = .ok (.lstore_n 3, 1) := by decide +kernel
theorem dX4_measure_22 : decode cX4_measure 22 = .ok (.aload_n 0, 1) := by decide +kernel
theorem dX4_measure_23 : decode cX4_measure 23 = .ok (.lload_n 1, 1) := by decide +kernel
theorem dX4_measure_24 : decode cX4_measure 24 = .ok (.lload_n 3, 1) := by decide +kernel
theorem dX4_measure_25 : decode cX4_measure 25 = .ok (.lcmp, 1) := by decide +kernel
theorem dX4_measure_26 : decode cX4_measure 26 = .ok (.ifCond .ge 7, 3) := by decide +kernel
theorem dX4_measure_29 : decode cX4_measure 29 = .ok (.lload_n 1, 1) := by decide +kernel
theorem dX4_measure_30 : decode cX4_measure 30 = .ok (.goto 4, 3) := by decide +kernel
theorem dX4_measure_33 : decode cX4_measure 33 = .ok (.lload_n 3, 1) := by decide +kernel
theorem dX4_measure_34 : decode cX4_measure 34 = .ok (.l2i, 1) := by decide +kernel
theorem dX4_measure_35 : decode cX4_measure 35 = .ok (.putfield 77, 3) := by decide +kernel
theorem dX4_measure_38 : decode cX4_measure 38 = .ok (.return_, 1) := by decide +kernel
theorem dX4_rise_0 : decode cX4_rise 0 = .ok (.aload_n 0, 1) := by decide +kernel
theorem dX4_rise_1 : decode cX4_rise 1 = .ok (.dup, 1) := by decide +kernel
theorem dX4_rise_2 : decode cX4_rise 2 = .ok (.getfield 90, 3) := by decide +kernel
theorem dX4_rise_5 : decode cX4_rise 5 = .ok (.iload_n 1, 1) := by decide +kernel
theorem dX4_rise_6 : decode cX4_rise 6 = .ok (.ifCond .eq 8, 3) := by decide +kernel
theorem dX4_rise_9 : decode cX4_rise 9 = .ok (.bipush 20, 2) := by decide +kernel
theorem dX4_rise_11 : decode cX4_rise 11 = .ok (.goto 16, 3) := by decide +kernel
theorem dX4_rise_14 : decode cX4_rise 14 = .ok (.aload_n 0, 1) := by decide +kernel
theorem dX4_rise_15 : decode cX4_rise 15 = .ok (.getfield 70, 3) := by decide +kernel
theorem dX4_rise_18 : decode cX4_rise 18 = .ok (.ifCond .eq 7, 3) := by decide +kernel
theorem dX4_rise_21 : decode cX4_rise 21 = .ok (.iconst 2, 1) := by decide +kernel
theorem dX4_rise_22 : decode cX4_rise 22 = .ok (.goto 5, 3) := by decide +kernel
theorem dX4_rise_25 : decode cX4_rise 25 = .ok (.bipush 8, 2) := by decide +kernel
theorem dX4_rise_27 : decode cX4_rise 27 = .ok (.isub, 1) := by decide +kernel
theorem dX4_rise_28 : decode cX4_rise 28 = .ok (.putfield 90, 3) := by decide +kernel
theorem dX4_rise_31 : decode cX4_rise 31 = .ok (.aload_n 0, 1) := by decide +kernel
theorem dX4_rise_32 : decode cX4_rise 32 = .ok (.aload_n 0, 1) := by decide +kernel
theorem dX4_rise_33 : decode cX4_rise 33 = .ok (.getfield 90, 3) := by decide +kernel
theorem dX4_rise_36 : decode cX4_rise 36 = .ok (.ifCond .ge 7, 3) := by decide +kernel
theorem dX4_rise_39 : decode cX4_rise 39 = .ok (.iconst 0, 1) := by decide +kernel
theorem dX4_rise_40 : decode cX4_rise 40 = .ok (.goto 7, 3) := by decide +kernel
theorem dX4_rise_43 : decode cX4_rise 43 = .ok (.aload_n 0, 1) := by decide +kernel
theorem dX4_rise_44 : decode cX4_rise 44 = .ok (.getfield 90, 3) := by decide +kernel
theorem dX4_rise_47 : decode cX4_rise 47 = .ok (.putfield 90, 3) := by decide +kernel
theorem dX4_rise_50 : decode cX4_rise 50 = .ok (.aload_n 0, 1) := by decide +kernel
theorem dX4_rise_51 : decode cX4_rise 51 = .ok (.getfield 90, 3) := by decide +kernel
theorem dX4_rise_54 : decode cX4_rise 54 = .ok (.ifCond .ne 41, 3) := by decide +kernel
theorem dX4_rise_57 : decode cX4_rise 57 = .ok (.iload_n 1, 1) := by decide +kernel
theorem dX4_rise_58 : decode cX4_rise 58 = .ok (.ifCond .ne 10, 3) := by decide +kernel
theorem dX4_rise_61 : decode cX4_rise 61 = .ok (.aload_n 0, 1) := by decide +kernel
theorem dX4_rise_62 : decode cX4_rise 62 = .ok (.getfield 70, 3) := by decide +kernel
theorem dX4_rise_65 : decode cX4_rise 65 = .ok (.ifCond .ne 30, 3) := by decide +kernel
theorem dX4_rise_68 : decode cX4_rise 68 = .ok (.aload_n 0, 1) := by decide +kernel
theorem dX4_rise_69 : decode cX4_rise 69 = .ok (.dup, 1) := by decide +kernel
theorem dX4_rise_70 : decode cX4_rise 70 = .ok (.getfield 103, 3) := by decide +kernel
theorem dX4_rise_73 : decode cX4_rise 73 = .ok (.aload_n 0, 1) := by decide +kernel
theorem dX4_rise_74 : decode cX4_rise 74 = .ok (.getfield 77, 3) := by decide +kernel
theorem dX4_rise_77 : decode cX4_rise 77 = .ok (.i2l, 1) := by decide +kernel
theorem dX4_rise_78 : decode cX4_rise 78 = .ok (.ladd, 1) := by decide +kernel
theorem dX4_rise_79 : decode cX4_rise 79 = .ok (.putfield 103, 3) := by decide +kernel
theorem dX4_rise_82 : decode cX4_rise 82 = .ok (.aload_n 0, 1) := by decide +kernel
theorem dX4_rise_83 : decode cX4_rise 83 = .ok (.lconst 0, 1) := by decide +kernel
theorem dX4_rise_84 : decode cX4_rise 84 = .ok (.putfield 96, 3) := by decide +kernel
theorem dX4_rise_87 : decode cX4_rise 87 = .ok (.aload_n 0, 1) := by decide +kernel
theorem dX4_rise_88 : decode cX4_rise 88 = .ok (.iconst 0, 1) := by decide +kernel
theorem dX4_rise_89 : decode cX4_rise 89 = .ok (.putfield 77, 3) := by decide +kernel
theorem dX4_rise_92 : decode cX4_rise 92 = .ok (.goto 7, 3) := by decide +kernel
theorem dX4_rise_95 : decode cX4_rise 95 = .ok (.aload_n 0, 1) := by decide +kernel
theorem dX4_rise_96 : decode cX4_rise 96 = .ok (.invokevirtual 106, 3) := by decide +kernel
theorem dX4_rise_99 : decode cX4_rise 99 = .ok (.return_, 1) := by decide +kernel
theorem dX4_shut_0 : decode cX4_shut 0 = .ok (.aload_n 0, 1) := by decide +kernel
theorem dX4_shut_1 : decode cX4_shut 1 = .ok (.aload_n 0, 1) := by decide +kernel
theorem dX4_shut_2 : decode cX4_shut 2 = .ok (.getfield 63, 3) := by decide +kernel
theorem dX4_shut_5 : decode cX4_shut 5 = .ok (.invokevirtual 109, 3) := by decide +kernel
theorem dX4_shut_8 : decode cX4_shut 8 = .ok (.aload_n 0, 1) := by decide +kernel
theorem dX4_shut_9 : decode cX4_shut 9 = .ok (.invokevirtual 83, 3) := by decide +kernel
theorem dX4_shut_12 : decode cX4_shut 12 = .ok (.isub, 1) := by decide +kernel
theorem dX4_shut_13 : decode cX4_shut 13 = .ok (.istore_n 1, 1) := by decide +kernel
theorem dX4_shut_14 : decode cX4_shut 14 = .ok (.aload_n 0, 1) := by decide +kernel
theorem dX4_shut_15 : decode cX4_shut 15 = .ok (.iload_n 1, 1) := by decide +kernel
theorem dX4_shut_16 : decode cX4_shut 16 = .ok (.ifCond .le 7, 3) := by decide +kernel
theorem dX4_shut_19 : decode cX4_shut 19 = .ok (.iload_n 1, 1) := by decide +kernel
theorem dX4_shut_20 : decode cX4_shut 20 = .ok (.goto 4, 3) := by decide +kernel
theorem dX4_shut_23 : decode cX4_shut 23 = .ok (.iconst 0, 1) := by decide +kernel
theorem dX4_shut_24 : decode cX4_shut 24 = .ok (.putfield 87, 3) := by decide +kernel
theorem dX4_shut_27 : decode cX4_shut 27 = .ok (.aload_n 0, 1) := by decide +kernel
theorem dX4_shut_28 : decode cX4_shut 28 = .ok (.getfield 87, 3) := by decide +kernel
theorem dX4_shut_31 : decode cX4_shut 31 = .ok (.aload_n 0, 1) := by decide +kernel
theorem dX4_shut_32 : decode cX4_shut 32 = .ok (.getfield 30, 3) := by decide +kernel
theorem dX4_shut_35 : decode cX4_shut 35 = .ok (.if_icmp .le 21, 3) := by decide +kernel
theorem dX4_shut_38 : decode cX4_shut 38 = .ok (.aload_n 0, 1) := by decide +kernel
theorem dX4_shut_39 : decode cX4_shut 39 = .ok (.iconst 0, 1) := by decide +kernel
theorem dX4_shut_40 : decode cX4_shut 40 = .ok (.putfield 70, 3) := by decide +kernel
theorem dX4_shut_43 : decode cX4_shut 43 = .ok (.aload_n 0, 1) := by decide +kernel
theorem dX4_shut_44 : decode cX4_shut 44 = .ok (.iconst 0, 1) := by decide +kernel
theorem dX4_shut_45 : decode cX4_shut 45 = .ok (.putfield 87, 3) := by decide +kernel
theorem dX4_shut_48 : decode cX4_shut 48 = .ok (.aload_n 0, 1) := by decide +kernel
theorem dX4_shut_49 : decode cX4_shut 49 = .ok (.aload_n 0, 1) := by decide +kernel
theorem dX4_shut_50 : decode cX4_shut 50 = .ok (.getfield 112, 3) := by decide +kernel
theorem dX4_shut_53 : decode cX4_shut 53 = .ok (.putfield 115, 3) := by decide +kernel
theorem dX4_shut_56 : decode cX4_shut 56 = .ok (.return_, 1) := by decide +kernel
theorem dX4_flow_0 : decode cX4_flow 0 = .ok (.aload_n 0, 1) := by decide +kernel
theorem dX4_flow_1 : decode cX4_flow 1 = .ok (.aload_n 0, 1) := by decide +kernel
theorem dX4_flow_2 : decode cX4_flow 2 = .ok (.getfield 63, 3) := by decide +kernel
theorem dX4_flow_5 : decode cX4_flow 5 = .ok (.invokevirtual 109, 3) := by decide +kernel
theorem dX4_flow_8 : decode cX4_flow 8 = .ok (.aload_n 0, 1) := by decide +kernel
theorem dX4_flow_9 : decode cX4_flow 9 = .ok (.invokevirtual 118, 3) := by decide +kernel
theorem dX4_flow_12 : decode cX4_flow 12 = .ok (.isub, 1) := by decide +kernel
theorem dX4_flow_13 : decode cX4_flow 13 = .ok (.istore_n 1, 1) := by decide +kernel
theorem dX4_flow_14 : decode cX4_flow 14 = .ok (.aload_n 0, 1) := by decide +kernel
theorem dX4_flow_15 : decode cX4_flow 15 = .ok (.getfield 63, 3) := by decide +kernel
theorem dX4_flow_18 : decode cX4_flow 18 = .ok (.invokestatic 55, 3) := by decide +kernel
theorem dX4_flow_21 : decode cX4_flow 21 = .ok (.istore_n 2, 1) := by decide +kernel
theorem dX4_flow_22 : decode cX4_flow 22 = .ok (.lconst 1, 1) := by decide +kernel
theorem dX4_flow_23 : decode cX4_flow 23 = .ok (.iload_n 1, 1) := by decide +kernel
theorem dX4_flow_24 : decode cX4_flow 24 = .ok (.i2l, 1) := by decide +kernel
theorem dX4_flow_25 : decode cX4_flow 25 = .ok (.aload_n 0, 1) := by decide +kernel
theorem dX4_flow_26 : decode cX4_flow 26 = .ok (.getfield 16, 3) := by decide +kernel
theorem dX4_flow_29 : decode cX4_flow 29 = .ok (.iload_n 2, 1) := by decide +kernel
theorem dX4_flow_30 : decode cX4_flow 30 = .ok (.iaload, 1) := by decide +kernel
theorem dX4_flow_31 : decode cX4_flow 31 = .ok (.i2l, 1) := by decide +kernel
theorem dX4_flow_32 : decode cX4_flow 32 = .ok (.lmul, 1) := by decide +kernel
theorem dX4_flow_33 : decode cX4_flow 33 = .ok (.ldc2_w 121, 3) := by decide +kernel
theorem dX4_flow_36 : decode cX4_flow 36 = .ok (.ldiv, 1) := by decide +kernel
theorem dX4_flow_37 : decode cX4_flow 37 = .ok (.ladd, 1) := by decide +kernel
theorem dX4_flow_38 : decode cX4_flow 38 = .ok (.lstore_n 3, 1) := by decide +kernel
theorem dX4_flow_39 : decode cX4_flow 39 = .ok (.lload_n 3, 1) := by decide +kernel
theorem dX4_flow_40 : decode cX4_flow 40 = .ok (.ldc2_w 123, 3) := by decide +kernel
theorem dX4_flow_43 : decode cX4_flow 43 = .ok (.lcmp, 1) := by decide +kernel
theorem dX4_flow_44 : decode cX4_flow 44 = .ok (.ifCond .le 9, 3) := by decide +kernel
theorem dX4_flow_47 : decode cX4_flow 47 = .ok (.ldc2_w 123, 3) := by decide +kernel
theorem dX4_flow_50 : decode cX4_flow 50 = .ok (.goto 4, 3) := by decide +kernel
theorem dX4_flow_53 : decode cX4_flow 53 = .ok (.lload_n 3, 1) := by decide +kernel
theorem dX4_flow_54 : decode cX4_flow 54 = .ok (.lstore_n 3, 1) := by decide +kernel
theorem dX4_flow_55 : decode cX4_flow 55 = .ok (.aload_n 0, 1) := by decide +kernel
theorem dX4_flow_56 : decode cX4_flow 56 = .ok (.iconst 1, 1) := by decide +kernel
theorem dX4_flow_57 : decode cX4_flow 57 = .ok (.putfield 125, 3) := by decide +kernel
theorem dX4_flow_60 : decode cX4_flow 60 = .ok (.aload_n 0, 1) := by decide +kernel
theorem dX4_flow_61 : decode cX4_flow 61 = .ok (.getfield 19, 3) := by decide +kernel
theorem dX4_flow_64 : decode cX4_flow 64 = .ok (.iload_n 2, 1) := by decide +kernel
theorem dX4_flow_65 : decode cX4_flow 65 = .ok (.baload, 1) := by decide +kernel
theorem dX4_flow_66 : decode cX4_flow 66 = .ok (.ifCond .ne 47, 3) := by decide +kernel
theorem dX4_flow_69 : decode cX4_flow 69 = .ok (.aload_n 0, 1) := by decide +kernel
theorem dX4_flow_70 : decode cX4_flow 70 = .ok (.getfield 63, 3) := by decide +kernel
theorem dX4_flow_73 : decode cX4_flow 73 = .ok (.aload_n 0, 1) := by decide +kernel
theorem dX4_flow_74 : decode cX4_flow 74 = .ok (.getfield 77, 3) := by decide +kernel
theorem dX4_flow_77 : decode cX4_flow 77 = .ok (.isub, 1) := by decide +kernel
theorem dX4_flow_78 : decode cX4_flow 78 = .ok (.istore 5, 2) := by decide +kernel
theorem dX4_flow_80 : decode cX4_flow 80 = .ok (.aload_n 0, 1) := by decide +kernel
theorem dX4_flow_81 : decode cX4_flow 81 = .ok (.aload_n 0, 1) := by decide +kernel
theorem dX4_flow_82 : decode cX4_flow 82 = .ok (.getfield 80, 3) := by decide +kernel
theorem dX4_flow_85 : decode cX4_flow 85 = .ok (.i2l, 1) := by decide +kernel
theorem dX4_flow_86 : decode cX4_flow 86 = .ok (.lload_n 3, 1) := by decide +kernel
theorem dX4_flow_87 : decode cX4_flow 87 = .ok (.ladd, 1) := by decide +kernel
theorem dX4_flow_88 : decode cX4_flow 88 = .ok (.iload 5, 2) := by decide +kernel
theorem dX4_flow_90 : decode cX4_flow 90 = .ok (.i2l, 1) := by decide +kernel
theorem dX4_flow_91 : decode cX4_flow 91 = .ok (.lcmp, 1) := by decide +kernel
theorem dX4_flow_92 : decode cX4_flow 92 = .ok (.ifCond .le 8, 3) := by decide +kernel
theorem dX4_flow_95 : decode cX4_flow 95 = .ok (.iload 5, 2) := by decide +kernel
theorem dX4_flow_97 : decode cX4_flow 97 = .ok (.goto 10, 3) := by decide +kernel
theorem dX4_flow_100 : decode cX4_flow 100 = .ok (.aload_n 0, 1) := by decide +kernel
theorem dX4_flow_101 : decode cX4_flow 101 = .ok (.getfield 80, 3) := by decide +kernel
theorem dX4_flow_104 : decode cX4_flow 104 = .ok (.lload_n 3, 1) := by decide +kernel
theorem dX4_flow_105 : decode cX4_flow 105 = .ok (.l2i, 1) := by decide +kernel
theorem dX4_flow_106 : decode cX4_flow 106 = .ok (.iadd, 1) := by decide +kernel
theorem dX4_flow_107 : decode cX4_flow 107 = .ok (.putfield 80, 3) := by decide +kernel
theorem dX4_flow_110 : decode cX4_flow 110 = .ok (.goto 58, 3) := by decide +kernel
theorem dX4_flow_113 : decode cX4_flow 113 = .ok (.aload_n 0, 1) := by decide +kernel
theorem dX4_flow_114 : decode cX4_flow 114 = .ok (.aload_n 0, 1) := by decide +kernel
theorem dX4_flow_115 : decode cX4_flow 115 = .ok (.getfield 96, 3) := by decide +kernel
theorem dX4_flow_118 : decode cX4_flow 118 = .ok (.lconst 0, 1) := by decide +kernel
theorem dX4_flow_119 : decode cX4_flow 119 = .ok (.lcmp, 1) := by decide +kernel
theorem dX4_flow_120 : decode cX4_flow 120 = .ok (.ifCond .le 10, 3) := by decide +kernel
theorem dX4_flow_123 : decode cX4_flow 123 = .ok (.aload_n 0, 1) := by decide +kernel
theorem dX4_flow_124 : decode cX4_flow 124 = .ok (.getfield 90, 3) := by decide +kernel
theorem dX4_flow_127 : decode cX4_flow 127 = .ok (.goto 7, 3) := by decide +kernel
theorem dX4_flow_130 : decode cX4_flow 130 = .ok (.aload_n 0, 1) := by decide +kernel
theorem dX4_flow_131 : decode cX4_flow 131 = .ok (.getfield 63, 3) := by decide +kernel
theorem dX4_flow_134 : decode cX4_flow 134 = .ok (.putfield 90, 3) := by decide +kernel
theorem dX4_flow_137 : decode cX4_flow 137 = .ok (.aload_n 0, 1) := by decide +kernel
theorem dX4_flow_138 : decode cX4_flow 138 = .ok (.dup, 1) := by decide +kernel
theorem dX4_flow_139 : decode cX4_flow 139 = .ok (.getfield 96, 3) := by decide +kernel
theorem dX4_flow_142 : decode cX4_flow 142 = .ok (.lload_n 3, 1) := by decide +kernel
theorem dX4_flow_143 : decode cX4_flow 143 = .ok (.aload_n 0, 1) := by decide +kernel
theorem dX4_flow_144 : decode cX4_flow 144 = .ok (.invokevirtual 118, 3) := by decide +kernel
theorem dX4_flow_147 : decode cX4_flow 147 = .ok (.ifCond .le 10, 3) := by decide +kernel
theorem dX4_flow_150 : decode cX4_flow 150 = .ok (.aload_n 0, 1) := by decide +kernel
theorem dX4_flow_151 : decode cX4_flow 151 = .ok (.invokevirtual 118, 3) := by decide +kernel
theorem dX4_flow_154 : decode cX4_flow 154 = .ok (.goto 4, 3) := by decide +kernel
theorem dX4_flow_157 : decode cX4_flow 157 = .ok (.iconst 1, 1) := by decide +kernel
theorem dX4_flow_158 : decode cX4_flow 158 = .ok (.i2l, 1) := by decide +kernel
theorem dX4_flow_159 : decode cX4_flow 159 = .ok (.lmul, 1) := by decide +kernel
theorem dX4_flow_160 : decode cX4_flow 160 = .ok (.ladd, 1) := by decide +kernel
theorem dX4_flow_161 : decode cX4_flow 161 = .ok (.putfield 96, 3) := by decide +kernel
theorem dX4_flow_164 : decode cX4_flow 164 = .ok (.aload_n 0, 1) := by decide +kernel
theorem dX4_flow_165 : decode cX4_flow 165 = .ok (.invokevirtual 106, 3) := by decide +kernel
theorem dX4_flow_168 : decode cX4_flow 168 = .ok (.return_, 1) := by decide +kernel
theorem dX4_passOne_0 : decode cX4_passOne 0 = .ok (.aload_n 0, 1) := by decide +kernel
theorem dX4_passOne_1 : decode cX4_passOne 1 = .ok (.dup, 1) := by decide +kernel
theorem dX4_passOne_2 : decode cX4_passOne 2 = .ok (.getfield 128, 3) := by decide +kernel
theorem dX4_passOne_5 : decode cX4_passOne 5 = .ok (.iconst 1, 1) := by decide +kernel
theorem dX4_passOne_6 : decode cX4_passOne 6 = .ok (.iadd, 1) := by decide +kernel
theorem dX4_passOne_7 : decode cX4_passOne 7 = .ok (.putfield 128, 3) := by decide +kernel
theorem dX4_passOne_10 : decode cX4_passOne 10 = .ok (.aload_n 0, 1) := by decide +kernel
theorem dX4_passOne_11 : decode cX4_passOne 11 = .ok (.iconst 0, 1) := by decide +kernel
theorem dX4_passOne_12 : decode cX4_passOne 12 = .ok (.putfield 125, 3) := by decide +kernel
theorem dX4_passOne_15 : decode cX4_passOne 15 = .ok (.aload_n 0, 1) := by decide +kernel
theorem dX4_passOne_16 : decode cX4_passOne 16 = .ok (.getfield 96, 3) := by decide +kernel
theorem dX4_passOne_19 : decode cX4_passOne 19 = .ok (.lconst 0, 1) := by decide +kernel
theorem dX4_passOne_20 : decode cX4_passOne 20 = .ok (.lcmp, 1) := by decide +kernel
theorem dX4_passOne_21 : decode cX4_passOne 21 = .ok (.ifCond .le 8, 3) := by decide +kernel
theorem dX4_passOne_24 : decode cX4_passOne 24 = .ok (.aload_n 0, 1) := by decide +kernel
theorem dX4_passOne_25 : decode cX4_passOne 25 = .ok (.iload_n 1, 1) := by decide +kernel
theorem dX4_passOne_26 : decode cX4_passOne 26 = .ok (.invokevirtual 131, 3) := by decide +kernel
theorem dX4_passOne_29 : decode cX4_passOne 29 = .ok (.aload_n 0, 1) := by decide +kernel
theorem dX4_passOne_30 : decode cX4_passOne 30 = .ok (.getfield 70, 3) := by decide +kernel
theorem dX4_passOne_33 : decode cX4_passOne 33 = .ok (.ifCond .eq 7, 3) := by decide +kernel
theorem dX4_passOne_36 : decode cX4_passOne 36 = .ok (.aload_n 0, 1) := by decide +kernel
theorem dX4_passOne_37 : decode cX4_passOne 37 = .ok (.invokevirtual 135, 3) := by decide +kernel
theorem dX4_passOne_40 : decode cX4_passOne 40 = .ok (.aload_n 0, 1) := by decide +kernel
theorem dX4_passOne_41 : decode cX4_passOne 41 = .ok (.getfield 70, 3) := by decide +kernel
theorem dX4_passOne_44 : decode cX4_passOne 44 = .ok (.ifCond .ne 22, 3) := by decide +kernel
theorem dX4_passOne_47 : decode cX4_passOne 47 = .ok (.aload_n 0, 1) := by decide +kernel
theorem dX4_passOne_48 : decode cX4_passOne 48 = .ok (.aload_n 0, 1) := by decide +kernel
theorem dX4_passOne_49 : decode cX4_passOne 49 = .ok (.getfield 63, 3) := by decide +kernel
theorem dX4_passOne_52 : decode cX4_passOne 52 = .ok (.invokevirtual 109, 3) := by decide +kernel
theorem dX4_passOne_55 : decode cX4_passOne 55 = .ok (.aload_n 0, 1) := by decide +kernel
theorem dX4_passOne_56 : decode cX4_passOne 56 = .ok (.invokevirtual 118, 3) := by decide +kernel
theorem dX4_passOne_59 : decode cX4_passOne 59 = .ok (.if_icmp .le 7, 3) := by decide +kernel
theorem dX4_passOne_62 : decode cX4_passOne 62 = .ok (.aload_n 0, 1) := by decide +kernel
theorem dX4_passOne_63 : decode cX4_passOne 63 = .ok (.invokevirtual 138, 3) := by decide +kernel
theorem dX4_passOne_66 : decode cX4_passOne 66 = .ok (.aload_n 0, 1) := by decide +kernel
theorem dX4_passOne_67 : decode cX4_passOne 67 = .ok (.dup, 1) := by decide +kernel
theorem dX4_passOne_68 : decode cX4_passOne 68 = .ok (.getfield 141, 3) := by decide +kernel
theorem dX4_passOne_71 : decode cX4_passOne 71 = .ok (.aload_n 0, 1) := by decide +kernel
theorem dX4_passOne_72 : decode cX4_passOne 72 = .ok (.getfield 93, 3) := by decide +kernel
theorem dX4_passOne_75 : decode cX4_passOne 75 = .ok (.ifCond .le 24, 3) := by decide +kernel
theorem dX4_passOne_78 : decode cX4_passOne 78 = .ok (.aload_n 0, 1) := by decide +kernel
theorem dX4_passOne_79 : decode cX4_passOne 79 = .ok (.invokevirtual 144, 3) := by decide +kernel
theorem dX4_passOne_82 : decode cX4_passOne 82 = .ok (.aload_n 0, 1) := by decide +kernel
theorem dX4_passOne_83 : decode cX4_passOne 83 = .ok (.aload_n 0, 1) := by decide +kernel
theorem dX4_passOne_84 : decode cX4_passOne 84 = .ok (.getfield 93, 3) := by decide +kernel
theorem dX4_passOne_87 : decode cX4_passOne 87 = .ok (.invokevirtual 147, 3) := by decide +kernel
theorem dX4_passOne_90 : decode cX4_passOne 90 = .ok (.if_icmp .le 9, 3) := by decide +kernel
theorem dX4_passOne_93 : decode cX4_passOne 93 = .ok (.ldc2_w 150, 3) := by decide +kernel
theorem dX4_passOne_96 : decode cX4_passOne 96 = .ok (.goto 4, 3) := by decide +kernel
theorem dX4_passOne_99 : decode cX4_passOne 99 = .ok (.lconst 0, 1) := by decide +kernel
theorem dX4_passOne_100 : decode cX4_passOne 100 = .ok (.ladd, 1) := by decide +kernel
theorem dX4_passOne_101 : decode cX4_passOne 101 = .ok (.putfield 141, 3) := by decide +kernel
theorem dX4_passOne_104 : decode cX4_passOne 104 = .ok (.return_, 1) := by decide +kernel
theorem dX4_drill_0 : decode cX4_drill 0 = .ok (.iload_n 1, 1) := by decide +kernel
theorem dX4_drill_1 : decode cX4_drill 1 = .ok (.iconst 1, 1) := by decide +kernel
theorem dX4_drill_2 : decode cX4_drill 2 = .ok (.sipush 500, 3) := by decide +kernel
theorem dX4_drill_5 : decode cX4_drill 5 = .ok (.invokestatic 59, 3) := by decide +kernel
theorem dX4_drill_8 : decode cX4_drill 8 = .ok (.istore_n 2, 1) := by decide +kernel
theorem dX4_drill_9 : decode cX4_drill 9 = .ok (.aload_n 0, 1) := by decide +kernel
theorem dX4_drill_10 : decode cX4_drill 10 = .ok (.invokevirtual 152, 3) := by decide +kernel
theorem dX4_drill_13 : decode cX4_drill 13 = .ok (.ifCond .ne 34, 3) := by decide +kernel
theorem dX4_drill_16 : decode cX4_drill 16 = .ok (.iload_n 2, 1) := by decide +kernel
theorem dX4_drill_17 : decode cX4_drill 17 = .ok (.ifCond .eq 30, 3) := by decide +kernel
theorem dX4_drill_20 : decode cX4_drill 20 = .ok (.aload_n 0, 1) := by decide +kernel
theorem dX4_drill_21 : decode cX4_drill 21 = .ok (.getfield 63, 3) := by decide +kernel
theorem dX4_drill_24 : decode cX4_drill 24 = .ok (.iload_n 1, 1) := by decide +kernel
theorem dX4_drill_25 : decode cX4_drill 25 = .ok (.iadd, 1) := by decide +kernel
theorem dX4_drill_26 : decode cX4_drill 26 = .ok (.sipush 5000, 3) := by decide +kernel
theorem dX4_drill_29 : decode cX4_drill 29 = .ok (.if_icmp .gt 18, 3) := by decide +kernel
theorem dX4_drill_32 : decode cX4_drill 32 = .ok (.aload_n 0, 1) := by decide +kernel
theorem dX4_drill_33 : decode cX4_drill 33 = .ok (.getfield 128, 3) := by decide +kernel
theorem dX4_drill_36 : decode cX4_drill 36 = .ok (.iload_n 1, 1) := by decide +kernel
theorem dX4_drill_37 : decode cX4_drill 37 = .ok (.iadd, 1) := by decide +kernel
theorem dX4_drill_38 : decode cX4_drill 38 = .ok (.ldc 155, 2) := by decide +kernel
theorem dX4_drill_40 : decode cX4_drill 40 = .ok (.if_icmp .gt 7, 3) := by decide +kernel
theorem dX4_drill_43 : decode cX4_drill 43 = .ok (.iconst 1, 1) := by decide +kernel
theorem dX4_drill_44 : decode cX4_drill 44 = .ok (.goto 4, 3) := by decide +kernel
theorem dX4_drill_47 : decode cX4_drill 47 = .ok (.iconst 0, 1) := by decide +kernel
theorem dX4_drill_48 : decode cX4_drill 48 = .ok (.istore_n 3, 1) := by decide +kernel
theorem dX4_drill_49 : decode cX4_drill 49 = .ok (.aload_n 0, 1) := by decide +kernel
theorem dX4_drill_50 : decode cX4_drill 50 = .ok (.iload_n 2, 1) := by decide +kernel
theorem dX4_drill_51 : decode cX4_drill 51 = .ok (.ifCond .ne 7, 3) := by decide +kernel
theorem dX4_drill_54 : decode cX4_drill 54 = .ok (.iconst 1, 1) := by decide +kernel
theorem dX4_drill_55 : decode cX4_drill 55 = .ok (.goto 12, 3) := by decide +kernel
theorem dX4_drill_58 : decode cX4_drill 58 = .ok (.iload_n 3, 1) := by decide +kernel
theorem dX4_drill_59 : decode cX4_drill 59 = .ok (.ifCond .eq 7, 3) := by decide +kernel
theorem dX4_drill_62 : decode cX4_drill 62 = .ok (.iconst 0, 1) := by decide +kernel
theorem dX4_drill_63 : decode cX4_drill 63 = .ok (.goto 4, 3) := by decide +kernel
theorem dX4_drill_66 : decode cX4_drill 66 = .ok (.iconst 2, 1) := by decide +kernel
theorem dX4_drill_67 : decode cX4_drill 67 = .ok (.invokevirtual 66, 3) := by decide +kernel
theorem dX4_drill_70 : decode cX4_drill 70 = .ok (.ifCond .ne 5, 3) := by decide +kernel
theorem dX4_drill_73 : decode cX4_drill 73 = .ok (.iconst 0, 1) := by decide +kernel
theorem dX4_drill_74 : decode cX4_drill 74 = .ok (.ireturn, 1) := by decide +kernel
theorem dX4_drill_75 : decode cX4_drill 75 = .ok (.iconst 1, 1) := by decide +kernel
theorem dX4_drill_76 : decode cX4_drill 76 = .ok (.istore 4, 2) := by decide +kernel
theorem dX4_drill_78 : decode cX4_drill 78 = .ok (.iload 4, 2) := by decide +kernel
theorem dX4_drill_80 : decode cX4_drill 80 = .ok (.iload_n 1, 1) := by decide +kernel
theorem dX4_drill_81 : decode cX4_drill 81 = .ok (.if_icmp .gt 34, 3) := by decide +kernel
theorem dX4_drill_84 : decode cX4_drill 84 = .ok (.aload_n 0, 1) := by decide +kernel
theorem dX4_drill_85 : decode cX4_drill 85 = .ok (.dup, 1) := by decide +kernel
theorem dX4_drill_86 : decode cX4_drill 86 = .ok (.getfield 63, 3) := by decide +kernel
theorem dX4_drill_89 : decode cX4_drill 89 = .ok (.iconst 1, 1) := by decide +kernel
theorem dX4_drill_90 : decode cX4_drill 90 = .ok (.iadd, 1) := by decide +kernel
theorem dX4_drill_91 : decode cX4_drill 91 = .ok (.putfield 63, 3) := by decide +kernel
theorem dX4_drill_94 : decode cX4_drill 94 = .ok (.aload_n 0, 1) := by decide +kernel
theorem dX4_drill_95 : decode cX4_drill 95 = .ok (.iconst 0, 1) := by decide +kernel
theorem dX4_drill_96 : decode cX4_drill 96 = .ok (.invokevirtual 156, 3) := by decide +kernel
theorem dX4_drill_99 : decode cX4_drill 99 = .ok (.aload_n 0, 1) := by decide +kernel
theorem dX4_drill_100 : decode cX4_drill 100 = .ok (.getfield 125, 3) := by decide +kernel
theorem dX4_drill_103 : decode cX4_drill 103 = .ok (.ifCond .eq 6, 3) := by decide +kernel
theorem dX4_drill_106 : decode cX4_drill 106 = .ok (.iload 4, 2) := by decide +kernel
theorem dX4_drill_108 : decode cX4_drill 108 = .ok (.ireturn, 1) := by decide +kernel
theorem dX4_drill_109 : decode cX4_drill 109 = .ok (.iinc 4 1, 3) := by decide +kernel
theorem dX4_drill_112 : decode cX4_drill 112 = .ok (.goto (-34), 3) := by decide +kernel
theorem dX4_drill_115 : decode cX4_drill 115 = .ok (.iload_n 1, 1) := by decide +kernel
theorem dX4_drill_116 : decode cX4_drill 116 = .ok (.ireturn, 1) := by decide +kernel
theorem dX4_pass_0 : decode cX4_pass 0 = .ok (.iload_n 1, 1) := by decide +kernel
theorem dX4_pass_1 : decode cX4_pass 1 = .ok (.iconst 1, 1) := by decide +kernel
theorem dX4_pass_2 : decode cX4_pass 2 = .ok (.sipush 2000, 3) := by decide +kernel
theorem dX4_pass_5 : decode cX4_pass 5 = .ok (.invokestatic 59, 3) := by decide +kernel
theorem dX4_pass_8 : decode cX4_pass 8 = .ok (.istore_n 2, 1) := by decide +kernel
theorem dX4_pass_9 : decode cX4_pass 9 = .ok (.aload_n 0, 1) := by decide +kernel
theorem dX4_pass_10 : decode cX4_pass 10 = .ok (.iload_n 2, 1) := by decide +kernel
theorem dX4_pass_11 : decode cX4_pass 11 = .ok (.ifCond .ne 7, 3) := by decide +kernel
theorem dX4_pass_14 : decode cX4_pass 14 = .ok (.iconst 1, 1) := by decide +kernel
theorem dX4_pass_15 : decode cX4_pass 15 = .ok (.goto 19, 3) := by decide +kernel
theorem dX4_pass_18 : decode cX4_pass 18 = .ok (.aload_n 0, 1) := by decide +kernel
theorem dX4_pass_19 : decode cX4_pass 19 = .ok (.getfield 128, 3) := by decide +kernel
theorem dX4_pass_22 : decode cX4_pass 22 = .ok (.iload_n 1, 1) := by decide +kernel
theorem dX4_pass_23 : decode cX4_pass 23 = .ok (.iadd, 1) := by decide +kernel
theorem dX4_pass_24 : decode cX4_pass 24 = .ok (.ldc 155, 2) := by decide +kernel
theorem dX4_pass_26 : decode cX4_pass 26 = .ok (.if_icmp .le 7, 3) := by decide +kernel
theorem dX4_pass_29 : decode cX4_pass 29 = .ok (.iconst 2, 1) := by decide +kernel
theorem dX4_pass_30 : decode cX4_pass 30 = .ok (.goto 4, 3) := by decide +kernel
theorem dX4_pass_33 : decode cX4_pass 33 = .ok (.iconst 0, 1) := by decide +kernel
theorem dX4_pass_34 : decode cX4_pass 34 = .ok (.invokevirtual 66, 3) := by decide +kernel
theorem dX4_pass_37 : decode cX4_pass 37 = .ok (.ifCond .ne 5, 3) := by decide +kernel
theorem dX4_pass_40 : decode cX4_pass 40 = .ok (.iconst 0, 1) := by decide +kernel
theorem dX4_pass_41 : decode cX4_pass 41 = .ok (.ireturn, 1) := by decide +kernel
theorem dX4_pass_42 : decode cX4_pass 42 = .ok (.iconst 0, 1) := by decide +kernel
theorem dX4_pass_43 : decode cX4_pass 43 = .ok (.istore_n 3, 1) := by decide +kernel
theorem dX4_pass_44 : decode cX4_pass 44 = .ok (.iload_n 3, 1) := by decide +kernel
theorem dX4_pass_45 : decode cX4_pass 45 = .ok (.iload_n 1, 1) := by decide +kernel
theorem dX4_pass_46 : decode cX4_pass 46 = .ok (.if_icmp .ge 14, 3) := by decide +kernel
theorem dX4_pass_49 : decode cX4_pass 49 = .ok (.aload_n 0, 1) := by decide +kernel
theorem dX4_pass_50 : decode cX4_pass 50 = .ok (.iconst 0, 1) := by decide +kernel
theorem dX4_pass_51 : decode cX4_pass 51 = .ok (.invokevirtual 156, 3) := by decide +kernel
theorem dX4_pass_54 : decode cX4_pass 54 = .ok (.iinc 3 1, 3) := by decide +kernel
theorem dX4_pass_57 : decode cX4_pass 57 = .ok (.goto (-13), 3) := by decide +kernel
theorem dX4_pass_60 : decode cX4_pass 60 = .ok (.aload_n 0, 1) := by decide +kernel
theorem dX4_pass_61 : decode cX4_pass 61 = .ok (.getfield 77, 3) := by decide +kernel
theorem dX4_pass_64 : decode cX4_pass 64 = .ok (.aload_n 0, 1) := by decide +kernel
theorem dX4_pass_65 : decode cX4_pass 65 = .ok (.getfield 80, 3) := by decide +kernel
theorem dX4_pass_68 : decode cX4_pass 68 = .ok (.iadd, 1) := by decide +kernel
theorem dX4_pass_69 : decode cX4_pass 69 = .ok (.ireturn, 1) := by decide +kernel
theorem dX4_close_0 : decode cX4_close 0 = .ok (.aload_n 0, 1) := by decide +kernel
theorem dX4_close_1 : decode cX4_close 1 = .ok (.aload_n 0, 1) := by decide +kernel
theorem dX4_close_2 : decode cX4_close 2 = .ok (.getfield 70, 3) := by decide +kernel
theorem dX4_close_5 : decode cX4_close 5 = .ok (.ifCond .eq 7, 3) := by decide +kernel
theorem dX4_close_8 : decode cX4_close 8 = .ok (.iconst 1, 1) := by decide +kernel
theorem dX4_close_9 : decode cX4_close 9 = .ok (.goto 4, 3) := by decide +kernel
theorem dX4_close_12 : decode cX4_close 12 = .ok (.iconst 0, 1) := by decide +kernel
theorem dX4_close_13 : decode cX4_close 13 = .ok (.invokevirtual 66, 3) := by decide +kernel
theorem dX4_close_16 : decode cX4_close 16 = .ok (.ifCond .eq 13, 3) := by decide +kernel
theorem dX4_close_19 : decode cX4_close 19 = .ok (.aload_n 0, 1) := by decide +kernel
theorem dX4_close_20 : decode cX4_close 20 = .ok (.iconst 1, 1) := by decide +kernel
theorem dX4_close_21 : decode cX4_close 21 = .ok (.putfield 70, 3) := by decide +kernel
theorem dX4_close_24 : decode cX4_close 24 = .ok (.aload_n 0, 1) := by decide +kernel
theorem dX4_close_25 : decode cX4_close 25 = .ok (.iconst 0, 1) := by decide +kernel
theorem dX4_close_26 : decode cX4_close 26 = .ok (.putfield 87, 3) := by decide +kernel
theorem dX4_close_29 : decode cX4_close 29 = .ok (.return_, 1) := by decide +kernel
theorem dX4_open_0 : decode cX4_open 0 = .ok (.aload_n 0, 1) := by decide +kernel
theorem dX4_open_1 : decode cX4_open 1 = .ok (.aload_n 0, 1) := by decide +kernel
theorem dX4_open_2 : decode cX4_open 2 = .ok (.getfield 70, 3) := by decide +kernel
theorem dX4_open_5 : decode cX4_open 5 = .ok (.ifCond .eq 7, 3) := by decide +kernel
theorem dX4_open_8 : decode cX4_open 8 = .ok (.iconst 0, 1) := by decide +kernel
theorem dX4_open_9 : decode cX4_open 9 = .ok (.goto 4, 3) := by decide +kernel
theorem dX4_open_12 : decode cX4_open 12 = .ok (.iconst 1, 1) := by decide +kernel
theorem dX4_open_13 : decode cX4_open 13 = .ok (.invokevirtual 66, 3) := by decide +kernel
theorem dX4_open_16 : decode cX4_open 16 = .ok (.ifCond .ne 5, 3) := by decide +kernel
theorem dX4_open_19 : decode cX4_open 19 = .ok (.iconst 0, 1) := by decide +kernel
theorem dX4_open_20 : decode cX4_open 20 = .ok (.ireturn, 1) := by decide +kernel
theorem dX4_open_21 : decode cX4_open 21 = .ok (.aload_n 0, 1) := by decide +kernel
theorem dX4_open_22 : decode cX4_open 22 = .ok (.getfield 87, 3) := by decide +kernel
theorem dX4_open_25 : decode cX4_open 25 = .ok (.istore_n 1, 1) := by decide +kernel
theorem dX4_open_26 : decode cX4_open 26 = .ok (.aload_n 0, 1) := by decide +kernel
theorem dX4_open_27 : decode cX4_open 27 = .ok (.iconst 0, 1) := by decide +kernel
theorem dX4_open_28 : decode cX4_open 28 = .ok (.putfield 70, 3) := by decide +kernel
theorem dX4_open_31 : decode cX4_open 31 = .ok (.aload_n 0, 1) := by decide +kernel
theorem dX4_open_32 : decode cX4_open 32 = .ok (.iconst 0, 1) := by decide +kernel
theorem dX4_open_33 : decode cX4_open 33 = .ok (.putfield 87, 3) := by decide +kernel
theorem dX4_open_36 : decode cX4_open 36 = .ok (.iload_n 1, 1) := by decide +kernel
theorem dX4_open_37 : decode cX4_open 37 = .ok (.ireturn, 1) := by decide +kernel
theorem dX4_pump_0 : decode cX4_pump 0 = .ok (.iload_n 1, 1) := by decide +kernel
theorem dX4_pump_1 : decode cX4_pump 1 = .ok (.iconst 1, 1) := by decide +kernel
theorem dX4_pump_2 : decode cX4_pump 2 = .ok (.sipush 500, 3) := by decide +kernel
theorem dX4_pump_5 : decode cX4_pump 5 = .ok (.invokestatic 59, 3) := by decide +kernel
theorem dX4_pump_8 : decode cX4_pump 8 = .ok (.ifCond .eq 18, 3) := by decide +kernel
theorem dX4_pump_11 : decode cX4_pump 11 = .ok (.iload_n 2, 1) := by decide +kernel
theorem dX4_pump_12 : decode cX4_pump 12 = .ok (.iconst 0, 1) := by decide +kernel
theorem dX4_pump_13 : decode cX4_pump 13 = .ok (.sipush 300, 3) := by decide +kernel
theorem dX4_pump_16 : decode cX4_pump 16 = .ok (.invokestatic 59, 3) := by decide +kernel
theorem dX4_pump_19 : decode cX4_pump 19 = .ok (.ifCond .eq 7, 3) := by decide +kernel
theorem dX4_pump_22 : decode cX4_pump 22 = .ok (.iconst 1, 1) := by decide +kernel
theorem dX4_pump_23 : decode cX4_pump 23 = .ok (.goto 4, 3) := by decide +kernel
theorem dX4_pump_26 : decode cX4_pump 26 = .ok (.iconst 0, 1) := by decide +kernel
theorem dX4_pump_27 : decode cX4_pump 27 = .ok (.istore_n 3, 1) := by decide +kernel
theorem dX4_pump_28 : decode cX4_pump 28 = .ok (.aload_n 0, 1) := by decide +kernel
theorem dX4_pump_29 : decode cX4_pump 29 = .ok (.getfield 70, 3) := by decide +kernel
theorem dX4_pump_32 : decode cX4_pump 32 = .ok (.ifCond .eq 25, 3) := by decide +kernel
theorem dX4_pump_35 : decode cX4_pump 35 = .ok (.aload_n 0, 1) := by decide +kernel
theorem dX4_pump_36 : decode cX4_pump 36 = .ok (.getfield 63, 3) := by decide +kernel
theorem dX4_pump_39 : decode cX4_pump 39 = .ok (.ifCond .le 18, 3) := by decide +kernel
theorem dX4_pump_42 : decode cX4_pump 42 = .ok (.aload_n 0, 1) := by decide +kernel
theorem dX4_pump_43 : decode cX4_pump 43 = .ok (.getfield 128, 3) := by decide +kernel
theorem dX4_pump_46 : decode cX4_pump 46 = .ok (.iload_n 1, 1) := by decide +kernel
theorem dX4_pump_47 : decode cX4_pump 47 = .ok (.iadd, 1) := by decide +kernel
theorem dX4_pump_48 : decode cX4_pump 48 = .ok (.ldc 155, 2) := by decide +kernel
theorem dX4_pump_50 : decode cX4_pump 50 = .ok (.if_icmp .gt 7, 3) := by decide +kernel
theorem dX4_pump_53 : decode cX4_pump 53 = .ok (.iconst 1, 1) := by decide +kernel
theorem dX4_pump_54 : decode cX4_pump 54 = .ok (.goto 4, 3) := by decide +kernel
theorem dX4_pump_57 : decode cX4_pump 57 = .ok (.iconst 0, 1) := by decide +kernel
theorem dX4_pump_58 : decode cX4_pump 58 = .ok (.istore 4, 2) := by decide +kernel
theorem dX4_pump_60 : decode cX4_pump 60 = .ok (.aload_n 0, 1) := by decide +kernel
theorem dX4_pump_61 : decode cX4_pump 61 = .ok (.iload_n 3, 1) := by decide +kernel
theorem dX4_pump_62 : decode cX4_pump 62 = .ok (.ifCond .ne 7, 3) := by decide +kernel
theorem dX4_pump_65 : decode cX4_pump 65 = .ok (.iconst 1, 1) := by decide +kernel
theorem dX4_pump_66 : decode cX4_pump 66 = .ok (.goto 13, 3) := by decide +kernel
theorem dX4_pump_69 : decode cX4_pump 69 = .ok (.iload 4, 2) := by decide +kernel
theorem dX4_pump_71 : decode cX4_pump 71 = .ok (.ifCond .eq 7, 3) := by decide +kernel
theorem dX4_pump_74 : decode cX4_pump 74 = .ok (.iconst 0, 1) := by decide +kernel
theorem dX4_pump_75 : decode cX4_pump 75 = .ok (.goto 4, 3) := by decide +kernel
theorem dX4_pump_78 : decode cX4_pump 78 = .ok (.iconst 2, 1) := by decide +kernel
theorem dX4_pump_79 : decode cX4_pump 79 = .ok (.invokevirtual 66, 3) := by decide +kernel
theorem dX4_pump_82 : decode cX4_pump 82 = .ok (.ifCond .ne 5, 3) := by decide +kernel
theorem dX4_pump_85 : decode cX4_pump 85 = .ok (.iconst 0, 1) := by decide +kernel
theorem dX4_pump_86 : decode cX4_pump 86 = .ok (.ireturn, 1) := by decide +kernel
theorem dX4_pump_87 : decode cX4_pump 87 = .ok (.aload_n 0, 1) := by decide +kernel
theorem dX4_pump_88 : decode cX4_pump 88 = .ok (.iload_n 2, 1) := by decide +kernel
theorem dX4_pump_89 : decode cX4_pump 89 = .ok (.aload_n 0, 1) := by decide +kernel
theorem dX4_pump_90 : decode cX4_pump 90 = .ok (.getfield 27, 3) := by decide +kernel
theorem dX4_pump_93 : decode cX4_pump 93 = .ok (.if_icmp .ne 10, 3) := by decide +kernel
theorem dX4_pump_96 : decode cX4_pump 96 = .ok (.aload_n 0, 1) := by decide +kernel
theorem dX4_pump_97 : decode cX4_pump 97 = .ok (.getfield 74, 3) := by decide +kernel
theorem dX4_pump_100 : decode cX4_pump 100 = .ok (.goto 4, 3) := by decide +kernel
theorem dX4_pump_103 : decode cX4_pump 103 = .ok (.iconst 0, 1) := by decide +kernel
theorem dX4_pump_104 : decode cX4_pump 104 = .ok (.putfield 74, 3) := by decide +kernel
theorem dX4_pump_107 : decode cX4_pump 107 = .ok (.aload_n 0, 1) := by decide +kernel
theorem dX4_pump_108 : decode cX4_pump 108 = .ok (.iload_n 2, 1) := by decide +kernel
theorem dX4_pump_109 : decode cX4_pump 109 = .ok (.putfield 27, 3) := by decide +kernel
theorem dX4_pump_112 : decode cX4_pump 112 = .ok (.iconst 1, 1) := by decide +kernel
theorem dX4_pump_113 : decode cX4_pump 113 = .ok (.istore 5, 2) := by decide +kernel
theorem dX4_pump_115 : decode cX4_pump 115 = .ok (.iload 5, 2) := by decide +kernel
theorem dX4_pump_117 : decode cX4_pump 117 = .ok (.iload_n 1, 1) := by decide +kernel
theorem dX4_pump_118 : decode cX4_pump 118 = .ok (.if_icmp .gt 61, 3) := by decide +kernel
theorem dX4_pump_121 : decode cX4_pump 121 = .ok (.aload_n 0, 1) := by decide +kernel
theorem dX4_pump_122 : decode cX4_pump 122 = .ok (.iconst 1, 1) := by decide +kernel
theorem dX4_pump_123 : decode cX4_pump 123 = .ok (.invokevirtual 156, 3) := by decide +kernel
theorem dX4_pump_126 : decode cX4_pump 126 = .ok (.aload_n 0, 1) := by decide +kernel
theorem dX4_pump_127 : decode cX4_pump 127 = .ok (.getfield 70, 3) := by decide +kernel
theorem dX4_pump_130 : decode cX4_pump 130 = .ok (.ifCond .ne 6, 3) := by decide +kernel
theorem dX4_pump_133 : decode cX4_pump 133 = .ok (.iload 5, 2) := by decide +kernel
theorem dX4_pump_135 : decode cX4_pump 135 = .ok (.ireturn, 1) := by decide +kernel
theorem dX4_pump_136 : decode cX4_pump 136 = .ok (.aload_n 0, 1) := by decide +kernel
theorem dX4_pump_137 : decode cX4_pump 137 = .ok (.dup, 1) := by decide +kernel
theorem dX4_pump_138 : decode cX4_pump 138 = .ok (.getfield 74, 3) := by decide +kernel
theorem dX4_pump_141 : decode cX4_pump 141 = .ok (.bipush 20, 2) := by decide +kernel
theorem dX4_pump_143 : decode cX4_pump 143 = .ok (.iadd, 1) := by decide +kernel
theorem dX4_pump_144 : decode cX4_pump 144 = .ok (.putfield 74, 3) := by decide +kernel
theorem dX4_pump_147 : decode cX4_pump 147 = .ok (.aload_n 0, 1) := by decide +kernel
theorem dX4_pump_148 : decode cX4_pump 148 = .ok (.getfield 74, 3) := by decide +kernel
theorem dX4_pump_151 : decode cX4_pump 151 = .ok (.aload_n 0, 1) := by decide +kernel
theorem dX4_pump_152 : decode cX4_pump 152 = .ok (.getfield 63, 3) := by decide +kernel
theorem dX4_pump_155 : decode cX4_pump 155 = .ok (.if_icmp .lt 18, 3) := by decide +kernel
theorem dX4_pump_158 : decode cX4_pump 158 = .ok (.aload_n 0, 1) := by decide +kernel
theorem dX4_pump_159 : decode cX4_pump 159 = .ok (.iload_n 2, 1) := by decide +kernel
theorem dX4_pump_160 : decode cX4_pump 160 = .ok (.putfield 23, 3) := by decide +kernel
theorem dX4_pump_163 : decode cX4_pump 163 = .ok (.aload_n 0, 1) := by decide +kernel
theorem dX4_pump_164 : decode cX4_pump 164 = .ok (.iconst 0, 1) := by decide +kernel
theorem dX4_pump_165 : decode cX4_pump 165 = .ok (.putfield 80, 3) := by decide +kernel
theorem dX4_pump_168 : decode cX4_pump 168 = .ok (.aload_n 0, 1) := by decide +kernel
theorem dX4_pump_169 : decode cX4_pump 169 = .ok (.iconst 0, 1) := by decide +kernel
theorem dX4_pump_170 : decode cX4_pump 170 = .ok (.putfield 74, 3) := by decide +kernel
theorem dX4_pump_173 : decode cX4_pump 173 = .ok (.iinc 5 1, 3) := by decide +kernel
theorem dX4_pump_176 : decode cX4_pump 176 = .ok (.goto (-61), 3) := by decide +kernel
theorem dX4_pump_179 : decode cX4_pump 179 = .ok (.iload_n 1, 1) := by decide +kernel
theorem dX4_pump_180 : decode cX4_pump 180 = .ok (.ireturn, 1) := by decide +kernel
theorem dX4_casing_0 : decode cX4_casing 0 = .ok (.iload_n 1, 1) := by decide +kernel
theorem dX4_casing_1 : decode cX4_casing 1 = .ok (.iconst 0, 1) := by decide +kernel
theorem dX4_casing_2 : decode cX4_casing 2 = .ok (.sipush 1000, 3) := by decide +kernel
theorem dX4_casing_5 : decode cX4_casing 5 = .ok (.invokestatic 59, 3) := by decide +kernel
theorem dX4_casing_8 : decode cX4_casing 8 = .ok (.istore_n 2, 1) := by decide +kernel
theorem dX4_casing_9 : decode cX4_casing 9 = .ok (.aload_n 0, 1) := by decide +kernel
theorem dX4_casing_10 : decode cX4_casing 10 = .ok (.getfield 63, 3) := by decide +kernel
theorem dX4_casing_13 : decode cX4_casing 13 = .ok (.aload_n 0, 1) := by decide +kernel
theorem dX4_casing_14 : decode cX4_casing 14 = .ok (.getfield 93, 3) := by decide +kernel
theorem dX4_casing_17 : decode cX4_casing 17 = .ok (.if_icmp .eq 23, 3) := by decide +kernel
theorem dX4_casing_20 : decode cX4_casing 20 = .ok (.aload_n 0, 1) := by decide +kernel
theorem dX4_casing_21 : decode cX4_casing 21 = .ok (.getfield 96, 3) := by decide +kernel
theorem dX4_casing_24 : decode cX4_casing 24 = .ok (.lconst 0, 1) := by decide +kernel
theorem dX4_casing_25 : decode cX4_casing 25 = .ok (.lcmp, 1) := by decide +kernel
theorem dX4_casing_26 : decode cX4_casing 26 = .ok (.ifCond .ne 14, 3) := by decide +kernel
theorem dX4_casing_29 : decode cX4_casing 29 = .ok (.aload_n 0, 1) := by decide +kernel
theorem dX4_casing_30 : decode cX4_casing 30 = .ok (.getfield 80, 3) := by decide +kernel
theorem dX4_casing_33 : decode cX4_casing 33 = .ok (.ifCond .ne 7, 3) := by decide +kernel
theorem dX4_casing_36 : decode cX4_casing 36 = .ok (.iconst 1, 1) := by decide +kernel
theorem dX4_casing_37 : decode cX4_casing 37 = .ok (.goto 4, 3) := by decide +kernel
theorem dX4_casing_40 : decode cX4_casing 40 = .ok (.iconst 0, 1) := by decide +kernel
theorem dX4_casing_41 : decode cX4_casing 41 = .ok (.istore_n 3, 1) := by decide +kernel
theorem dX4_casing_42 : decode cX4_casing 42 = .ok (.aload_n 0, 1) := by decide +kernel
theorem dX4_casing_43 : decode cX4_casing 43 = .ok (.iload_n 2, 1) := by decide +kernel
theorem dX4_casing_44 : decode cX4_casing 44 = .ok (.ifCond .ne 7, 3) := by decide +kernel
theorem dX4_casing_47 : decode cX4_casing 47 = .ok (.iconst 1, 1) := by decide +kernel
theorem dX4_casing_48 : decode cX4_casing 48 = .ok (.goto 12, 3) := by decide +kernel
theorem dX4_casing_51 : decode cX4_casing 51 = .ok (.iload_n 3, 1) := by decide +kernel
theorem dX4_casing_52 : decode cX4_casing 52 = .ok (.ifCond .eq 7, 3) := by decide +kernel
theorem dX4_casing_55 : decode cX4_casing 55 = .ok (.iconst 0, 1) := by decide +kernel
theorem dX4_casing_56 : decode cX4_casing 56 = .ok (.goto 4, 3) := by decide +kernel
theorem dX4_casing_59 : decode cX4_casing 59 = .ok (.iconst 2, 1) := by decide +kernel
theorem dX4_casing_60 : decode cX4_casing 60 = .ok (.invokevirtual 66, 3) := by decide +kernel
theorem dX4_casing_63 : decode cX4_casing 63 = .ok (.ifCond .ne 5, 3) := by decide +kernel
theorem dX4_casing_66 : decode cX4_casing 66 = .ok (.iconst 0, 1) := by decide +kernel
theorem dX4_casing_67 : decode cX4_casing 67 = .ok (.ireturn, 1) := by decide +kernel
theorem dX4_casing_68 : decode cX4_casing 68 = .ok (.aload_n 0, 1) := by decide +kernel
theorem dX4_casing_69 : decode cX4_casing 69 = .ok (.sipush 1000, 3) := by decide +kernel
theorem dX4_casing_72 : decode cX4_casing 72 = .ok (.iload_n 1, 1) := by decide +kernel
theorem dX4_casing_73 : decode cX4_casing 73 = .ok (.imul, 1) := by decide +kernel
theorem dX4_casing_74 : decode cX4_casing 74 = .ok (.aload_n 0, 1) := by decide +kernel
theorem dX4_casing_75 : decode cX4_casing 75 = .ok (.getfield 63, 3) := by decide +kernel
theorem dX4_casing_78 : decode cX4_casing 78 = .ok (.aload_n 0, 1) := by decide +kernel
theorem dX4_casing_79 : decode cX4_casing 79 = .ok (.getfield 93, 3) := by decide +kernel
theorem dX4_casing_82 : decode cX4_casing 82 = .ok (.isub, 1) := by decide +kernel
theorem dX4_casing_83 : decode cX4_casing 83 = .ok (.idiv, 1) := by decide +kernel
theorem dX4_casing_84 : decode cX4_casing 84 = .ok (.putfield 159, 3) := by decide +kernel
theorem dX4_casing_87 : decode cX4_casing 87 = .ok (.aload_n 0, 1) := by decide +kernel
theorem dX4_casing_88 : decode cX4_casing 88 = .ok (.aload_n 0, 1) := by decide +kernel
theorem dX4_casing_89 : decode cX4_casing 89 = .ok (.getfield 63, 3) := by decide +kernel
theorem dX4_casing_92 : decode cX4_casing 92 = .ok (.putfield 93, 3) := by decide +kernel
theorem dX4_casing_95 : decode cX4_casing 95 = .ok (.aload_n 0, 1) := by decide +kernel
theorem dX4_casing_96 : decode cX4_casing 96 = .ok (.aload_n 0, 1) := by decide +kernel
theorem dX4_casing_97 : decode cX4_casing 97 = .ok (.getfield 112, 3) := by decide +kernel
theorem dX4_casing_100 : decode cX4_casing 100 = .ok (.putfield 162, 3) := by decide +kernel
theorem dX4_casing_103 : decode cX4_casing 103 = .ok (.aload_n 0, 1) := by decide +kernel
theorem dX4_casing_104 : decode cX4_casing 104 = .ok (.getfield 159, 3) := by decide +kernel
theorem dX4_casing_107 : decode cX4_casing 107 = .ok (.ireturn, 1) := by decide +kernel
theorem dX4_strength_0 : decode cX4_strength 0 = .ok (.aload_n 0, 1) := by decide +kernel
theorem dX4_strength_1 : decode cX4_strength 1 = .ok (.iload_n 1, 1) := by decide +kernel
theorem dX4_strength_2 : decode cX4_strength 2 = .ok (.iconst 0, 1) := by decide +kernel
theorem dX4_strength_3 : decode cX4_strength 3 = .ok (.ldc 155, 2) := by decide +kernel
theorem dX4_strength_5 : decode cX4_strength 5 = .ok (.invokestatic 59, 3) := by decide +kernel
theorem dX4_strength_8 : decode cX4_strength 8 = .ok (.ifCond .eq 7, 3) := by decide +kernel
theorem dX4_strength_11 : decode cX4_strength 11 = .ok (.iconst 0, 1) := by decide +kernel
theorem dX4_strength_12 : decode cX4_strength 12 = .ok (.goto 4, 3) := by decide +kernel
theorem dX4_strength_15 : decode cX4_strength 15 = .ok (.iconst 1, 1) := by decide +kernel
theorem dX4_strength_16 : decode cX4_strength 16 = .ok (.invokevirtual 66, 3) := by decide +kernel
theorem dX4_strength_19 : decode cX4_strength 19 = .ok (.ifCond .ne 5, 3) := by decide +kernel
theorem dX4_strength_22 : decode cX4_strength 22 = .ok (.iconst 0, 1) := by decide +kernel
theorem dX4_strength_23 : decode cX4_strength 23 = .ok (.ireturn, 1) := by decide +kernel
theorem dX4_strength_24 : decode cX4_strength 24 = .ok (.aload_n 0, 1) := by decide +kernel
theorem dX4_strength_25 : decode cX4_strength 25 = .ok (.getfield 30, 3) := by decide +kernel
theorem dX4_strength_28 : decode cX4_strength 28 = .ok (.istore_n 2, 1) := by decide +kernel
theorem dX4_strength_29 : decode cX4_strength 29 = .ok (.aload_n 0, 1) := by decide +kernel
theorem dX4_strength_30 : decode cX4_strength 30 = .ok (.iload_n 1, 1) := by decide +kernel
theorem dX4_strength_31 : decode cX4_strength 31 = .ok (.putfield 30, 3) := by decide +kernel
theorem dX4_strength_34 : decode cX4_strength 34 = .ok (.iload_n 2, 1) := by decide +kernel
theorem dX4_strength_35 : decode cX4_strength 35 = .ok (.ireturn, 1) := by decide +kernel
theorem dX4_test_0 : decode cX4_test 0 = .ok (.iload_n 1, 1) := by decide +kernel
theorem dX4_test_1 : decode cX4_test 1 = .ok (.iconst 0, 1) := by decide +kernel
theorem dX4_test_2 : decode cX4_test 2 = .ok (.iconst 1, 1) := by decide +kernel
theorem dX4_test_3 : decode cX4_test 3 = .ok (.invokestatic 59, 3) := by decide +kernel
theorem dX4_test_6 : decode cX4_test 6 = .ok (.ifCond .eq 19, 3) := by decide +kernel
theorem dX4_test_9 : decode cX4_test 9 = .ok (.iload_n 2, 1) := by decide +kernel
theorem dX4_test_10 : decode cX4_test 10 = .ok (.sipush 1000, 3) := by decide +kernel
theorem dX4_test_13 : decode cX4_test 13 = .ok (.ldc 155, 2) := by decide +kernel
theorem dX4_test_15 : decode cX4_test 15 = .ok (.invokestatic 59, 3) := by decide +kernel
theorem dX4_test_18 : decode cX4_test 18 = .ok (.ifCond .eq 7, 3) := by decide +kernel
theorem dX4_test_21 : decode cX4_test 21 = .ok (.iconst 1, 1) := by decide +kernel
theorem dX4_test_22 : decode cX4_test 22 = .ok (.goto 4, 3) := by decide +kernel
theorem dX4_test_25 : decode cX4_test 25 = .ok (.iconst 0, 1) := by decide +kernel
theorem dX4_test_26 : decode cX4_test 26 = .ok (.istore_n 3, 1) := by decide +kernel
theorem dX4_test_27 : decode cX4_test 27 = .ok (.aload_n 0, 1) := by decide +kernel
theorem dX4_test_28 : decode cX4_test 28 = .ok (.getfield 70, 3) := by decide +kernel
theorem dX4_test_31 : decode cX4_test 31 = .ok (.ifCond .ne 27, 3) := by decide +kernel
theorem dX4_test_34 : decode cX4_test 34 = .ok (.aload_n 0, 1) := by decide +kernel
theorem dX4_test_35 : decode cX4_test 35 = .ok (.getfield 112, 3) := by decide +kernel
theorem dX4_test_38 : decode cX4_test 38 = .ok (.bipush 60, 2) := by decide +kernel
theorem dX4_test_40 : decode cX4_test 40 = .ok (.if_icmp .ge 18, 3) := by decide +kernel
theorem dX4_test_43 : decode cX4_test 43 = .ok (.iload_n 1, 1) := by decide +kernel
theorem dX4_test_44 : decode cX4_test 44 = .ok (.ifCond .eq 10, 3) := by decide +kernel
theorem dX4_test_47 : decode cX4_test 47 = .ok (.aload_n 0, 1) := by decide +kernel
theorem dX4_test_48 : decode cX4_test 48 = .ok (.getfield 93, 3) := by decide +kernel
theorem dX4_test_51 : decode cX4_test 51 = .ok (.ifCond .le 7, 3) := by decide +kernel
theorem dX4_test_54 : decode cX4_test 54 = .ok (.iconst 1, 1) := by decide +kernel
theorem dX4_test_55 : decode cX4_test 55 = .ok (.goto 4, 3) := by decide +kernel
theorem dX4_test_58 : decode cX4_test 58 = .ok (.iconst 0, 1) := by decide +kernel
theorem dX4_test_59 : decode cX4_test 59 = .ok (.istore 4, 2) := by decide +kernel
theorem dX4_test_61 : decode cX4_test 61 = .ok (.aload_n 0, 1) := by decide +kernel
theorem dX4_test_62 : decode cX4_test 62 = .ok (.iload_n 3, 1) := by decide +kernel
theorem dX4_test_63 : decode cX4_test 63 = .ok (.ifCond .ne 7, 3) := by decide +kernel
theorem dX4_test_66 : decode cX4_test 66 = .ok (.iconst 1, 1) := by decide +kernel
theorem dX4_test_67 : decode cX4_test 67 = .ok (.goto 13, 3) := by decide +kernel
theorem dX4_test_70 : decode cX4_test 70 = .ok (.iload 4, 2) := by decide +kernel
theorem dX4_test_72 : decode cX4_test 72 = .ok (.ifCond .eq 7, 3) := by decide +kernel
theorem dX4_test_75 : decode cX4_test 75 = .ok (.iconst 0, 1) := by decide +kernel
theorem dX4_test_76 : decode cX4_test 76 = .ok (.goto 4, 3) := by decide +kernel
theorem dX4_test_79 : decode cX4_test 79 = .ok (.iconst 2, 1) := by decide +kernel
theorem dX4_test_80 : decode cX4_test 80 = .ok (.invokevirtual 66, 3) := by decide +kernel
theorem dX4_test_83 : decode cX4_test 83 = .ok (.ifCond .ne 5, 3) := by decide +kernel
theorem dX4_test_86 : decode cX4_test 86 = .ok (.iconst 0, 1) := by decide +kernel
theorem dX4_test_87 : decode cX4_test 87 = .ok (.ireturn, 1) := by decide +kernel
theorem dX4_test_88 : decode cX4_test 88 = .ok (.aload_n 0, 1) := by decide +kernel
theorem dX4_test_89 : decode cX4_test 89 = .ok (.getfield 37, 3) := by decide +kernel
theorem dX4_test_92 : decode cX4_test 92 = .ok (.aload_n 0, 1) := by decide +kernel
theorem dX4_test_93 : decode cX4_test 93 = .ok (.getfield 112, 3) := by decide +kernel
theorem dX4_test_96 : decode cX4_test 96 = .ok (.iload_n 1, 1) := by decide +kernel
theorem dX4_test_97 : decode cX4_test 97 = .ok (.iastore, 1) := by decide +kernel
theorem dX4_test_98 : decode cX4_test 98 = .ok (.aload_n 0, 1) := by decide +kernel
theorem dX4_test_99 : decode cX4_test 99 = .ok (.getfield 40, 3) := by decide +kernel
theorem dX4_test_102 : decode cX4_test 102 = .ok (.aload_n 0, 1) := by decide +kernel
theorem dX4_test_103 : decode cX4_test 103 = .ok (.getfield 112, 3) := by decide +kernel
theorem dX4_test_106 : decode cX4_test 106 = .ok (.iload_n 2, 1) := by decide +kernel
theorem dX4_test_107 : decode cX4_test 107 = .ok (.iastore, 1) := by decide +kernel
theorem dX4_test_108 : decode cX4_test 108 = .ok (.aload_n 0, 1) := by decide +kernel
theorem dX4_test_109 : decode cX4_test 109 = .ok (.getfield 43, 3) := by decide +kernel
theorem dX4_test_112 : decode cX4_test 112 = .ok (.aload_n 0, 1) := by decide +kernel
theorem dX4_test_113 : decode cX4_test 113 = .ok (.getfield 112, 3) := by decide +kernel
theorem dX4_test_116 : decode cX4_test 116 = .ok (.iload_n 2, 1) := by decide +kernel
theorem dX4_test_117 : decode cX4_test 117 = .ok (.iload_n 1, 1) := by decide +kernel
theorem dX4_test_118 : decode cX4_test 118 = .ok (.ifCond .ne 10, 3) := by decide +kernel
theorem dX4_test_121 : decode cX4_test 121 = .ok (.aload_n 0, 1) := by decide +kernel
theorem dX4_test_122 : decode cX4_test 122 = .ok (.getfield 30, 3) := by decide +kernel
theorem dX4_test_125 : decode cX4_test 125 = .ok (.goto 7, 3) := by decide +kernel
theorem dX4_test_128 : decode cX4_test 128 = .ok (.aload_n 0, 1) := by decide +kernel
theorem dX4_test_129 : decode cX4_test 129 = .ok (.getfield 159, 3) := by decide +kernel
theorem dX4_test_132 : decode cX4_test 132 = .ok (.if_icmp .gt 7, 3) := by decide +kernel
theorem dX4_test_135 : decode cX4_test 135 = .ok (.iconst 1, 1) := by decide +kernel
theorem dX4_test_136 : decode cX4_test 136 = .ok (.goto 4, 3) := by decide +kernel
theorem dX4_test_139 : decode cX4_test 139 = .ok (.iconst 0, 1) := by decide +kernel
theorem dX4_test_140 : decode cX4_test 140 = .ok (.bastore, 1) := by decide +kernel
theorem dX4_test_141 : decode cX4_test 141 = .ok (.aload_n 0, 1) := by decide +kernel
theorem dX4_test_142 : decode cX4_test 142 = .ok (.getfield 46, 3) := by decide +kernel
theorem dX4_test_145 : decode cX4_test 145 = .ok (.aload_n 0, 1) := by decide +kernel
theorem dX4_test_146 : decode cX4_test 146 = .ok (.getfield 112, 3) := by decide +kernel
theorem dX4_test_149 : decode cX4_test 149 = .ok (.aload_n 0, 1) := by decide +kernel
theorem dX4_test_150 : decode cX4_test 150 = .ok (.getfield 128, 3) := by decide +kernel
theorem dX4_test_153 : decode cX4_test 153 = .ok (.iastore, 1) := by decide +kernel
theorem dX4_test_154 : decode cX4_test 154 = .ok (.aload_n 0, 1) := by decide +kernel
theorem dX4_test_155 : decode cX4_test 155 = .ok (.dup, 1) := by decide +kernel
theorem dX4_test_156 : decode cX4_test 156 = .ok (.getfield 112, 3) := by decide +kernel
theorem dX4_test_159 : decode cX4_test 159 = .ok (.iconst 1, 1) := by decide +kernel
theorem dX4_test_160 : decode cX4_test 160 = .ok (.iadd, 1) := by decide +kernel
theorem dX4_test_161 : decode cX4_test 161 = .ok (.putfield 112, 3) := by decide +kernel
theorem dX4_test_164 : decode cX4_test 164 = .ok (.aload_n 0, 1) := by decide +kernel
theorem dX4_test_165 : decode cX4_test 165 = .ok (.getfield 43, 3) := by decide +kernel
theorem dX4_test_168 : decode cX4_test 168 = .ok (.aload_n 0, 1) := by decide +kernel
theorem dX4_test_169 : decode cX4_test 169 = .ok (.getfield 112, 3) := by decide +kernel
theorem dX4_test_172 : decode cX4_test 172 = .ok (.iconst 1, 1) := by decide +kernel
theorem dX4_test_173 : decode cX4_test 173 = .ok (.isub, 1) := by decide +kernel
theorem dX4_test_174 : decode cX4_test 174 = .ok (.baload, 1) := by decide +kernel
theorem dX4_test_175 : decode cX4_test 175 = .ok (.ireturn, 1) := by decide +kernel
theorem dX4_stop_0 : decode cX4_stop 0 = .ok (.aload_n 0, 1) := by decide +kernel
theorem dX4_stop_1 : decode cX4_stop 1 = .ok (.iload_n 1, 1) := by decide +kernel
theorem dX4_stop_2 : decode cX4_stop 2 = .ok (.iconst 0, 1) := by decide +kernel
theorem dX4_stop_3 : decode cX4_stop 3 = .ok (.iconst 5, 1) := by decide +kernel
theorem dX4_stop_4 : decode cX4_stop 4 = .ok (.invokestatic 59, 3) := by decide +kernel
theorem dX4_stop_7 : decode cX4_stop 7 = .ok (.ifCond .eq 7, 3) := by decide +kernel
theorem dX4_stop_10 : decode cX4_stop 10 = .ok (.iconst 0, 1) := by decide +kernel
theorem dX4_stop_11 : decode cX4_stop 11 = .ok (.goto 4, 3) := by decide +kernel
theorem dX4_stop_14 : decode cX4_stop 14 = .ok (.iconst 1, 1) := by decide +kernel
theorem dX4_stop_15 : decode cX4_stop 15 = .ok (.invokevirtual 66, 3) := by decide +kernel
theorem dX4_stop_18 : decode cX4_stop 18 = .ok (.ifCond .ne 5, 3) := by decide +kernel
theorem dX4_stop_21 : decode cX4_stop 21 = .ok (.iconst 0, 1) := by decide +kernel
theorem dX4_stop_22 : decode cX4_stop 22 = .ok (.ireturn, 1) := by decide +kernel
theorem dX4_stop_23 : decode cX4_stop 23 = .ok (.aload_n 0, 1) := by decide +kernel
theorem dX4_stop_24 : decode cX4_stop 24 = .ok (.getfield 49, 3) := by decide +kernel
theorem dX4_stop_27 : decode cX4_stop 27 = .ok (.iload_n 1, 1) := by decide +kernel
theorem dX4_stop_28 : decode cX4_stop 28 = .ok (.iload_n 2, 1) := by decide +kernel
theorem dX4_stop_29 : decode cX4_stop 29 = .ok (.bastore, 1) := by decide +kernel
theorem dX4_stop_30 : decode cX4_stop 30 = .ok (.iconst 0, 1) := by decide +kernel
theorem dX4_stop_31 : decode cX4_stop 31 = .ok (.istore_n 3, 1) := by decide +kernel
theorem dX4_stop_32 : decode cX4_stop 32 = .ok (.iconst 0, 1) := by decide +kernel
theorem dX4_stop_33 : decode cX4_stop 33 = .ok (.istore 4, 2) := by decide +kernel
theorem dX4_stop_35 : decode cX4_stop 35 = .ok (.iload 4, 2) := by decide +kernel
theorem dX4_stop_37 : decode cX4_stop 37 = .ok (.bipush 6, 2) := by decide +kernel
theorem dX4_stop_39 : decode cX4_stop 39 = .ok (.if_icmp .ge 27, 3) := by decide +kernel
theorem dX4_stop_42 : decode cX4_stop 42 = .ok (.iload_n 3, 1) := by decide +kernel
theorem dX4_stop_43 : decode cX4_stop 43 = .ok (.aload_n 0, 1) := by decide +kernel
theorem dX4_stop_44 : decode cX4_stop 44 = .ok (.getfield 49, 3) := by decide +kernel
theorem dX4_stop_47 : decode cX4_stop 47 = .ok (.iload 4, 2) := by decide +kernel
theorem dX4_stop_49 : decode cX4_stop 49 = .ok (.baload, 1) := by decide +kernel
theorem dX4_stop_50 : decode cX4_stop 50 = .ok (.ifCond .eq 7, 3) := by decide +kernel
theorem dX4_stop_53 : decode cX4_stop 53 = .ok (.iconst 1, 1) := by decide +kernel
theorem dX4_stop_54 : decode cX4_stop 54 = .ok (.goto 4, 3) := by decide +kernel
theorem dX4_stop_57 : decode cX4_stop 57 = .ok (.iconst 0, 1) := by decide +kernel
theorem dX4_stop_58 : decode cX4_stop 58 = .ok (.iadd, 1) := by decide +kernel
theorem dX4_stop_59 : decode cX4_stop 59 = .ok (.istore_n 3, 1) := by decide +kernel
theorem dX4_stop_60 : decode cX4_stop 60 = .ok (.iinc 4 1, 3) := by decide +kernel
theorem dX4_stop_63 : decode cX4_stop 63 = .ok (.goto (-28), 3) := by decide +kernel
theorem dX4_stop_66 : decode cX4_stop 66 = .ok (.iload_n 3, 1) := by decide +kernel
theorem dX4_stop_67 : decode cX4_stop 67 = .ok (.ireturn, 1) := by decide +kernel
theorem dX4_latest_0 : decode cX4_latest 0 = .ok (.iconst (-1), 1) := by decide +kernel
theorem dX4_latest_1 : decode cX4_latest 1 = .ok (.istore_n 3, 1) := by decide +kernel
theorem dX4_latest_2 : decode cX4_latest 2 = .ok (.iload_n 2, 1) := by decide +kernel
theorem dX4_latest_3 : decode cX4_latest 3 = .ok (.istore 4, 2) := by decide +kernel
theorem dX4_latest_5 : decode cX4_latest 5 = .ok (.iload 4, 2) := by decide +kernel
theorem dX4_latest_7 : decode cX4_latest 7 = .ok (.aload_n 0, 1) := by decide +kernel
theorem dX4_latest_8 : decode cX4_latest 8 = .ok (.getfield 112, 3) := by decide +kernel
theorem dX4_latest_11 : decode cX4_latest 11 = .ok (.if_icmp .ge 27, 3) := by decide +kernel
theorem dX4_latest_14 : decode cX4_latest 14 = .ok (.aload_n 0, 1) := by decide +kernel
theorem dX4_latest_15 : decode cX4_latest 15 = .ok (.getfield 37, 3) := by decide +kernel
theorem dX4_latest_18 : decode cX4_latest 18 = .ok (.iload 4, 2) := by decide +kernel
theorem dX4_latest_20 : decode cX4_latest 20 = .ok (.iaload, 1) := by decide +kernel
theorem dX4_latest_21 : decode cX4_latest 21 = .ok (.iload_n 1, 1) := by decide +kernel
theorem dX4_latest_22 : decode cX4_latest 22 = .ok (.if_icmp .ne 8, 3) := by decide +kernel
theorem dX4_latest_25 : decode cX4_latest 25 = .ok (.iload 4, 2) := by decide +kernel
theorem dX4_latest_27 : decode cX4_latest 27 = .ok (.goto 4, 3) := by decide +kernel
theorem dX4_latest_30 : decode cX4_latest 30 = .ok (.iload_n 3, 1) := by decide +kernel
theorem dX4_latest_31 : decode cX4_latest 31 = .ok (.istore_n 3, 1) := by decide +kernel
theorem dX4_latest_32 : decode cX4_latest 32 = .ok (.iinc 4 1, 3) := by decide +kernel
theorem dX4_latest_35 : decode cX4_latest 35 = .ok (.goto (-30), 3) := by decide +kernel
theorem dX4_latest_38 : decode cX4_latest 38 = .ok (.iload_n 3, 1) := by decide +kernel
theorem dX4_latest_39 : decode cX4_latest 39 = .ok (.ireturn, 1) := by decide +kernel
theorem dX4_barriersNow_0 : decode cX4_barriersNow 0 = .ok (.aload_n 0, 1) := by decide +kernel
theorem dX4_barriersNow_1 : decode cX4_barriersNow 1 = .ok (.getfield 96, 3) := by decide +kernel
theorem dX4_barriersNow_4 : decode cX4_barriersNow 4 = .ok (.lconst 0, 1) := by decide +kernel
theorem dX4_barriersNow_5 : decode cX4_barriersNow 5 = .ok (.lcmp, 1) := by decide +kernel
theorem dX4_barriersNow_6 : decode cX4_barriersNow 6 = .ok (.ifCond .ne 29, 3) := by decide +kernel
theorem dX4_barriersNow_9 : decode cX4_barriersNow 9 = .ok (.aload_n 0, 1) := by decide +kernel
theorem dX4_barriersNow_10 : decode cX4_barriersNow 10 = .ok (.getfield 80, 3) := by decide +kernel
theorem dX4_barriersNow_13 : decode cX4_barriersNow 13 = .ok (.ifCond .ne 22, 3) := by decide +kernel
theorem dX4_barriersNow_16 : decode cX4_barriersNow 16 = .ok (.aload_n 0, 1) := by decide +kernel
theorem dX4_barriersNow_17 : decode cX4_barriersNow 17 = .ok (.invokevirtual 118, 3) := by decide +kernel
theorem dX4_barriersNow_20 : decode cX4_barriersNow 20 = .ok (.aload_n 0, 1) := by decide +kernel
theorem dX4_barriersNow_21 : decode cX4_barriersNow 21 = .ok (.aload_n 0, 1) := by decide +kernel
theorem dX4_barriersNow_22 : decode cX4_barriersNow 22 = .ok (.getfield 63, 3) := by decide +kernel
theorem dX4_barriersNow_25 : decode cX4_barriersNow 25 = .ok (.invokevirtual 109, 3) := by decide +kernel
theorem dX4_barriersNow_28 : decode cX4_barriersNow 28 = .ok (.if_icmp .lt 7, 3) := by decide +kernel
theorem dX4_barriersNow_31 : decode cX4_barriersNow 31 = .ok (.iconst 1, 1) := by decide +kernel
theorem dX4_barriersNow_32 : decode cX4_barriersNow 32 = .ok (.goto 4, 3) := by decide +kernel
theorem dX4_barriersNow_35 : decode cX4_barriersNow 35 = .ok (.iconst 0, 1) := by decide +kernel
theorem dX4_barriersNow_36 : decode cX4_barriersNow 36 = .ok (.istore_n 1, 1) := by decide +kernel
theorem dX4_barriersNow_37 : decode cX4_barriersNow 37 = .ok (.aload_n 0, 1) := by decide +kernel
theorem dX4_barriersNow_38 : decode cX4_barriersNow 38 = .ok (.iconst 0, 1) := by decide +kernel
theorem dX4_barriersNow_39 : decode cX4_barriersNow 39 = .ok (.aload_n 0, 1) := by decide +kernel
theorem dX4_barriersNow_40 : decode cX4_barriersNow 40 = .ok (.getfield 115, 3) := by decide +kernel
theorem dX4_barriersNow_43 : decode cX4_barriersNow 43 = .ok (.invokevirtual 165, 3) := by decide +kernel
theorem dX4_barriersNow_46 : decode cX4_barriersNow 46 = .ok (.istore_n 2, 1) := by decide +kernel
theorem dX4_barriersNow_47 : decode cX4_barriersNow 47 = .ok (.iload_n 2, 1) := by decide +kernel
theorem dX4_barriersNow_48 : decode cX4_barriersNow 48 = .ok (.iconst (-1), 1) := by decide +kernel
theorem dX4_barriersNow_49 : decode cX4_barriersNow 49 = .ok (.if_icmp .eq 33, 3) := by decide +kernel
theorem dX4_barriersNow_52 : decode cX4_barriersNow 52 = .ok (.aload_n 0, 1) := by decide +kernel
theorem dX4_barriersNow_53 : decode cX4_barriersNow 53 = .ok (.getfield 43, 3) := by decide +kernel
theorem dX4_barriersNow_56 : decode cX4_barriersNow 56 = .ok (.iload_n 2, 1) := by decide +kernel
theorem dX4_barriersNow_57 : decode cX4_barriersNow 57 = .ok (.baload, 1) := by decide +kernel
theorem dX4_barriersNow_58 : decode cX4_barriersNow 58 = .ok (.ifCond .eq 24, 3) := by decide +kernel
theorem dX4_barriersNow_61 : decode cX4_barriersNow 61 = .ok (.aload_n 0, 1) := by decide +kernel
theorem dX4_barriersNow_62 : decode cX4_barriersNow 62 = .ok (.getfield 128, 3) := by decide +kernel
theorem dX4_barriersNow_65 : decode cX4_barriersNow 65 = .ok (.aload_n 0, 1) := by decide +kernel
theorem dX4_barriersNow_66 : decode cX4_barriersNow 66 = .ok (.getfield 46, 3) := by decide +kernel
theorem dX4_barriersNow_69 : decode cX4_barriersNow 69 = .ok (.iload_n 2, 1) := by decide +kernel
theorem dX4_barriersNow_70 : decode cX4_barriersNow 70 = .ok (.iaload, 1) := by decide +kernel
theorem dX4_barriersNow_71 : decode cX4_barriersNow 71 = .ok (.isub, 1) := by decide +kernel
theorem dX4_barriersNow_72 : decode cX4_barriersNow 72 = .ok (.sipush 20160, 3) := by decide +kernel
theorem dX4_barriersNow_75 : decode cX4_barriersNow 75 = .ok (.if_icmp .gt 7, 3) := by decide +kernel
theorem dX4_barriersNow_78 : decode cX4_barriersNow 78 = .ok (.iconst 1, 1) := by decide +kernel
theorem dX4_barriersNow_79 : decode cX4_barriersNow 79 = .ok (.goto 4, 3) := by decide +kernel
theorem dX4_barriersNow_82 : decode cX4_barriersNow 82 = .ok (.iconst 0, 1) := by decide +kernel
theorem dX4_barriersNow_83 : decode cX4_barriersNow 83 = .ok (.istore_n 3, 1) := by decide +kernel
theorem dX4_barriersNow_84 : decode cX4_barriersNow 84 = .ok (.aload_n 0, 1) := by decide +kernel
theorem dX4_barriersNow_85 : decode cX4_barriersNow 85 = .ok (.iconst 1, 1) := by decide +kernel
theorem dX4_barriersNow_86 : decode cX4_barriersNow 86 = .ok (.aload_n 0, 1) := by decide +kernel
theorem dX4_barriersNow_87 : decode cX4_barriersNow 87 = .ok (.getfield 162, 3) := by decide +kernel
theorem dX4_barriersNow_90 : decode cX4_barriersNow 90 = .ok (.invokevirtual 165, 3) := by decide +kernel
theorem dX4_barriersNow_93 : decode cX4_barriersNow 93 = .ok (.istore 4, 2) := by decide +kernel
theorem dX4_barriersNow_95 : decode cX4_barriersNow 95 = .ok (.aload_n 0, 1) := by decide +kernel
theorem dX4_barriersNow_96 : decode cX4_barriersNow 96 = .ok (.getfield 93, 3) := by decide +kernel
theorem dX4_barriersNow_99 : decode cX4_barriersNow 99 = .ok (.ifCond .le 23, 3) := by decide +kernel
theorem dX4_barriersNow_102 : decode cX4_barriersNow 102 = .ok (.iload 4, 2) := by decide +kernel
theorem dX4_barriersNow_104 : decode cX4_barriersNow 104 = .ok (.iconst (-1), 1) := by decide +kernel
theorem dX4_barriersNow_105 : decode cX4_barriersNow 105 = .ok (.if_icmp .eq 17, 3) := by decide +kernel
theorem dX4_barriersNow_108 : decode cX4_barriersNow 108 = .ok (.aload_n 0, 1) := by decide +kernel
theorem dX4_barriersNow_109 : decode cX4_barriersNow 109 = .ok (.getfield 43, 3) := by decide +kernel
theorem dX4_barriersNow_112 : decode cX4_barriersNow 112 = .ok (.iload 4, 2) := by decide +kernel
theorem dX4_barriersNow_114 : decode cX4_barriersNow 114 = .ok (.baload, 1) := by decide +kernel
theorem dX4_barriersNow_115 : decode cX4_barriersNow 115 = .ok (.ifCond .eq 7, 3) := by decide +kernel
theorem dX4_barriersNow_118 : decode cX4_barriersNow 118 = .ok (.iconst 1, 1) := by decide +kernel
theorem dX4_barriersNow_119 : decode cX4_barriersNow 119 = .ok (.goto 4, 3) := by decide +kernel
theorem dX4_barriersNow_122 : decode cX4_barriersNow 122 = .ok (.iconst 0, 1) := by decide +kernel
theorem dX4_barriersNow_123 : decode cX4_barriersNow 123 = .ok (.istore 5, 2) := by decide +kernel
theorem dX4_barriersNow_125 : decode cX4_barriersNow 125 = .ok (.iload_n 1, 1) := by decide +kernel
theorem dX4_barriersNow_126 : decode cX4_barriersNow 126 = .ok (.ifCond .eq 7, 3) := by decide +kernel
theorem dX4_barriersNow_129 : decode cX4_barriersNow 129 = .ok (.iconst 1, 1) := by decide +kernel
theorem dX4_barriersNow_130 : decode cX4_barriersNow 130 = .ok (.goto 4, 3) := by decide +kernel
theorem dX4_barriersNow_133 : decode cX4_barriersNow 133 = .ok (.iconst 0, 1) := by decide +kernel
theorem dX4_barriersNow_134 : decode cX4_barriersNow 134 = .ok (.iload_n 3, 1) := by decide +kernel
theorem dX4_barriersNow_135 : decode cX4_barriersNow 135 = .ok (.ifCond .eq 7, 3) := by decide +kernel
theorem dX4_barriersNow_138 : decode cX4_barriersNow 138 = .ok (.iconst 2, 1) := by decide +kernel
theorem dX4_barriersNow_139 : decode cX4_barriersNow 139 = .ok (.goto 4, 3) := by decide +kernel
theorem dX4_barriersNow_142 : decode cX4_barriersNow 142 = .ok (.iconst 0, 1) := by decide +kernel
theorem dX4_barriersNow_143 : decode cX4_barriersNow 143 = .ok (.iadd, 1) := by decide +kernel
theorem dX4_barriersNow_144 : decode cX4_barriersNow 144 = .ok (.iload 5, 2) := by decide +kernel
theorem dX4_barriersNow_146 : decode cX4_barriersNow 146 = .ok (.ifCond .eq 7, 3) := by decide +kernel
theorem dX4_barriersNow_149 : decode cX4_barriersNow 149 = .ok (.iconst 4, 1) := by decide +kernel
theorem dX4_barriersNow_150 : decode cX4_barriersNow 150 = .ok (.goto 4, 3) := by decide +kernel
theorem dX4_barriersNow_153 : decode cX4_barriersNow 153 = .ok (.iconst 0, 1) := by decide +kernel
theorem dX4_barriersNow_154 : decode cX4_barriersNow 154 = .ok (.iadd, 1) := by decide +kernel
theorem dX4_barriersNow_155 : decode cX4_barriersNow 155 = .ok (.ireturn, 1) := by decide +kernel
theorem dX4_barriers_0 : decode cX4_barriers 0 = .ok (.aload_n 0, 1) := by decide +kernel
theorem dX4_barriers_1 : decode cX4_barriers 1 = .ok (.iconst 0, 1) := by decide +kernel
theorem dX4_barriers_2 : decode cX4_barriers 2 = .ok (.putfield 52, 3) := by decide +kernel
theorem dX4_barriers_5 : decode cX4_barriers 5 = .ok (.aload_n 0, 1) := by decide +kernel
theorem dX4_barriers_6 : decode cX4_barriers 6 = .ok (.invokevirtual 169, 3) := by decide +kernel
theorem dX4_barriers_9 : decode cX4_barriers 9 = .ok (.ireturn, 1) := by decide +kernel
theorem dX4_barsNow_0 : decode cX4_barsNow 0 = .ok (.iconst 0, 1) := by decide +kernel
theorem dX4_barsNow_1 : decode cX4_barsNow 1 = .ok (.istore_n 1, 1) := by decide +kernel
theorem dX4_barsNow_2 : decode cX4_barsNow 2 = .ok (.iconst 0, 1) := by decide +kernel
theorem dX4_barsNow_3 : decode cX4_barsNow 3 = .ok (.istore_n 2, 1) := by decide +kernel
theorem dX4_barsNow_4 : decode cX4_barsNow 4 = .ok (.iload_n 2, 1) := by decide +kernel
theorem dX4_barsNow_5 : decode cX4_barsNow 5 = .ok (.bipush 6, 2) := by decide +kernel
theorem dX4_barsNow_7 : decode cX4_barsNow 7 = .ok (.if_icmp .ge 28, 3) := by decide +kernel
theorem dX4_barsNow_10 : decode cX4_barsNow 10 = .ok (.iload_n 1, 1) := by decide +kernel
theorem dX4_barsNow_11 : decode cX4_barsNow 11 = .ok (.ifCond .ne 12, 3) := by decide +kernel
theorem dX4_barsNow_14 : decode cX4_barsNow 14 = .ok (.aload_n 0, 1) := by decide +kernel
theorem dX4_barsNow_15 : decode cX4_barsNow 15 = .ok (.getfield 49, 3) := by decide +kernel
theorem dX4_barsNow_18 : decode cX4_barsNow 18 = .ok (.iload_n 2, 1) := by decide +kernel
theorem dX4_barsNow_19 : decode cX4_barsNow 19 = .ok (.baload, 1) := by decide +kernel
theorem dX4_barsNow_20 : decode cX4_barsNow 20 = .ok (.ifCond .eq 7, 3) := by decide +kernel
theorem dX4_barsNow_23 : decode cX4_barsNow 23 = .ok (.iconst 1, 1) := by decide +kernel
theorem dX4_barsNow_24 : decode cX4_barsNow 24 = .ok (.goto 4, 3) := by decide +kernel
theorem dX4_barsNow_27 : decode cX4_barsNow 27 = .ok (.iconst 0, 1) := by decide +kernel
theorem dX4_barsNow_28 : decode cX4_barsNow 28 = .ok (.istore_n 1, 1) := by decide +kernel
theorem dX4_barsNow_29 : decode cX4_barsNow 29 = .ok (.iinc 2 1, 3) := by decide +kernel
theorem dX4_barsNow_32 : decode cX4_barsNow 32 = .ok (.goto (-28), 3) := by decide +kernel
theorem dX4_barsNow_35 : decode cX4_barsNow 35 = .ok (.aload_n 0, 1) := by decide +kernel
theorem dX4_barsNow_36 : decode cX4_barsNow 36 = .ok (.invokevirtual 169, 3) := by decide +kernel
theorem dX4_barsNow_39 : decode cX4_barsNow 39 = .ok (.istore_n 2, 1) := by decide +kernel
theorem dX4_barsNow_40 : decode cX4_barsNow 40 = .ok (.iload_n 2, 1) := by decide +kernel
theorem dX4_barsNow_41 : decode cX4_barsNow 41 = .ok (.iconst 2, 1) := by decide +kernel
theorem dX4_barsNow_42 : decode cX4_barsNow 42 = .ok (.irem, 1) := by decide +kernel
theorem dX4_barsNow_43 : decode cX4_barsNow 43 = .ok (.iload_n 2, 1) := by decide +kernel
theorem dX4_barsNow_44 : decode cX4_barsNow 44 = .ok (.iconst 2, 1) := by decide +kernel
theorem dX4_barsNow_45 : decode cX4_barsNow 45 = .ok (.idiv, 1) := by decide +kernel
theorem dX4_barsNow_46 : decode cX4_barsNow 46 = .ok (.iconst 2, 1) := by decide +kernel
theorem dX4_barsNow_47 : decode cX4_barsNow 47 = .ok (.irem, 1) := by decide +kernel
theorem dX4_barsNow_48 : decode cX4_barsNow 48 = .ok (.iadd, 1) := by decide +kernel
theorem dX4_barsNow_49 : decode cX4_barsNow 49 = .ok (.iload_n 2, 1) := by decide +kernel
theorem dX4_barsNow_50 : decode cX4_barsNow 50 = .ok (.iconst 4, 1) := by decide +kernel
theorem dX4_barsNow_51 : decode cX4_barsNow 51 = .ok (.idiv, 1) := by decide +kernel
theorem dX4_barsNow_52 : decode cX4_barsNow 52 = .ok (.iadd, 1) := by decide +kernel
theorem dX4_barsNow_53 : decode cX4_barsNow 53 = .ok (.istore_n 3, 1) := by decide +kernel
theorem dX4_barsNow_54 : decode cX4_barsNow 54 = .ok (.iload_n 1, 1) := by decide +kernel
theorem dX4_barsNow_55 : decode cX4_barsNow 55 = .ok (.ifCond .eq 7, 3) := by decide +kernel
theorem dX4_barsNow_58 : decode cX4_barsNow 58 = .ok (.iconst 1, 1) := by decide +kernel
theorem dX4_barsNow_59 : decode cX4_barsNow 59 = .ok (.goto 58, 3) := by decide +kernel
theorem dX4_barsNow_62 : decode cX4_barsNow 62 = .ok (.aload_n 0, 1) := by decide +kernel
theorem dX4_barsNow_63 : decode cX4_barsNow 63 = .ok (.getfield 70, 3) := by decide +kernel
theorem dX4_barsNow_66 : decode cX4_barsNow 66 = .ok (.ifCond .eq 7, 3) := by decide +kernel
theorem dX4_barsNow_69 : decode cX4_barsNow 69 = .ok (.iconst 2, 1) := by decide +kernel
theorem dX4_barsNow_70 : decode cX4_barsNow 70 = .ok (.goto 47, 3) := by decide +kernel
theorem dX4_barsNow_73 : decode cX4_barsNow 73 = .ok (.aload_n 0, 1) := by decide +kernel
theorem dX4_barsNow_74 : decode cX4_barsNow 74 = .ok (.getfield 96, 3) := by decide +kernel
theorem dX4_barsNow_77 : decode cX4_barsNow 77 = .ok (.lconst 0, 1) := by decide +kernel
theorem dX4_barsNow_78 : decode cX4_barsNow 78 = .ok (.lcmp, 1) := by decide +kernel
theorem dX4_barsNow_79 : decode cX4_barsNow 79 = .ok (.ifCond .gt 10, 3) := by decide +kernel
theorem dX4_barsNow_82 : decode cX4_barsNow 82 = .ok (.aload_n 0, 1) := by decide +kernel
theorem dX4_barsNow_83 : decode cX4_barsNow 83 = .ok (.getfield 80, 3) := by decide +kernel
theorem dX4_barsNow_86 : decode cX4_barsNow 86 = .ok (.ifCond .le 7, 3) := by decide +kernel
theorem dX4_barsNow_89 : decode cX4_barsNow 89 = .ok (.iconst 3, 1) := by decide +kernel
theorem dX4_barsNow_90 : decode cX4_barsNow 90 = .ok (.goto 27, 3) := by decide +kernel
theorem dX4_barsNow_93 : decode cX4_barsNow 93 = .ok (.iload_n 3, 1) := by decide +kernel
theorem dX4_barsNow_94 : decode cX4_barsNow 94 = .ok (.iconst 2, 1) := by decide +kernel
theorem dX4_barsNow_95 : decode cX4_barsNow 95 = .ok (.if_icmp .ge 7, 3) := by decide +kernel
theorem dX4_barsNow_98 : decode cX4_barsNow 98 = .ok (.iconst 4, 1) := by decide +kernel
theorem dX4_barsNow_99 : decode cX4_barsNow 99 = .ok (.goto 18, 3) := by decide +kernel
theorem dX4_barsNow_102 : decode cX4_barsNow 102 = .ok (.aload_n 0, 1) := by decide +kernel
theorem dX4_barsNow_103 : decode cX4_barsNow 103 = .ok (.getfield 63, 3) := by decide +kernel
theorem dX4_barsNow_106 : decode cX4_barsNow 106 = .ok (.sipush 5000, 3) := by decide +kernel
theorem dX4_barsNow_109 : decode cX4_barsNow 109 = .ok (.if_icmp .ne 7, 3) := by decide +kernel
theorem dX4_barsNow_112 : decode cX4_barsNow 112 = .ok (.iconst 5, 1) := by decide +kernel
theorem dX4_barsNow_113 : decode cX4_barsNow 113 = .ok (.goto 4, 3) := by decide +kernel
theorem dX4_barsNow_116 : decode cX4_barsNow 116 = .ok (.iconst 0, 1) := by decide +kernel
theorem dX4_barsNow_117 : decode cX4_barsNow 117 = .ok (.ireturn, 1) := by decide +kernel
theorem dX4_bars_0 : decode cX4_bars 0 = .ok (.aload_n 0, 1) := by decide +kernel
theorem dX4_bars_1 : decode cX4_bars 1 = .ok (.iconst 0, 1) := by decide +kernel
theorem dX4_bars_2 : decode cX4_bars 2 = .ok (.putfield 52, 3) := by decide +kernel
theorem dX4_bars_5 : decode cX4_bars 5 = .ok (.aload_n 0, 1) := by decide +kernel
theorem dX4_bars_6 : decode cX4_bars 6 = .ok (.invokevirtual 152, 3) := by decide +kernel
theorem dX4_bars_9 : decode cX4_bars 9 = .ok (.ireturn, 1) := by decide +kernel
theorem dX4_pressure_0 : decode cX4_pressure 0 = .ok (.aload_n 0, 1) := by decide +kernel
theorem dX4_pressure_1 : decode cX4_pressure 1 = .ok (.iload_n 1, 1) := by decide +kernel
theorem dX4_pressure_2 : decode cX4_pressure 2 = .ok (.iconst 0, 1) := by decide +kernel
theorem dX4_pressure_3 : decode cX4_pressure 3 = .ok (.iconst 5, 1) := by decide +kernel
theorem dX4_pressure_4 : decode cX4_pressure 4 = .ok (.invokestatic 59, 3) := by decide +kernel
theorem dX4_pressure_7 : decode cX4_pressure 7 = .ok (.ifCond .eq 7, 3) := by decide +kernel
theorem dX4_pressure_10 : decode cX4_pressure 10 = .ok (.iconst 0, 1) := by decide +kernel
theorem dX4_pressure_11 : decode cX4_pressure 11 = .ok (.goto 4, 3) := by decide +kernel
theorem dX4_pressure_14 : decode cX4_pressure 14 = .ok (.iconst 1, 1) := by decide +kernel
theorem dX4_pressure_15 : decode cX4_pressure 15 = .ok (.invokevirtual 66, 3) := by decide +kernel
theorem dX4_pressure_18 : decode cX4_pressure 18 = .ok (.ifCond .ne 5, 3) := by decide +kernel
theorem dX4_pressure_21 : decode cX4_pressure 21 = .ok (.iconst 0, 1) := by decide +kernel
theorem dX4_pressure_22 : decode cX4_pressure 22 = .ok (.ireturn, 1) := by decide +kernel
theorem dX4_pressure_23 : decode cX4_pressure 23 = .ok (.iload_n 1, 1) := by decide +kernel
theorem dX4_pressure_24 : decode cX4_pressure 24 = .ok (.tableswitch 69 0 4 #[36, 41, 50, 55, 64], 36) := by decide +kernel
theorem dX4_pressure_60 : decode cX4_pressure 60 = .ok (.aload_n 0, 1) := by decide +kernel
theorem dX4_pressure_61 : decode cX4_pressure 61 = .ok (.invokevirtual 118, 3) := by decide +kernel
theorem dX4_pressure_64 : decode cX4_pressure 64 = .ok (.ireturn, 1) := by decide +kernel
theorem dX4_pressure_65 : decode cX4_pressure 65 = .ok (.aload_n 0, 1) := by decide +kernel
theorem dX4_pressure_66 : decode cX4_pressure 66 = .ok (.aload_n 0, 1) := by decide +kernel
theorem dX4_pressure_67 : decode cX4_pressure 67 = .ok (.getfield 63, 3) := by decide +kernel
theorem dX4_pressure_70 : decode cX4_pressure 70 = .ok (.invokevirtual 109, 3) := by decide +kernel
theorem dX4_pressure_73 : decode cX4_pressure 73 = .ok (.ireturn, 1) := by decide +kernel
theorem dX4_pressure_74 : decode cX4_pressure 74 = .ok (.aload_n 0, 1) := by decide +kernel
theorem dX4_pressure_75 : decode cX4_pressure 75 = .ok (.invokevirtual 144, 3) := by decide +kernel
theorem dX4_pressure_78 : decode cX4_pressure 78 = .ok (.ireturn, 1) := by decide +kernel
theorem dX4_pressure_79 : decode cX4_pressure 79 = .ok (.aload_n 0, 1) := by decide +kernel
theorem dX4_pressure_80 : decode cX4_pressure 80 = .ok (.aload_n 0, 1) := by decide +kernel
theorem dX4_pressure_81 : decode cX4_pressure 81 = .ok (.getfield 93, 3) := by decide +kernel
theorem dX4_pressure_84 : decode cX4_pressure 84 = .ok (.invokevirtual 147, 3) := by decide +kernel
theorem dX4_pressure_87 : decode cX4_pressure 87 = .ok (.ireturn, 1) := by decide +kernel
theorem dX4_pressure_88 : decode cX4_pressure 88 = .ok (.aload_n 0, 1) := by decide +kernel
theorem dX4_pressure_89 : decode cX4_pressure 89 = .ok (.getfield 87, 3) := by decide +kernel
theorem dX4_pressure_92 : decode cX4_pressure 92 = .ok (.ireturn, 1) := by decide +kernel
theorem dX4_pressure_93 : decode cX4_pressure 93 = .ok (.aload_n 0, 1) := by decide +kernel
theorem dX4_pressure_94 : decode cX4_pressure 94 = .ok (.getfield 96, 3) := by decide +kernel
theorem dX4_pressure_97 : decode cX4_pressure 97 = .ok (.lconst 0, 1) := by decide +kernel
theorem dX4_pressure_98 : decode cX4_pressure 98 = .ok (.lcmp, 1) := by decide +kernel
theorem dX4_pressure_99 : decode cX4_pressure 99 = .ok (.ifCond .le 10, 3) := by decide +kernel
theorem dX4_pressure_102 : decode cX4_pressure 102 = .ok (.aload_n 0, 1) := by decide +kernel
theorem dX4_pressure_103 : decode cX4_pressure 103 = .ok (.invokevirtual 100, 3) := by decide +kernel
theorem dX4_pressure_106 : decode cX4_pressure 106 = .ok (.goto 4, 3) := by decide +kernel
theorem dX4_pressure_109 : decode cX4_pressure 109 = .ok (.iconst 0, 1) := by decide +kernel
theorem dX4_pressure_110 : decode cX4_pressure 110 = .ok (.ireturn, 1) := by decide +kernel
theorem dX4_of_0 : decode cX4_of 0 = .ok (.aload_n 0, 1) := by decide +kernel
theorem dX4_of_1 : decode cX4_of 1 = .ok (.iload_n 1, 1) := by decide +kernel
theorem dX4_of_2 : decode cX4_of 2 = .ok (.iconst 0, 1) := by decide +kernel
theorem dX4_of_3 : decode cX4_of 3 = .ok (.bipush 11, 2) := by decide +kernel
theorem dX4_of_5 : decode cX4_of 5 = .ok (.invokestatic 59, 3) := by decide +kernel
theorem dX4_of_8 : decode cX4_of 8 = .ok (.ifCond .eq 7, 3) := by decide +kernel
theorem dX4_of_11 : decode cX4_of 11 = .ok (.iconst 0, 1) := by decide +kernel
theorem dX4_of_12 : decode cX4_of 12 = .ok (.goto 4, 3) := by decide +kernel
theorem dX4_of_15 : decode cX4_of 15 = .ok (.iconst 1, 1) := by decide +kernel
theorem dX4_of_16 : decode cX4_of 16 = .ok (.invokevirtual 66, 3) := by decide +kernel
theorem dX4_of_19 : decode cX4_of 19 = .ok (.ifCond .ne 5, 3) := by decide +kernel
theorem dX4_of_22 : decode cX4_of 22 = .ok (.lconst 0, 1) := by decide +kernel
theorem dX4_of_23 : decode cX4_of 23 = .ok (.lreturn, 1) := by decide +kernel
theorem dX4_of_24 : decode cX4_of 24 = .ok (.iload_n 1, 1) := by decide +kernel
theorem dX4_of_25 : decode cX4_of 25 = .ok (.tableswitch 145 0 10 #[59, 65, 71, 77, 90, 96, 102, 123, 129, 134, 139], 59) := by decide +kernel
theorem dX4_of_84 : decode cX4_of 84 = .ok (.aload_n 0, 1) := by decide +kernel
theorem dX4_of_85 : decode cX4_of 85 = .ok (.getfield 63, 3) := by decide +kernel
theorem dX4_of_88 : decode cX4_of 88 = .ok (.i2l, 1) := by decide +kernel
theorem dX4_of_89 : decode cX4_of 89 = .ok (.lreturn, 1) := by decide +kernel
theorem dX4_of_90 : decode cX4_of 90 = .ok (.aload_n 0, 1) := by decide +kernel
theorem dX4_of_91 : decode cX4_of 91 = .ok (.getfield 93, 3) := by decide +kernel
theorem dX4_of_94 : decode cX4_of 94 = .ok (.i2l, 1) := by decide +kernel
theorem dX4_of_95 : decode cX4_of 95 = .ok (.lreturn, 1) := by decide +kernel
theorem dX4_of_96 : decode cX4_of 96 = .ok (.aload_n 0, 1) := by decide +kernel
theorem dX4_of_97 : decode cX4_of 97 = .ok (.getfield 23, 3) := by decide +kernel
theorem dX4_of_100 : decode cX4_of 100 = .ok (.i2l, 1) := by decide +kernel
theorem dX4_of_101 : decode cX4_of 101 = .ok (.lreturn, 1) := by decide +kernel
theorem dX4_of_102 : decode cX4_of 102 = .ok (.aload_n 0, 1) := by decide +kernel
theorem dX4_of_103 : decode cX4_of 103 = .ok (.getfield 70, 3) := by decide +kernel
theorem dX4_of_106 : decode cX4_of 106 = .ok (.ifCond .eq 7, 3) := by decide +kernel
theorem dX4_of_109 : decode cX4_of 109 = .ok (.lconst 1, 1) := by decide +kernel
theorem dX4_of_110 : decode cX4_of 110 = .ok (.goto 4, 3) := by decide +kernel
theorem dX4_of_113 : decode cX4_of 113 = .ok (.lconst 0, 1) := by decide +kernel
theorem dX4_of_114 : decode cX4_of 114 = .ok (.lreturn, 1) := by decide +kernel
theorem dX4_of_115 : decode cX4_of 115 = .ok (.aload_n 0, 1) := by decide +kernel
theorem dX4_of_116 : decode cX4_of 116 = .ok (.getfield 128, 3) := by decide +kernel
theorem dX4_of_119 : decode cX4_of 119 = .ok (.i2l, 1) := by decide +kernel
theorem dX4_of_120 : decode cX4_of 120 = .ok (.lreturn, 1) := by decide +kernel
theorem dX4_of_121 : decode cX4_of 121 = .ok (.aload_n 0, 1) := by decide +kernel
theorem dX4_of_122 : decode cX4_of 122 = .ok (.getfield 77, 3) := by decide +kernel
theorem dX4_of_125 : decode cX4_of 125 = .ok (.i2l, 1) := by decide +kernel
theorem dX4_of_126 : decode cX4_of 126 = .ok (.lreturn, 1) := by decide +kernel
theorem dX4_of_127 : decode cX4_of 127 = .ok (.aload_n 0, 1) := by decide +kernel
theorem dX4_of_128 : decode cX4_of 128 = .ok (.getfield 96, 3) := by decide +kernel
theorem dX4_of_131 : decode cX4_of 131 = .ok (.lconst 0, 1) := by decide +kernel
theorem dX4_of_132 : decode cX4_of 132 = .ok (.lcmp, 1) := by decide +kernel
theorem dX4_of_133 : decode cX4_of 133 = .ok (.ifCond .le 11, 3) := by decide +kernel
theorem dX4_of_136 : decode cX4_of 136 = .ok (.aload_n 0, 1) := by decide +kernel
theorem dX4_of_137 : decode cX4_of 137 = .ok (.getfield 90, 3) := by decide +kernel
theorem dX4_of_140 : decode cX4_of 140 = .ok (.i2l, 1) := by decide +kernel
theorem dX4_of_141 : decode cX4_of 141 = .ok (.goto 6, 3) := by decide +kernel
theorem dX4_of_144 : decode cX4_of 144 = .ok (.ldc2_w 172, 3) := by decide +kernel
theorem dX4_of_147 : decode cX4_of 147 = .ok (.lreturn, 1) := by decide +kernel
theorem dX4_of_148 : decode cX4_of 148 = .ok (.aload_n 0, 1) := by decide +kernel
theorem dX4_of_149 : decode cX4_of 149 = .ok (.getfield 80, 3) := by decide +kernel
theorem dX4_of_152 : decode cX4_of 152 = .ok (.i2l, 1) := by decide +kernel
theorem dX4_of_153 : decode cX4_of 153 = .ok (.lreturn, 1) := by decide +kernel
theorem dX4_of_154 : decode cX4_of 154 = .ok (.aload_n 0, 1) := by decide +kernel
theorem dX4_of_155 : decode cX4_of 155 = .ok (.getfield 103, 3) := by decide +kernel
theorem dX4_of_158 : decode cX4_of 158 = .ok (.lreturn, 1) := by decide +kernel
theorem dX4_of_159 : decode cX4_of 159 = .ok (.aload_n 0, 1) := by decide +kernel
theorem dX4_of_160 : decode cX4_of 160 = .ok (.getfield 141, 3) := by decide +kernel
theorem dX4_of_163 : decode cX4_of 163 = .ok (.lreturn, 1) := by decide +kernel
theorem dX4_of_164 : decode cX4_of 164 = .ok (.aload_n 0, 1) := by decide +kernel
theorem dX4_of_165 : decode cX4_of 165 = .ok (.getfield 74, 3) := by decide +kernel
theorem dX4_of_168 : decode cX4_of 168 = .ok (.i2l, 1) := by decide +kernel
theorem dX4_of_169 : decode cX4_of 169 = .ok (.lreturn, 1) := by decide +kernel
theorem dX4_of_170 : decode cX4_of 170 = .ok (.aload_n 0, 1) := by decide +kernel
theorem dX4_of_171 : decode cX4_of 171 = .ok (.getfield 159, 3) := by decide +kernel
theorem dX4_of_174 : decode cX4_of 174 = .ok (.i2l, 1) := by decide +kernel
theorem dX4_of_175 : decode cX4_of 175 = .ok (.lreturn, 1) := by decide +kernel
theorem dX4_ofTest_0 : decode cX4_ofTest 0 = .ok (.iload_n 1, 1) := by decide +kernel
theorem dX4_ofTest_1 : decode cX4_ofTest 1 = .ok (.iconst 0, 1) := by decide +kernel
theorem dX4_ofTest_2 : decode cX4_ofTest 2 = .ok (.aload_n 0, 1) := by decide +kernel
theorem dX4_ofTest_3 : decode cX4_ofTest 3 = .ok (.getfield 112, 3) := by decide +kernel
theorem dX4_ofTest_6 : decode cX4_ofTest 6 = .ok (.iconst 1, 1) := by decide +kernel
theorem dX4_ofTest_7 : decode cX4_ofTest 7 = .ok (.isub, 1) := by decide +kernel
theorem dX4_ofTest_8 : decode cX4_ofTest 8 = .ok (.invokestatic 59, 3) := by decide +kernel
theorem dX4_ofTest_11 : decode cX4_ofTest 11 = .ok (.istore_n 3, 1) := by decide +kernel
theorem dX4_ofTest_12 : decode cX4_ofTest 12 = .ok (.aload_n 0, 1) := by decide +kernel
theorem dX4_ofTest_13 : decode cX4_ofTest 13 = .ok (.iload_n 3, 1) := by decide +kernel
theorem dX4_ofTest_14 : decode cX4_ofTest 14 = .ok (.ifCond .ne 7, 3) := by decide +kernel
theorem dX4_ofTest_17 : decode cX4_ofTest 17 = .ok (.iconst 1, 1) := by decide +kernel
theorem dX4_ofTest_18 : decode cX4_ofTest 18 = .ok (.goto 17, 3) := by decide +kernel
theorem dX4_ofTest_21 : decode cX4_ofTest 21 = .ok (.iload_n 2, 1) := by decide +kernel
theorem dX4_ofTest_22 : decode cX4_ofTest 22 = .ok (.iconst 0, 1) := by decide +kernel
theorem dX4_ofTest_23 : decode cX4_ofTest 23 = .ok (.iconst 3, 1) := by decide +kernel
theorem dX4_ofTest_24 : decode cX4_ofTest 24 = .ok (.invokestatic 59, 3) := by decide +kernel
theorem dX4_ofTest_27 : decode cX4_ofTest 27 = .ok (.ifCond .eq 7, 3) := by decide +kernel
theorem dX4_ofTest_30 : decode cX4_ofTest 30 = .ok (.iconst 0, 1) := by decide +kernel
theorem dX4_ofTest_31 : decode cX4_ofTest 31 = .ok (.goto 4, 3) := by decide +kernel
theorem dX4_ofTest_34 : decode cX4_ofTest 34 = .ok (.iconst 2, 1) := by decide +kernel
theorem dX4_ofTest_35 : decode cX4_ofTest 35 = .ok (.invokevirtual 66, 3) := by decide +kernel
theorem dX4_ofTest_38 : decode cX4_ofTest 38 = .ok (.ifCond .ne 5, 3) := by decide +kernel
theorem dX4_ofTest_41 : decode cX4_ofTest 41 = .ok (.iconst 0, 1) := by decide +kernel
theorem dX4_ofTest_42 : decode cX4_ofTest 42 = .ok (.ireturn, 1) := by decide +kernel
theorem dX4_ofTest_43 : decode cX4_ofTest 43 = .ok (.iload_n 2, 1) := by decide +kernel
theorem dX4_ofTest_44 : decode cX4_ofTest 44 = .ok (.ifCond .ne 12, 3) := by decide +kernel
theorem dX4_ofTest_47 : decode cX4_ofTest 47 = .ok (.aload_n 0, 1) := by decide +kernel
theorem dX4_ofTest_48 : decode cX4_ofTest 48 = .ok (.getfield 37, 3) := by decide +kernel
theorem dX4_ofTest_51 : decode cX4_ofTest 51 = .ok (.iload_n 1, 1) := by decide +kernel
theorem dX4_ofTest_52 : decode cX4_ofTest 52 = .ok (.iaload, 1) := by decide +kernel
theorem dX4_ofTest_53 : decode cX4_ofTest 53 = .ok (.goto 45, 3) := by decide +kernel
theorem dX4_ofTest_56 : decode cX4_ofTest 56 = .ok (.iload_n 2, 1) := by decide +kernel
theorem dX4_ofTest_57 : decode cX4_ofTest 57 = .ok (.iconst 1, 1) := by decide +kernel
theorem dX4_ofTest_58 : decode cX4_ofTest 58 = .ok (.if_icmp .ne 12, 3) := by decide +kernel
theorem dX4_ofTest_61 : decode cX4_ofTest 61 = .ok (.aload_n 0, 1) := by decide +kernel
theorem dX4_ofTest_62 : decode cX4_ofTest 62 = .ok (.getfield 40, 3) := by decide +kernel
theorem dX4_ofTest_65 : decode cX4_ofTest 65 = .ok (.iload_n 1, 1) := by decide +kernel
theorem dX4_ofTest_66 : decode cX4_ofTest 66 = .ok (.iaload, 1) := by decide +kernel
theorem dX4_ofTest_67 : decode cX4_ofTest 67 = .ok (.goto 31, 3) := by decide +kernel
theorem dX4_ofTest_70 : decode cX4_ofTest 70 = .ok (.iload_n 2, 1) := by decide +kernel
theorem dX4_ofTest_71 : decode cX4_ofTest 71 = .ok (.iconst 2, 1) := by decide +kernel
theorem dX4_ofTest_72 : decode cX4_ofTest 72 = .ok (.if_icmp .ne 20, 3) := by decide +kernel
theorem dX4_ofTest_75 : decode cX4_ofTest 75 = .ok (.aload_n 0, 1) := by decide +kernel
theorem dX4_ofTest_76 : decode cX4_ofTest 76 = .ok (.getfield 43, 3) := by decide +kernel
theorem dX4_ofTest_79 : decode cX4_ofTest 79 = .ok (.iload_n 1, 1) := by decide +kernel
theorem dX4_ofTest_80 : decode cX4_ofTest 80 = .ok (.baload, 1) := by decide +kernel
theorem dX4_ofTest_81 : decode cX4_ofTest 81 = .ok (.ifCond .eq 7, 3) := by decide +kernel
theorem dX4_ofTest_84 : decode cX4_ofTest 84 = .ok (.iconst 1, 1) := by decide +kernel
theorem dX4_ofTest_85 : decode cX4_ofTest 85 = .ok (.goto 13, 3) := by decide +kernel
theorem dX4_ofTest_88 : decode cX4_ofTest 88 = .ok (.iconst 0, 1) := by decide +kernel
theorem dX4_ofTest_89 : decode cX4_ofTest 89 = .ok (.goto 9, 3) := by decide +kernel
theorem dX4_ofTest_92 : decode cX4_ofTest 92 = .ok (.aload_n 0, 1) := by decide +kernel
theorem dX4_ofTest_93 : decode cX4_ofTest 93 = .ok (.getfield 46, 3) := by decide +kernel
theorem dX4_ofTest_96 : decode cX4_ofTest 96 = .ok (.iload_n 1, 1) := by decide +kernel
theorem dX4_ofTest_97 : decode cX4_ofTest 97 = .ok (.iaload, 1) := by decide +kernel
theorem dX4_ofTest_98 : decode cX4_ofTest 98 = .ok (.ireturn, 1) := by decide +kernel
theorem dX4_killWeight_0 : decode cX4_killWeight 0 = .ok (.aload_n 0, 1) := by decide +kernel
theorem dX4_killWeight_1 : decode cX4_killWeight 1 = .ok (.aload_n 0, 1) := by decide +kernel
theorem dX4_killWeight_2 : decode cX4_killWeight 2 = .ok (.getfield 63, 3) := by decide +kernel
theorem dX4_killWeight_5 : decode cX4_killWeight 5 = .ok (.ifCond .le 7, 3) := by decide +kernel
theorem dX4_killWeight_8 : decode cX4_killWeight 8 = .ok (.iconst 0, 1) := by decide +kernel
theorem dX4_killWeight_9 : decode cX4_killWeight 9 = .ok (.goto 4, 3) := by decide +kernel
theorem dX4_killWeight_12 : decode cX4_killWeight 12 = .ok (.iconst 1, 1) := by decide +kernel
theorem dX4_killWeight_13 : decode cX4_killWeight 13 = .ok (.invokevirtual 66, 3) := by decide +kernel
theorem dX4_killWeight_16 : decode cX4_killWeight 16 = .ok (.ifCond .ne 5, 3) := by decide +kernel
theorem dX4_killWeight_19 : decode cX4_killWeight 19 = .ok (.iconst 0, 1) := by decide +kernel
theorem dX4_killWeight_20 : decode cX4_killWeight 20 = .ok (.ireturn, 1) := by decide +kernel
theorem dX4_killWeight_21 : decode cX4_killWeight 21 = .ok (.iconst 0, 1) := by decide +kernel
theorem dX4_killWeight_22 : decode cX4_killWeight 22 = .ok (.istore_n 1, 1) := by decide +kernel
theorem dX4_killWeight_23 : decode cX4_killWeight 23 = .ok (.iload_n 1, 1) := by decide +kernel
theorem dX4_killWeight_24 : decode cX4_killWeight 24 = .ok (.aload_n 0, 1) := by decide +kernel
theorem dX4_killWeight_25 : decode cX4_killWeight 25 = .ok (.getfield 63, 3) := by decide +kernel
theorem dX4_killWeight_28 : decode cX4_killWeight 28 = .ok (.imul, 1) := by decide +kernel
theorem dX4_killWeight_29 : decode cX4_killWeight 29 = .ok (.bipush 10, 2) := by decide +kernel
theorem dX4_killWeight_31 : decode cX4_killWeight 31 = .ok (.idiv, 1) := by decide +kernel
theorem dX4_killWeight_32 : decode cX4_killWeight 32 = .ok (.aload_n 0, 1) := by decide +kernel
theorem dX4_killWeight_33 : decode cX4_killWeight 33 = .ok (.aload_n 0, 1) := by decide +kernel
theorem dX4_killWeight_34 : decode cX4_killWeight 34 = .ok (.getfield 63, 3) := by decide +kernel
theorem dX4_killWeight_37 : decode cX4_killWeight 37 = .ok (.invokevirtual 109, 3) := by decide +kernel
theorem dX4_killWeight_40 : decode cX4_killWeight 40 = .ok (.if_icmp .ge 9, 3) := by decide +kernel
theorem dX4_killWeight_43 : decode cX4_killWeight 43 = .ok (.iinc 1 1, 3) := by decide +kernel
theorem dX4_killWeight_46 : decode cX4_killWeight 46 = .ok (.goto (-23), 3) := by decide +kernel
theorem dX4_killWeight_49 : decode cX4_killWeight 49 = .ok (.iload_n 1, 1) := by decide +kernel
theorem dX4_killWeight_50 : decode cX4_killWeight 50 = .ok (.ireturn, 1) := by decide +kernel
theorem dX4_bound_0 : decode cX4_bound 0 = .ok (.iload_n 3, 1) := by decide +kernel
theorem dX4_bound_1 : decode cX4_bound 1 = .ok (.ifCond .eq 12, 3) := by decide +kernel
theorem dX4_bound_4 : decode cX4_bound 4 = .ok (.aload_n 0, 1) := by decide +kernel
theorem dX4_bound_5 : decode cX4_bound 5 = .ok (.getfield 13, 3) := by decide +kernel
theorem dX4_bound_8 : decode cX4_bound 8 = .ok (.iload_n 1, 1) := by decide +kernel
theorem dX4_bound_9 : decode cX4_bound 9 = .ok (.iaload, 1) := by decide +kernel
theorem dX4_bound_10 : decode cX4_bound 10 = .ok (.goto 9, 3) := by decide +kernel
theorem dX4_bound_13 : decode cX4_bound 13 = .ok (.aload_n 0, 1) := by decide +kernel
theorem dX4_bound_14 : decode cX4_bound 14 = .ok (.getfield 7, 3) := by decide +kernel
theorem dX4_bound_17 : decode cX4_bound 17 = .ok (.iload_n 1, 1) := by decide +kernel
theorem dX4_bound_18 : decode cX4_bound 18 = .ok (.iaload, 1) := by decide +kernel
theorem dX4_bound_19 : decode cX4_bound 19 = .ok (.istore 4, 2) := by decide +kernel
theorem dX4_bound_21 : decode cX4_bound 21 = .ok (.iload_n 1, 1) := by decide +kernel
theorem dX4_bound_22 : decode cX4_bound 22 = .ok (.istore 5, 2) := by decide +kernel
theorem dX4_bound_24 : decode cX4_bound 24 = .ok (.iload 5, 2) := by decide +kernel
theorem dX4_bound_26 : decode cX4_bound 26 = .ok (.iload_n 2, 1) := by decide +kernel
theorem dX4_bound_27 : decode cX4_bound 27 = .ok (.if_icmp .gt 66, 3) := by decide +kernel
theorem dX4_bound_30 : decode cX4_bound 30 = .ok (.iload_n 3, 1) := by decide +kernel
theorem dX4_bound_31 : decode cX4_bound 31 = .ok (.ifCond .eq 30, 3) := by decide +kernel
theorem dX4_bound_34 : decode cX4_bound 34 = .ok (.aload_n 0, 1) := by decide +kernel
theorem dX4_bound_35 : decode cX4_bound 35 = .ok (.getfield 13, 3) := by decide +kernel
theorem dX4_bound_38 : decode cX4_bound 38 = .ok (.iload 5, 2) := by decide +kernel
theorem dX4_bound_40 : decode cX4_bound 40 = .ok (.iaload, 1) := by decide +kernel
theorem dX4_bound_41 : decode cX4_bound 41 = .ok (.iload 4, 2) := by decide +kernel
theorem dX4_bound_43 : decode cX4_bound 43 = .ok (.if_icmp .ge 13, 3) := by decide +kernel
theorem dX4_bound_46 : decode cX4_bound 46 = .ok (.aload_n 0, 1) := by decide +kernel
theorem dX4_bound_47 : decode cX4_bound 47 = .ok (.getfield 13, 3) := by decide +kernel
theorem dX4_bound_50 : decode cX4_bound 50 = .ok (.iload 5, 2) := by decide +kernel
theorem dX4_bound_52 : decode cX4_bound 52 = .ok (.iaload, 1) := by decide +kernel
theorem dX4_bound_53 : decode cX4_bound 53 = .ok (.goto 32, 3) := by decide +kernel
theorem dX4_bound_56 : decode cX4_bound 56 = .ok (.iload 4, 2) := by decide +kernel
theorem dX4_bound_58 : decode cX4_bound 58 = .ok (.goto 27, 3) := by decide +kernel
theorem dX4_bound_61 : decode cX4_bound 61 = .ok (.aload_n 0, 1) := by decide +kernel
theorem dX4_bound_62 : decode cX4_bound 62 = .ok (.getfield 7, 3) := by decide +kernel
theorem dX4_bound_65 : decode cX4_bound 65 = .ok (.iload 5, 2) := by decide +kernel
theorem dX4_bound_67 : decode cX4_bound 67 = .ok (.iaload, 1) := by decide +kernel
theorem dX4_bound_68 : decode cX4_bound 68 = .ok (.iload 4, 2) := by decide +kernel
theorem dX4_bound_70 : decode cX4_bound 70 = .ok (.if_icmp .le 13, 3) := by decide +kernel
theorem dX4_bound_73 : decode cX4_bound 73 = .ok (.aload_n 0, 1) := by decide +kernel
theorem dX4_bound_74 : decode cX4_bound 74 = .ok (.getfield 7, 3) := by decide +kernel
theorem dX4_bound_77 : decode cX4_bound 77 = .ok (.iload 5, 2) := by decide +kernel
theorem dX4_bound_79 : decode cX4_bound 79 = .ok (.iaload, 1) := by decide +kernel
theorem dX4_bound_80 : decode cX4_bound 80 = .ok (.goto 5, 3) := by decide +kernel
theorem dX4_bound_83 : decode cX4_bound 83 = .ok (.iload 4, 2) := by decide +kernel
theorem dX4_bound_85 : decode cX4_bound 85 = .ok (.istore 4, 2) := by decide +kernel
theorem dX4_bound_87 : decode cX4_bound 87 = .ok (.iinc 5 1, 3) := by decide +kernel
theorem dX4_bound_90 : decode cX4_bound 90 = .ok (.goto (-66), 3) := by decide +kernel
theorem dX4_bound_93 : decode cX4_bound 93 = .ok (.iload 4, 2) := by decide +kernel
theorem dX4_bound_95 : decode cX4_bound 95 = .ok (.ireturn, 1) := by decide +kernel
theorem dX4_window_0 : decode cX4_window 0 = .ok (.iload_n 1, 1) := by decide +kernel
theorem dX4_window_1 : decode cX4_window 1 = .ok (.iconst 0, 1) := by decide +kernel
theorem dX4_window_2 : decode cX4_window 2 = .ok (.sipush 4999, 3) := by decide +kernel
theorem dX4_window_5 : decode cX4_window 5 = .ok (.invokestatic 59, 3) := by decide +kernel
theorem dX4_window_8 : decode cX4_window 8 = .ok (.ifCond .eq 19, 3) := by decide +kernel
theorem dX4_window_11 : decode cX4_window 11 = .ok (.iload_n 2, 1) := by decide +kernel
theorem dX4_window_12 : decode cX4_window 12 = .ok (.iload_n 1, 1) := by decide +kernel
theorem dX4_window_13 : decode cX4_window 13 = .ok (.if_icmp .le 14, 3) := by decide +kernel
theorem dX4_window_16 : decode cX4_window 16 = .ok (.iload_n 2, 1) := by decide +kernel
theorem dX4_window_17 : decode cX4_window 17 = .ok (.sipush 5000, 3) := by decide +kernel
theorem dX4_window_20 : decode cX4_window 20 = .ok (.if_icmp .gt 7, 3) := by decide +kernel
theorem dX4_window_23 : decode cX4_window 23 = .ok (.iconst 1, 1) := by decide +kernel
theorem dX4_window_24 : decode cX4_window 24 = .ok (.goto 4, 3) := by decide +kernel
theorem dX4_window_27 : decode cX4_window 27 = .ok (.iconst 0, 1) := by decide +kernel
theorem dX4_window_28 : decode cX4_window 28 = .ok (.istore 4, 2) := by decide +kernel
theorem dX4_window_30 : decode cX4_window 30 = .ok (.aload_n 0, 1) := by decide +kernel
theorem dX4_window_31 : decode cX4_window 31 = .ok (.iload 4, 2) := by decide +kernel
theorem dX4_window_33 : decode cX4_window 33 = .ok (.ifCond .eq 7, 3) := by decide +kernel
theorem dX4_window_36 : decode cX4_window 36 = .ok (.iconst 0, 1) := by decide +kernel
theorem dX4_window_37 : decode cX4_window 37 = .ok (.goto 4, 3) := by decide +kernel
theorem dX4_window_40 : decode cX4_window 40 = .ok (.iconst 1, 1) := by decide +kernel
theorem dX4_window_41 : decode cX4_window 41 = .ok (.invokevirtual 66, 3) := by decide +kernel
theorem dX4_window_44 : decode cX4_window 44 = .ok (.ifCond .eq 19, 3) := by decide +kernel
theorem dX4_window_47 : decode cX4_window 47 = .ok (.aload_n 0, 1) := by decide +kernel
theorem dX4_window_48 : decode cX4_window 48 = .ok (.iload_n 1, 1) := by decide +kernel
theorem dX4_window_49 : decode cX4_window 49 = .ok (.bipush 100, 2) := by decide +kernel
theorem dX4_window_51 : decode cX4_window 51 = .ok (.idiv, 1) := by decide +kernel
theorem dX4_window_52 : decode cX4_window 52 = .ok (.iload_n 2, 1) := by decide +kernel
theorem dX4_window_53 : decode cX4_window 53 = .ok (.invokestatic 55, 3) := by decide +kernel
theorem dX4_window_56 : decode cX4_window 56 = .ok (.iload_n 3, 1) := by decide +kernel
theorem dX4_window_57 : decode cX4_window 57 = .ok (.invokevirtual 174, 3) := by decide +kernel
theorem dX4_window_60 : decode cX4_window 60 = .ok (.goto 4, 3) := by decide +kernel
theorem dX4_window_63 : decode cX4_window 63 = .ok (.iconst 0, 1) := by decide +kernel
theorem dX4_window_64 : decode cX4_window 64 = .ok (.ireturn, 1) := by decide +kernel
theorem dX4_casingsOf_0 : decode cX4_casingsOf 0 = .ok (.aload_n 0, 1) := by decide +kernel
theorem dX4_casingsOf_1 : decode cX4_casingsOf 1 = .ok (.iload_n 1, 1) := by decide +kernel
theorem dX4_casingsOf_2 : decode cX4_casingsOf 2 = .ok (.iconst 1, 1) := by decide +kernel
theorem dX4_casingsOf_3 : decode cX4_casingsOf 3 = .ok (.sipush 5000, 3) := by decide +kernel
theorem dX4_casingsOf_6 : decode cX4_casingsOf 6 = .ok (.invokestatic 59, 3) := by decide +kernel
theorem dX4_casingsOf_9 : decode cX4_casingsOf 9 = .ok (.ifCond .eq 7, 3) := by decide +kernel
theorem dX4_casingsOf_12 : decode cX4_casingsOf 12 = .ok (.iconst 0, 1) := by decide +kernel
theorem dX4_casingsOf_13 : decode cX4_casingsOf 13 = .ok (.goto 4, 3) := by decide +kernel
theorem dX4_casingsOf_16 : decode cX4_casingsOf 16 = .ok (.iconst 1, 1) := by decide +kernel
theorem dX4_casingsOf_17 : decode cX4_casingsOf 17 = .ok (.invokevirtual 66, 3) := by decide +kernel
theorem dX4_casingsOf_20 : decode cX4_casingsOf 20 = .ok (.ifCond .ne 5, 3) := by decide +kernel
theorem dX4_casingsOf_23 : decode cX4_casingsOf 23 = .ok (.iconst 0, 1) := by decide +kernel
theorem dX4_casingsOf_24 : decode cX4_casingsOf 24 = .ok (.ireturn, 1) := by decide +kernel
theorem dX4_casingsOf_25 : decode cX4_casingsOf 25 = .ok (.iconst 0, 1) := by decide +kernel
theorem dX4_casingsOf_26 : decode cX4_casingsOf 26 = .ok (.istore_n 2, 1) := by decide +kernel
theorem dX4_casingsOf_27 : decode cX4_casingsOf 27 = .ok (.iconst 0, 1) := by decide +kernel
theorem dX4_casingsOf_28 : decode cX4_casingsOf 28 = .ok (.istore_n 3, 1) := by decide +kernel
theorem dX4_casingsOf_29 : decode cX4_casingsOf 29 = .ok (.iload_n 3, 1) := by decide +kernel
theorem dX4_casingsOf_30 : decode cX4_casingsOf 30 = .ok (.iload_n 1, 1) := by decide +kernel
theorem dX4_casingsOf_31 : decode cX4_casingsOf 31 = .ok (.invokestatic 55, 3) := by decide +kernel
theorem dX4_casingsOf_34 : decode cX4_casingsOf 34 = .ok (.if_icmp .gt 57, 3) := by decide +kernel
theorem dX4_casingsOf_37 : decode cX4_casingsOf 37 = .ok (.iload_n 3, 1) := by decide +kernel
theorem dX4_casingsOf_38 : decode cX4_casingsOf 38 = .ok (.istore 4, 2) := by decide +kernel
theorem dX4_casingsOf_40 : decode cX4_casingsOf 40 = .ok (.iload 4, 2) := by decide +kernel
theorem dX4_casingsOf_42 : decode cX4_casingsOf 42 = .ok (.iload_n 1, 1) := by decide +kernel
theorem dX4_casingsOf_43 : decode cX4_casingsOf 43 = .ok (.invokestatic 55, 3) := by decide +kernel
theorem dX4_casingsOf_46 : decode cX4_casingsOf 46 = .ok (.if_icmp .gt 28, 3) := by decide +kernel
theorem dX4_casingsOf_49 : decode cX4_casingsOf 49 = .ok (.aload_n 0, 1) := by decide +kernel
theorem dX4_casingsOf_50 : decode cX4_casingsOf 50 = .ok (.iload_n 3, 1) := by decide +kernel
theorem dX4_casingsOf_51 : decode cX4_casingsOf 51 = .ok (.iload 4, 2) := by decide +kernel
theorem dX4_casingsOf_53 : decode cX4_casingsOf 53 = .ok (.iconst 0, 1) := by decide +kernel
theorem dX4_casingsOf_54 : decode cX4_casingsOf 54 = .ok (.invokevirtual 174, 3) := by decide +kernel
theorem dX4_casingsOf_57 : decode cX4_casingsOf 57 = .ok (.aload_n 0, 1) := by decide +kernel
theorem dX4_casingsOf_58 : decode cX4_casingsOf 58 = .ok (.iload_n 3, 1) := by decide +kernel
theorem dX4_casingsOf_59 : decode cX4_casingsOf 59 = .ok (.iload 4, 2) := by decide +kernel
theorem dX4_casingsOf_61 : decode cX4_casingsOf 61 = .ok (.iconst 1, 1) := by decide +kernel
theorem dX4_casingsOf_62 : decode cX4_casingsOf 62 = .ok (.invokevirtual 174, 3) := by decide +kernel
theorem dX4_casingsOf_65 : decode cX4_casingsOf 65 = .ok (.if_icmp .gt 9, 3) := by decide +kernel
theorem dX4_casingsOf_68 : decode cX4_casingsOf 68 = .ok (.iinc 4 1, 3) := by decide +kernel
theorem dX4_casingsOf_71 : decode cX4_casingsOf 71 = .ok (.goto (-31), 3) := by decide +kernel
theorem dX4_casingsOf_74 : decode cX4_casingsOf 74 = .ok (.iload 4, 2) := by decide +kernel
theorem dX4_casingsOf_76 : decode cX4_casingsOf 76 = .ok (.iload_n 3, 1) := by decide +kernel
theorem dX4_casingsOf_77 : decode cX4_casingsOf 77 = .ok (.if_icmp .ne 5, 3) := by decide +kernel
theorem dX4_casingsOf_80 : decode cX4_casingsOf 80 = .ok (.iconst (-1), 1) := by decide +kernel
theorem dX4_casingsOf_81 : decode cX4_casingsOf 81 = .ok (.ireturn, 1) := by decide +kernel
theorem dX4_casingsOf_82 : decode cX4_casingsOf 82 = .ok (.iload 4, 2) := by decide +kernel
theorem dX4_casingsOf_84 : decode cX4_casingsOf 84 = .ok (.istore_n 3, 1) := by decide +kernel
theorem dX4_casingsOf_85 : decode cX4_casingsOf 85 = .ok (.iinc 2 1, 3) := by decide +kernel
theorem dX4_casingsOf_88 : decode cX4_casingsOf 88 = .ok (.goto (-59), 3) := by decide +kernel
theorem dX4_casingsOf_91 : decode cX4_casingsOf 91 = .ok (.iload_n 2, 1) := by decide +kernel
theorem dX4_casingsOf_92 : decode cX4_casingsOf 92 = .ok (.ireturn, 1) := by decide +kernel
theorem dX4_casings_0 : decode cX4_casings 0 = .ok (.aload_n 0, 1) := by decide +kernel
theorem dX4_casings_1 : decode cX4_casings 1 = .ok (.iload_n 1, 1) := by decide +kernel
theorem dX4_casings_2 : decode cX4_casings 2 = .ok (.invokevirtual 178, 3) := by decide +kernel
theorem dX4_casings_5 : decode cX4_casings 5 = .ok (.ireturn, 1) := by decide +kernel
theorem dX4_casingsAnew_0 : decode cX4_casingsAnew 0 = .ok (.aload_n 0, 1) := by decide +kernel
theorem dX4_casingsAnew_1 : decode cX4_casingsAnew 1 = .ok (.iload_n 1, 1) := by decide +kernel
theorem dX4_casingsAnew_2 : decode cX4_casingsAnew 2 = .ok (.invokevirtual 178, 3) := by decide +kernel
theorem dX4_casingsAnew_5 : decode cX4_casingsAnew 5 = .ok (.ireturn, 1) := by decide +kernel
theorem dX4_equivalent_0 : decode cX4_equivalent 0 = .ok (.aload_n 0, 1) := by decide +kernel
theorem dX4_equivalent_1 : decode cX4_equivalent 1 = .ok (.aload_n 0, 1) := by decide +kernel
theorem dX4_equivalent_2 : decode cX4_equivalent 2 = .ok (.getfield 93, 3) := by decide +kernel
theorem dX4_equivalent_5 : decode cX4_equivalent 5 = .ok (.ifCond .le 7, 3) := by decide +kernel
theorem dX4_equivalent_8 : decode cX4_equivalent 8 = .ok (.iconst 0, 1) := by decide +kernel
theorem dX4_equivalent_9 : decode cX4_equivalent 9 = .ok (.goto 4, 3) := by decide +kernel
theorem dX4_equivalent_12 : decode cX4_equivalent 12 = .ok (.iconst 1, 1) := by decide +kernel
theorem dX4_equivalent_13 : decode cX4_equivalent 13 = .ok (.invokevirtual 66, 3) := by decide +kernel
theorem dX4_equivalent_16 : decode cX4_equivalent 16 = .ok (.ifCond .eq 20, 3) := by decide +kernel
theorem dX4_equivalent_19 : decode cX4_equivalent 19 = .ok (.bipush 10, 2) := by decide +kernel
theorem dX4_equivalent_21 : decode cX4_equivalent 21 = .ok (.aload_n 0, 1) := by decide +kernel
theorem dX4_equivalent_22 : decode cX4_equivalent 22 = .ok (.invokevirtual 144, 3) := by decide +kernel
theorem dX4_equivalent_25 : decode cX4_equivalent 25 = .ok (.imul, 1) := by decide +kernel
theorem dX4_equivalent_26 : decode cX4_equivalent 26 = .ok (.i2f, 1) := by decide +kernel
theorem dX4_equivalent_27 : decode cX4_equivalent 27 = .ok (.aload_n 0, 1) := by decide +kernel
theorem dX4_equivalent_28 : decode cX4_equivalent 28 = .ok (.getfield 93, 3) := by decide +kernel
theorem dX4_equivalent_31 : decode cX4_equivalent 31 = .ok (.i2f, 1) := by decide +kernel
theorem dX4_equivalent_32 : decode cX4_equivalent 32 = .ok (.fdiv, 1) := by decide +kernel
theorem dX4_equivalent_33 : decode cX4_equivalent 33 = .ok (.goto 4, 3) := by decide +kernel
theorem dX4_equivalent_36 : decode cX4_equivalent 36 = .ok (.fconst 0, 1) := by decide +kernel
theorem dX4_equivalent_37 : decode cX4_equivalent 37 = .ok (.freturn, 1) := by decide +kernel
theorem dX4_keep_0 : decode cX4_keep 0 = .ok (.aload_n 0, 1) := by decide +kernel
theorem dX4_keep_1 : decode cX4_keep 1 = .ok (.getfield 33, 3) := by decide +kernel
theorem dX4_keep_4 : decode cX4_keep 4 = .ok (.iconst 0, 1) := by decide +kernel
theorem dX4_keep_5 : decode cX4_keep 5 = .ok (.aload_n 0, 1) := by decide +kernel
theorem dX4_keep_6 : decode cX4_keep 6 = .ok (.getfield 63, 3) := by decide +kernel
theorem dX4_keep_9 : decode cX4_keep 9 = .ok (.i2l, 1) := by decide +kernel
theorem dX4_keep_10 : decode cX4_keep 10 = .ok (.lastore, 1) := by decide +kernel
theorem dX4_keep_11 : decode cX4_keep 11 = .ok (.aload_n 0, 1) := by decide +kernel
theorem dX4_keep_12 : decode cX4_keep 12 = .ok (.getfield 33, 3) := by decide +kernel
theorem dX4_keep_15 : decode cX4_keep 15 = .ok (.iconst 1, 1) := by decide +kernel
theorem dX4_keep_16 : decode cX4_keep 16 = .ok (.aload_n 0, 1) := by decide +kernel
theorem dX4_keep_17 : decode cX4_keep 17 = .ok (.getfield 70, 3) := by decide +kernel
theorem dX4_keep_20 : decode cX4_keep 20 = .ok (.ifCond .eq 7, 3) := by decide +kernel
theorem dX4_keep_23 : decode cX4_keep 23 = .ok (.lconst 1, 1) := by decide +kernel
theorem dX4_keep_24 : decode cX4_keep 24 = .ok (.goto 4, 3) := by decide +kernel
theorem dX4_keep_27 : decode cX4_keep 27 = .ok (.lconst 0, 1) := by decide +kernel
theorem dX4_keep_28 : decode cX4_keep 28 = .ok (.lastore, 1) := by decide +kernel
theorem dX4_keep_29 : decode cX4_keep 29 = .ok (.aload_n 0, 1) := by decide +kernel
theorem dX4_keep_30 : decode cX4_keep 30 = .ok (.getfield 33, 3) := by decide +kernel
theorem dX4_keep_33 : decode cX4_keep 33 = .ok (.iconst 2, 1) := by decide +kernel
theorem dX4_keep_34 : decode cX4_keep 34 = .ok (.aload_n 0, 1) := by decide +kernel
theorem dX4_keep_35 : decode cX4_keep 35 = .ok (.getfield 87, 3) := by decide +kernel
theorem dX4_keep_38 : decode cX4_keep 38 = .ok (.i2l, 1) := by decide +kernel
theorem dX4_keep_39 : decode cX4_keep 39 = .ok (.lastore, 1) := by decide +kernel
theorem dX4_keep_40 : decode cX4_keep 40 = .ok (.aload_n 0, 1) := by decide +kernel
theorem dX4_keep_41 : decode cX4_keep 41 = .ok (.getfield 33, 3) := by decide +kernel
theorem dX4_keep_44 : decode cX4_keep 44 = .ok (.iconst 3, 1) := by decide +kernel
theorem dX4_keep_45 : decode cX4_keep 45 = .ok (.aload_n 0, 1) := by decide +kernel
theorem dX4_keep_46 : decode cX4_keep 46 = .ok (.getfield 96, 3) := by decide +kernel
theorem dX4_keep_49 : decode cX4_keep 49 = .ok (.lastore, 1) := by decide +kernel
theorem dX4_keep_50 : decode cX4_keep 50 = .ok (.aload_n 0, 1) := by decide +kernel
theorem dX4_keep_51 : decode cX4_keep 51 = .ok (.getfield 33, 3) := by decide +kernel
theorem dX4_keep_54 : decode cX4_keep 54 = .ok (.iconst 4, 1) := by decide +kernel
theorem dX4_keep_55 : decode cX4_keep 55 = .ok (.aload_n 0, 1) := by decide +kernel
theorem dX4_keep_56 : decode cX4_keep 56 = .ok (.getfield 90, 3) := by decide +kernel
theorem dX4_keep_59 : decode cX4_keep 59 = .ok (.i2l, 1) := by decide +kernel
theorem dX4_keep_60 : decode cX4_keep 60 = .ok (.lastore, 1) := by decide +kernel
theorem dX4_keep_61 : decode cX4_keep 61 = .ok (.aload_n 0, 1) := by decide +kernel
theorem dX4_keep_62 : decode cX4_keep 62 = .ok (.getfield 33, 3) := by decide +kernel
theorem dX4_keep_65 : decode cX4_keep 65 = .ok (.iconst 5, 1) := by decide +kernel
theorem dX4_keep_66 : decode cX4_keep 66 = .ok (.aload_n 0, 1) := by decide +kernel
theorem dX4_keep_67 : decode cX4_keep 67 = .ok (.getfield 77, 3) := by decide +kernel
theorem dX4_keep_70 : decode cX4_keep 70 = .ok (.i2l, 1) := by decide +kernel
theorem dX4_keep_71 : decode cX4_keep 71 = .ok (.lastore, 1) := by decide +kernel
theorem dX4_keep_72 : decode cX4_keep 72 = .ok (.aload_n 0, 1) := by decide +kernel
theorem dX4_keep_73 : decode cX4_keep 73 = .ok (.getfield 33, 3) := by decide +kernel
theorem dX4_keep_76 : decode cX4_keep 76 = .ok (.bipush 6, 2) := by decide +kernel
theorem dX4_keep_78 : decode cX4_keep 78 = .ok (.aload_n 0, 1) := by decide +kernel
theorem dX4_keep_79 : decode cX4_keep 79 = .ok (.getfield 80, 3) := by decide +kernel
theorem dX4_keep_82 : decode cX4_keep 82 = .ok (.i2l, 1) := by decide +kernel
theorem dX4_keep_83 : decode cX4_keep 83 = .ok (.lastore, 1) := by decide +kernel
theorem dX4_keep_84 : decode cX4_keep 84 = .ok (.aload_n 0, 1) := by decide +kernel
theorem dX4_keep_85 : decode cX4_keep 85 = .ok (.getfield 33, 3) := by decide +kernel
theorem dX4_keep_88 : decode cX4_keep 88 = .ok (.bipush 7, 2) := by decide +kernel
theorem dX4_keep_90 : decode cX4_keep 90 = .ok (.aload_n 0, 1) := by decide +kernel
theorem dX4_keep_91 : decode cX4_keep 91 = .ok (.getfield 128, 3) := by decide +kernel
theorem dX4_keep_94 : decode cX4_keep 94 = .ok (.i2l, 1) := by decide +kernel
theorem dX4_keep_95 : decode cX4_keep 95 = .ok (.lastore, 1) := by decide +kernel
theorem dX4_keep_96 : decode cX4_keep 96 = .ok (.aload_n 0, 1) := by decide +kernel
theorem dX4_keep_97 : decode cX4_keep 97 = .ok (.getfield 33, 3) := by decide +kernel
theorem dX4_keep_100 : decode cX4_keep 100 = .ok (.bipush 8, 2) := by decide +kernel
theorem dX4_keep_102 : decode cX4_keep 102 = .ok (.aload_n 0, 1) := by decide +kernel
theorem dX4_keep_103 : decode cX4_keep 103 = .ok (.getfield 103, 3) := by decide +kernel
theorem dX4_keep_106 : decode cX4_keep 106 = .ok (.lastore, 1) := by decide +kernel
theorem dX4_keep_107 : decode cX4_keep 107 = .ok (.aload_n 0, 1) := by decide +kernel
theorem dX4_keep_108 : decode cX4_keep 108 = .ok (.getfield 33, 3) := by decide +kernel
theorem dX4_keep_111 : decode cX4_keep 111 = .ok (.bipush 9, 2) := by decide +kernel
theorem dX4_keep_113 : decode cX4_keep 113 = .ok (.aload_n 0, 1) := by decide +kernel
theorem dX4_keep_114 : decode cX4_keep 114 = .ok (.getfield 141, 3) := by decide +kernel
theorem dX4_keep_117 : decode cX4_keep 117 = .ok (.lastore, 1) := by decide +kernel
theorem dX4_keep_118 : decode cX4_keep 118 = .ok (.aload_n 0, 1) := by decide +kernel
theorem dX4_keep_119 : decode cX4_keep 119 = .ok (.getfield 33, 3) := by decide +kernel
theorem dX4_keep_122 : decode cX4_keep 122 = .ok (.bipush 10, 2) := by decide +kernel
theorem dX4_keep_124 : decode cX4_keep 124 = .ok (.aload_n 0, 1) := by decide +kernel
theorem dX4_keep_125 : decode cX4_keep 125 = .ok (.getfield 115, 3) := by decide +kernel
theorem dX4_keep_128 : decode cX4_keep 128 = .ok (.i2l, 1) := by decide +kernel
theorem dX4_keep_129 : decode cX4_keep 129 = .ok (.lastore, 1) := by decide +kernel
theorem dX4_keep_130 : decode cX4_keep 130 = .ok (.return_, 1) := by decide +kernel
theorem dX4_comeBack_0 : decode cX4_comeBack 0 = .ok (.aload_n 0, 1) := by decide +kernel
theorem dX4_comeBack_1 : decode cX4_comeBack 1 = .ok (.aload_n 0, 1) := by decide +kernel
theorem dX4_comeBack_2 : decode cX4_comeBack 2 = .ok (.getfield 33, 3) := by decide +kernel
theorem dX4_comeBack_5 : decode cX4_comeBack 5 = .ok (.iconst 0, 1) := by decide +kernel
theorem dX4_comeBack_6 : decode cX4_comeBack 6 = .ok (.laload, 1) := by decide +kernel
theorem dX4_comeBack_7 : decode cX4_comeBack 7 = .ok (.l2i, 1) := by decide +kernel
theorem dX4_comeBack_8 : decode cX4_comeBack 8 = .ok (.putfield 63, 3) := by decide +kernel
theorem dX4_comeBack_11 : decode cX4_comeBack 11 = .ok (.aload_n 0, 1) := by decide +kernel
theorem dX4_comeBack_12 : decode cX4_comeBack 12 = .ok (.aload_n 0, 1) := by decide +kernel
theorem dX4_comeBack_13 : decode cX4_comeBack 13 = .ok (.getfield 33, 3) := by decide +kernel
theorem dX4_comeBack_16 : decode cX4_comeBack 16 = .ok (.iconst 1, 1) := by decide +kernel
theorem dX4_comeBack_17 : decode cX4_comeBack 17 = .ok (.laload, 1) := by decide +kernel
theorem dX4_comeBack_18 : decode cX4_comeBack 18 = .ok (.lconst 1, 1) := by decide +kernel
theorem dX4_comeBack_19 : decode cX4_comeBack 19 = .ok (.lcmp, 1) := by decide +kernel
theorem dX4_comeBack_20 : decode cX4_comeBack 20 = .ok (.ifCond .ne 7, 3) := by decide +kernel
theorem dX4_comeBack_23 : decode cX4_comeBack 23 = .ok (.iconst 1, 1) := by decide +kernel
theorem dX4_comeBack_24 : decode cX4_comeBack 24 = .ok (.goto 4, 3) := by decide +kernel
theorem dX4_comeBack_27 : decode cX4_comeBack 27 = .ok (.iconst 0, 1) := by decide +kernel
theorem dX4_comeBack_28 : decode cX4_comeBack 28 = .ok (.putfield 70, 3) := by decide +kernel
theorem dX4_comeBack_31 : decode cX4_comeBack 31 = .ok (.aload_n 0, 1) := by decide +kernel
theorem dX4_comeBack_32 : decode cX4_comeBack 32 = .ok (.aload_n 0, 1) := by decide +kernel
theorem dX4_comeBack_33 : decode cX4_comeBack 33 = .ok (.getfield 33, 3) := by decide +kernel
theorem dX4_comeBack_36 : decode cX4_comeBack 36 = .ok (.iconst 2, 1) := by decide +kernel
theorem dX4_comeBack_37 : decode cX4_comeBack 37 = .ok (.laload, 1) := by decide +kernel
theorem dX4_comeBack_38 : decode cX4_comeBack 38 = .ok (.l2i, 1) := by decide +kernel
theorem dX4_comeBack_39 : decode cX4_comeBack 39 = .ok (.putfield 87, 3) := by decide +kernel
theorem dX4_comeBack_42 : decode cX4_comeBack 42 = .ok (.aload_n 0, 1) := by decide +kernel
theorem dX4_comeBack_43 : decode cX4_comeBack 43 = .ok (.aload_n 0, 1) := by decide +kernel
theorem dX4_comeBack_44 : decode cX4_comeBack 44 = .ok (.getfield 33, 3) := by decide +kernel
theorem dX4_comeBack_47 : decode cX4_comeBack 47 = .ok (.iconst 3, 1) := by decide +kernel
theorem dX4_comeBack_48 : decode cX4_comeBack 48 = .ok (.laload, 1) := by decide +kernel
theorem dX4_comeBack_49 : decode cX4_comeBack 49 = .ok (.putfield 96, 3) := by decide +kernel
theorem dX4_comeBack_52 : decode cX4_comeBack 52 = .ok (.aload_n 0, 1) := by decide +kernel
theorem dX4_comeBack_53 : decode cX4_comeBack 53 = .ok (.aload_n 0, 1) := by decide +kernel
theorem dX4_comeBack_54 : decode cX4_comeBack 54 = .ok (.getfield 33, 3) := by decide +kernel
theorem dX4_comeBack_57 : decode cX4_comeBack 57 = .ok (.iconst 4, 1) := by decide +kernel
theorem dX4_comeBack_58 : decode cX4_comeBack 58 = .ok (.laload, 1) := by decide +kernel
theorem dX4_comeBack_59 : decode cX4_comeBack 59 = .ok (.l2i, 1) := by decide +kernel
theorem dX4_comeBack_60 : decode cX4_comeBack 60 = .ok (.putfield 90, 3) := by decide +kernel
theorem dX4_comeBack_63 : decode cX4_comeBack 63 = .ok (.aload_n 0, 1) := by decide +kernel
theorem dX4_comeBack_64 : decode cX4_comeBack 64 = .ok (.aload_n 0, 1) := by decide +kernel
theorem dX4_comeBack_65 : decode cX4_comeBack 65 = .ok (.getfield 33, 3) := by decide +kernel
theorem dX4_comeBack_68 : decode cX4_comeBack 68 = .ok (.iconst 5, 1) := by decide +kernel
theorem dX4_comeBack_69 : decode cX4_comeBack 69 = .ok (.laload, 1) := by decide +kernel
theorem dX4_comeBack_70 : decode cX4_comeBack 70 = .ok (.l2i, 1) := by decide +kernel
theorem dX4_comeBack_71 : decode cX4_comeBack 71 = .ok (.putfield 77, 3) := by decide +kernel
theorem dX4_comeBack_74 : decode cX4_comeBack 74 = .ok (.aload_n 0, 1) := by decide +kernel
theorem dX4_comeBack_75 : decode cX4_comeBack 75 = .ok (.aload_n 0, 1) := by decide +kernel
theorem dX4_comeBack_76 : decode cX4_comeBack 76 = .ok (.getfield 33, 3) := by decide +kernel
theorem dX4_comeBack_79 : decode cX4_comeBack 79 = .ok (.bipush 6, 2) := by decide +kernel
theorem dX4_comeBack_81 : decode cX4_comeBack 81 = .ok (.laload, 1) := by decide +kernel
theorem dX4_comeBack_82 : decode cX4_comeBack 82 = .ok (.l2i, 1) := by decide +kernel
theorem dX4_comeBack_83 : decode cX4_comeBack 83 = .ok (.putfield 80, 3) := by decide +kernel
theorem dX4_comeBack_86 : decode cX4_comeBack 86 = .ok (.aload_n 0, 1) := by decide +kernel
theorem dX4_comeBack_87 : decode cX4_comeBack 87 = .ok (.aload_n 0, 1) := by decide +kernel
theorem dX4_comeBack_88 : decode cX4_comeBack 88 = .ok (.getfield 33, 3) := by decide +kernel
theorem dX4_comeBack_91 : decode cX4_comeBack 91 = .ok (.bipush 7, 2) := by decide +kernel
theorem dX4_comeBack_93 : decode cX4_comeBack 93 = .ok (.laload, 1) := by decide +kernel
theorem dX4_comeBack_94 : decode cX4_comeBack 94 = .ok (.l2i, 1) := by decide +kernel
theorem dX4_comeBack_95 : decode cX4_comeBack 95 = .ok (.putfield 128, 3) := by decide +kernel
theorem dX4_comeBack_98 : decode cX4_comeBack 98 = .ok (.aload_n 0, 1) := by decide +kernel
theorem dX4_comeBack_99 : decode cX4_comeBack 99 = .ok (.aload_n 0, 1) := by decide +kernel
theorem dX4_comeBack_100 : decode cX4_comeBack 100 = .ok (.getfield 33, 3) := by decide +kernel
theorem dX4_comeBack_103 : decode cX4_comeBack 103 = .ok (.bipush 8, 2) := by decide +kernel
theorem dX4_comeBack_105 : decode cX4_comeBack 105 = .ok (.laload, 1) := by decide +kernel
theorem dX4_comeBack_106 : decode cX4_comeBack 106 = .ok (.putfield 103, 3) := by decide +kernel
theorem dX4_comeBack_109 : decode cX4_comeBack 109 = .ok (.aload_n 0, 1) := by decide +kernel
theorem dX4_comeBack_110 : decode cX4_comeBack 110 = .ok (.aload_n 0, 1) := by decide +kernel
theorem dX4_comeBack_111 : decode cX4_comeBack 111 = .ok (.getfield 33, 3) := by decide +kernel
theorem dX4_comeBack_114 : decode cX4_comeBack 114 = .ok (.bipush 9, 2) := by decide +kernel
theorem dX4_comeBack_116 : decode cX4_comeBack 116 = .ok (.laload, 1) := by decide +kernel
theorem dX4_comeBack_117 : decode cX4_comeBack 117 = .ok (.putfield 141, 3) := by decide +kernel
theorem dX4_comeBack_120 : decode cX4_comeBack 120 = .ok (.aload_n 0, 1) := by decide +kernel
theorem dX4_comeBack_121 : decode cX4_comeBack 121 = .ok (.aload_n 0, 1) := by decide +kernel
theorem dX4_comeBack_122 : decode cX4_comeBack 122 = .ok (.getfield 33, 3) := by decide +kernel
theorem dX4_comeBack_125 : decode cX4_comeBack 125 = .ok (.bipush 10, 2) := by decide +kernel
theorem dX4_comeBack_127 : decode cX4_comeBack 127 = .ok (.laload, 1) := by decide +kernel
theorem dX4_comeBack_128 : decode cX4_comeBack 128 = .ok (.l2i, 1) := by decide +kernel
theorem dX4_comeBack_129 : decode cX4_comeBack 129 = .ok (.putfield 115, 3) := by decide +kernel
theorem dX4_comeBack_132 : decode cX4_comeBack 132 = .ok (.return_, 1) := by decide +kernel
theorem dX4_ahead_0 : decode cX4_ahead 0 = .ok (.aload_n 0, 1) := by decide +kernel
theorem dX4_ahead_1 : decode cX4_ahead 1 = .ok (.iload_n 1, 1) := by decide +kernel
theorem dX4_ahead_2 : decode cX4_ahead 2 = .ok (.iconst 1, 1) := by decide +kernel
theorem dX4_ahead_3 : decode cX4_ahead 3 = .ok (.sipush 2000, 3) := by decide +kernel
theorem dX4_ahead_6 : decode cX4_ahead 6 = .ok (.invokestatic 59, 3) := by decide +kernel
theorem dX4_ahead_9 : decode cX4_ahead 9 = .ok (.ifCond .eq 7, 3) := by decide +kernel
theorem dX4_ahead_12 : decode cX4_ahead 12 = .ok (.iconst 0, 1) := by decide +kernel
theorem dX4_ahead_13 : decode cX4_ahead 13 = .ok (.goto 4, 3) := by decide +kernel
theorem dX4_ahead_16 : decode cX4_ahead 16 = .ok (.iconst 1, 1) := by decide +kernel
theorem dX4_ahead_17 : decode cX4_ahead 17 = .ok (.invokevirtual 66, 3) := by decide +kernel
theorem dX4_ahead_20 : decode cX4_ahead 20 = .ok (.ifCond .ne 5, 3) := by decide +kernel
theorem dX4_ahead_23 : decode cX4_ahead 23 = .ok (.iconst 0, 1) := by decide +kernel
theorem dX4_ahead_24 : decode cX4_ahead 24 = .ok (.ireturn, 1) := by decide +kernel
theorem dX4_ahead_25 : decode cX4_ahead 25 = .ok (.aload_n 0, 1) := by decide +kernel
theorem dX4_ahead_26 : decode cX4_ahead 26 = .ok (.invokevirtual 181, 3) := by decide +kernel
theorem dX4_ahead_29 : decode cX4_ahead 29 = .ok (.iconst 0, 1) := by decide +kernel
theorem dX4_ahead_30 : decode cX4_ahead 30 = .ok (.istore_n 2, 1) := by decide +kernel
theorem dX4_ahead_31 : decode cX4_ahead 31 = .ok (.iload_n 2, 1) := by decide +kernel
theorem dX4_ahead_32 : decode cX4_ahead 32 = .ok (.iload_n 1, 1) := by decide +kernel
theorem dX4_ahead_33 : decode cX4_ahead 33 = .ok (.if_icmp .ge 14, 3) := by decide +kernel
theorem dX4_ahead_36 : decode cX4_ahead 36 = .ok (.aload_n 0, 1) := by decide +kernel
theorem dX4_ahead_37 : decode cX4_ahead 37 = .ok (.iconst 0, 1) := by decide +kernel
theorem dX4_ahead_38 : decode cX4_ahead 38 = .ok (.invokevirtual 156, 3) := by decide +kernel
theorem dX4_ahead_41 : decode cX4_ahead 41 = .ok (.iinc 2 1, 3) := by decide +kernel
theorem dX4_ahead_44 : decode cX4_ahead 44 = .ok (.goto (-13), 3) := by decide +kernel
theorem dX4_ahead_47 : decode cX4_ahead 47 = .ok (.aload_n 0, 1) := by decide +kernel
theorem dX4_ahead_48 : decode cX4_ahead 48 = .ok (.getfield 77, 3) := by decide +kernel
theorem dX4_ahead_51 : decode cX4_ahead 51 = .ok (.aload_n 0, 1) := by decide +kernel
theorem dX4_ahead_52 : decode cX4_ahead 52 = .ok (.getfield 80, 3) := by decide +kernel
theorem dX4_ahead_55 : decode cX4_ahead 55 = .ok (.iadd, 1) := by decide +kernel
theorem dX4_ahead_56 : decode cX4_ahead 56 = .ok (.istore_n 2, 1) := by decide +kernel
theorem dX4_ahead_57 : decode cX4_ahead 57 = .ok (.aload_n 0, 1) := by decide +kernel
theorem dX4_ahead_58 : decode cX4_ahead 58 = .ok (.invokevirtual 184, 3) := by decide +kernel
theorem dX4_ahead_61 : decode cX4_ahead 61 = .ok (.iload_n 2, 1) := by decide +kernel
theorem dX4_ahead_62 : decode cX4_ahead 62 = .ok (.ireturn, 1) := by decide +kernel
theorem dJ6_bitCount_0f7a4_0 : decode cJ6_bitCount_0f7a4 0 = .ok (.iload_n 0, 1) := by decide +kernel
theorem dJ6_bitCount_0f7a4_1 : decode cJ6_bitCount_0f7a4 1 = .ok (.iload_n 0, 1) := by decide +kernel
theorem dJ6_bitCount_0f7a4_2 : decode cJ6_bitCount_0f7a4 2 = .ok (.iconst 1, 1) := by decide +kernel
theorem dJ6_bitCount_0f7a4_3 : decode cJ6_bitCount_0f7a4 3 = .ok (.iushr, 1) := by decide +kernel
theorem dJ6_bitCount_0f7a4_4 : decode cJ6_bitCount_0f7a4 4 = .ok (.ldc_w 265, 3) := by decide +kernel
theorem dJ6_bitCount_0f7a4_7 : decode cJ6_bitCount_0f7a4 7 = .ok (.iand, 1) := by decide +kernel
theorem dJ6_bitCount_0f7a4_8 : decode cJ6_bitCount_0f7a4 8 = .ok (.isub, 1) := by decide +kernel
theorem dJ6_bitCount_0f7a4_9 : decode cJ6_bitCount_0f7a4 9 = .ok (.istore_n 0, 1) := by decide +kernel
theorem dJ6_bitCount_0f7a4_10 : decode cJ6_bitCount_0f7a4 10 = .ok (.iload_n 0, 1) := by decide +kernel
theorem dJ6_bitCount_0f7a4_11 : decode cJ6_bitCount_0f7a4 11 = .ok (.ldc_w 266, 3) := by decide +kernel
theorem dJ6_bitCount_0f7a4_14 : decode cJ6_bitCount_0f7a4 14 = .ok (.iand, 1) := by decide +kernel
theorem dJ6_bitCount_0f7a4_15 : decode cJ6_bitCount_0f7a4 15 = .ok (.iload_n 0, 1) := by decide +kernel
theorem dJ6_bitCount_0f7a4_16 : decode cJ6_bitCount_0f7a4 16 = .ok (.iconst 2, 1) := by decide +kernel
theorem dJ6_bitCount_0f7a4_17 : decode cJ6_bitCount_0f7a4 17 = .ok (.iushr, 1) := by decide +kernel
theorem dJ6_bitCount_0f7a4_18 : decode cJ6_bitCount_0f7a4 18 = .ok (.ldc_w 266, 3) := by decide +kernel
theorem dJ6_bitCount_0f7a4_21 : decode cJ6_bitCount_0f7a4 21 = .ok (.iand, 1) := by decide +kernel
theorem dJ6_bitCount_0f7a4_22 : decode cJ6_bitCount_0f7a4 22 = .ok (.iadd, 1) := by decide +kernel
theorem dJ6_bitCount_0f7a4_23 : decode cJ6_bitCount_0f7a4 23 = .ok (.istore_n 0, 1) := by decide +kernel
theorem dJ6_bitCount_0f7a4_24 : decode cJ6_bitCount_0f7a4 24 = .ok (.iload_n 0, 1) := by decide +kernel
theorem dJ6_bitCount_0f7a4_25 : decode cJ6_bitCount_0f7a4 25 = .ok (.iload_n 0, 1) := by decide +kernel
theorem dJ6_bitCount_0f7a4_26 : decode cJ6_bitCount_0f7a4 26 = .ok (.iconst 4, 1) := by decide +kernel
theorem dJ6_bitCount_0f7a4_27 : decode cJ6_bitCount_0f7a4 27 = .ok (.iushr, 1) := by decide +kernel
theorem dJ6_bitCount_0f7a4_28 : decode cJ6_bitCount_0f7a4 28 = .ok (.iadd, 1) := by decide +kernel
theorem dJ6_bitCount_0f7a4_29 : decode cJ6_bitCount_0f7a4 29 = .ok (.ldc_w 267, 3) := by decide +kernel
theorem dJ6_bitCount_0f7a4_32 : decode cJ6_bitCount_0f7a4 32 = .ok (.iand, 1) := by decide +kernel
theorem dJ6_bitCount_0f7a4_33 : decode cJ6_bitCount_0f7a4 33 = .ok (.istore_n 0, 1) := by decide +kernel
theorem dJ6_bitCount_0f7a4_34 : decode cJ6_bitCount_0f7a4 34 = .ok (.iload_n 0, 1) := by decide +kernel
theorem dJ6_bitCount_0f7a4_35 : decode cJ6_bitCount_0f7a4 35 = .ok (.iload_n 0, 1) := by decide +kernel
theorem dJ6_bitCount_0f7a4_36 : decode cJ6_bitCount_0f7a4 36 = .ok (.bipush 8, 2) := by decide +kernel
theorem dJ6_bitCount_0f7a4_38 : decode cJ6_bitCount_0f7a4 38 = .ok (.iushr, 1) := by decide +kernel
theorem dJ6_bitCount_0f7a4_39 : decode cJ6_bitCount_0f7a4 39 = .ok (.iadd, 1) := by decide +kernel
theorem dJ6_bitCount_0f7a4_40 : decode cJ6_bitCount_0f7a4 40 = .ok (.istore_n 0, 1) := by decide +kernel
theorem dJ6_bitCount_0f7a4_41 : decode cJ6_bitCount_0f7a4 41 = .ok (.iload_n 0, 1) := by decide +kernel
theorem dJ6_bitCount_0f7a4_42 : decode cJ6_bitCount_0f7a4 42 = .ok (.iload_n 0, 1) := by decide +kernel
theorem dJ6_bitCount_0f7a4_43 : decode cJ6_bitCount_0f7a4 43 = .ok (.bipush 16, 2) := by decide +kernel
theorem dJ6_bitCount_0f7a4_45 : decode cJ6_bitCount_0f7a4 45 = .ok (.iushr, 1) := by decide +kernel
theorem dJ6_bitCount_0f7a4_46 : decode cJ6_bitCount_0f7a4 46 = .ok (.iadd, 1) := by decide +kernel
theorem dJ6_bitCount_0f7a4_47 : decode cJ6_bitCount_0f7a4 47 = .ok (.istore_n 0, 1) := by decide +kernel
theorem dJ6_bitCount_0f7a4_48 : decode cJ6_bitCount_0f7a4 48 = .ok (.iload_n 0, 1) := by decide +kernel
theorem dJ6_bitCount_0f7a4_49 : decode cJ6_bitCount_0f7a4 49 = .ok (.bipush 63, 2) := by decide +kernel
theorem dJ6_bitCount_0f7a4_51 : decode cJ6_bitCount_0f7a4 51 = .ok (.iand, 1) := by decide +kernel
theorem dJ6_bitCount_0f7a4_52 : decode cJ6_bitCount_0f7a4 52 = .ok (.ireturn, 1) := by decide +kernel
theorem dJ9_max_7cf53_0 : decode cJ9_max_7cf53 0 = .ok (.iload_n 0, 1) := by decide +kernel
theorem dJ9_max_7cf53_1 : decode cJ9_max_7cf53 1 = .ok (.iload_n 1, 1) := by decide +kernel
theorem dJ9_max_7cf53_2 : decode cJ9_max_7cf53 2 = .ok (.if_icmp .lt 7, 3) := by decide +kernel
theorem dJ9_max_7cf53_5 : decode cJ9_max_7cf53 5 = .ok (.iload_n 0, 1) := by decide +kernel
theorem dJ9_max_7cf53_6 : decode cJ9_max_7cf53 6 = .ok (.goto 4, 3) := by decide +kernel
theorem dJ9_max_7cf53_9 : decode cJ9_max_7cf53 9 = .ok (.iload_n 1, 1) := by decide +kernel
theorem dJ9_max_7cf53_10 : decode cJ9_max_7cf53 10 = .ok (.ireturn, 1) := by decide +kernel
theorem dJ9_min_7cf53_0 : decode cJ9_min_7cf53 0 = .ok (.iload_n 0, 1) := by decide +kernel
theorem dJ9_min_7cf53_1 : decode cJ9_min_7cf53 1 = .ok (.iload_n 1, 1) := by decide +kernel
theorem dJ9_min_7cf53_2 : decode cJ9_min_7cf53 2 = .ok (.if_icmp .gt 7, 3) := by decide +kernel
theorem dJ9_min_7cf53_5 : decode cJ9_min_7cf53 5 = .ok (.iload_n 0, 1) := by decide +kernel
theorem dJ9_min_7cf53_6 : decode cJ9_min_7cf53 6 = .ok (.goto 4, 3) := by decide +kernel
theorem dJ9_min_7cf53_9 : decode cJ9_min_7cf53 9 = .ok (.iload_n 1, 1) := by decide +kernel
theorem dJ9_min_7cf53_10 : decode cJ9_min_7cf53 10 = .ok (.ireturn, 1) := by decide +kernel
theorem dJ9_min_f86c9_0 : decode cJ9_min_f86c9 0 = .ok (.lload_n 0, 1) := by decide +kernel
theorem dJ9_min_f86c9_1 : decode cJ9_min_f86c9 1 = .ok (.lload_n 2, 1) := by decide +kernel
theorem dJ9_min_f86c9_2 : decode cJ9_min_f86c9 2 = .ok (.lcmp, 1) := by decide +kernel
theorem dJ9_min_f86c9_3 : decode cJ9_min_f86c9 3 = .ok (.ifCond .gt 7, 3) := by decide +kernel
theorem dJ9_min_f86c9_6 : decode cJ9_min_f86c9 6 = .ok (.lload_n 0, 1) := by decide +kernel
theorem dJ9_min_f86c9_7 : decode cJ9_min_f86c9 7 = .ok (.goto 4, 3) := by decide +kernel
theorem dJ9_min_f86c9_10 : decode cJ9_min_f86c9 10 = .ok (.lload_n 2, 1) := by decide +kernel
theorem dJ9_min_f86c9_11 : decode cJ9_min_f86c9 11 = .ok (.lreturn, 1) := by decide +kernel
theorem dJ7_fill_53178_0 : decode cJ7_fill_53178 0 = .ok (.iconst 0, 1) := by decide +kernel
theorem dJ7_fill_53178_1 : decode cJ7_fill_53178 1 = .ok (.istore_n 2, 1) := by decide +kernel
theorem dJ7_fill_53178_2 : decode cJ7_fill_53178 2 = .ok (.aload_n 0, 1) := by decide +kernel
theorem dJ7_fill_53178_3 : decode cJ7_fill_53178 3 = .ok (.arraylength, 1) := by decide +kernel
theorem dJ7_fill_53178_4 : decode cJ7_fill_53178 4 = .ok (.istore_n 3, 1) := by decide +kernel
theorem dJ7_fill_53178_5 : decode cJ7_fill_53178 5 = .ok (.iload_n 2, 1) := by decide +kernel
theorem dJ7_fill_53178_6 : decode cJ7_fill_53178 6 = .ok (.iload_n 3, 1) := by decide +kernel
theorem dJ7_fill_53178_7 : decode cJ7_fill_53178 7 = .ok (.if_icmp .ge 13, 3) := by decide +kernel
theorem dJ7_fill_53178_10 : decode cJ7_fill_53178 10 = .ok (.aload_n 0, 1) := by decide +kernel
theorem dJ7_fill_53178_11 : decode cJ7_fill_53178 11 = .ok (.iload_n 2, 1) := by decide +kernel
theorem dJ7_fill_53178_12 : decode cJ7_fill_53178 12 = .ok (.iload_n 1, 1) := by decide +kernel
theorem dJ7_fill_53178_13 : decode cJ7_fill_53178 13 = .ok (.iastore, 1) := by decide +kernel
theorem dJ7_fill_53178_14 : decode cJ7_fill_53178 14 = .ok (.iinc 2 1, 3) := by decide +kernel
theorem dJ7_fill_53178_17 : decode cJ7_fill_53178 17 = .ok (.goto (-12), 3) := by decide +kernel
theorem dJ7_fill_53178_20 : decode cJ7_fill_53178 20 = .ok (.return_, 1) := by decide +kernel
theorem dL_layer_0 : decode cL_layer 0 = .ok (.aload_n 0, 1) := by decide +kernel
theorem dL_layer_1 : decode cL_layer 1 = .ok (.iload_n 1, 1) := by decide +kernel
theorem dL_layer_2 : decode cL_layer 2 = .ok (.iload_n 2, 1) := by decide +kernel
theorem dL_layer_3 : decode cL_layer 3 = .ok (.iload_n 3, 1) := by decide +kernel
theorem dL_layer_4 : decode cL_layer 4 = .ok (.iload 4, 2) := by decide +kernel
theorem dL_layer_6 : decode cL_layer 6 = .ok (.iload 5, 2) := by decide +kernel
theorem dL_layer_8 : decode cL_layer 8 = .ok (.invokevirtual 7, 3) := by decide +kernel
theorem dL_layer_11 : decode cL_layer 11 = .ok (.goto 15, 3) := by decide +kernel
theorem dL_layer_14 : decode cL_layer 14 = .ok (.astore 6, 2) := by decide +kernel
theorem dL_layer_16 : decode cL_layer 16 = .ok (.iconst 1, 1) := by decide +kernel
theorem dL_layer_17 : decode cL_layer 17 = .ok (.ireturn, 1) := by decide +kernel
theorem dL_layer_18 : decode cL_layer 18 = .ok (.astore 6, 2) := by decide +kernel
theorem dL_layer_20 : decode cL_layer 20 = .ok (.iconst 2, 1) := by decide +kernel
theorem dL_layer_21 : decode cL_layer 21 = .ok (.ireturn, 1) := by decide +kernel
theorem dL_layer_22 : decode cL_layer 22 = .ok (.astore 6, 2) := by decide +kernel
theorem dL_layer_24 : decode cL_layer 24 = .ok (.iconst 3, 1) := by decide +kernel
theorem dL_layer_25 : decode cL_layer 25 = .ok (.ireturn, 1) := by decide +kernel
theorem dL_layer_26 : decode cL_layer 26 = .ok (.iconst 0, 1) := by decide +kernel
theorem dL_layer_27 : decode cL_layer 27 = .ok (.ireturn, 1) := by decide +kernel
theorem dL_mud_0 : decode cL_mud 0 = .ok (.aload_n 2, 1) := by decide +kernel
theorem dL_mud_1 : decode cL_mud 1 = .ok (.iconst 0, 1) := by decide +kernel
theorem dL_mud_2 : decode cL_mud 2 = .ok (.aload_n 0, 1) := by decide +kernel
theorem dL_mud_3 : decode cL_mud 3 = .ok (.iload_n 1, 1) := by decide +kernel
theorem dL_mud_4 : decode cL_mud 4 = .ok (.invokevirtual 19, 3) := by decide +kernel
theorem dL_mud_7 : decode cL_mud 7 = .ok (.i2l, 1) := by decide +kernel
theorem dL_mud_8 : decode cL_mud 8 = .ok (.lastore, 1) := by decide +kernel
theorem dL_mud_9 : decode cL_mud 9 = .ok (.goto 9, 3) := by decide +kernel
theorem dL_mud_12 : decode cL_mud 12 = .ok (.astore_n 3, 1) := by decide +kernel
theorem dL_mud_13 : decode cL_mud 13 = .ok (.iconst 1, 1) := by decide +kernel
theorem dL_mud_14 : decode cL_mud 14 = .ok (.ireturn, 1) := by decide +kernel
theorem dL_mud_15 : decode cL_mud 15 = .ok (.astore_n 3, 1) := by decide +kernel
theorem dL_mud_16 : decode cL_mud 16 = .ok (.iconst 2, 1) := by decide +kernel
theorem dL_mud_17 : decode cL_mud 17 = .ok (.ireturn, 1) := by decide +kernel
theorem dL_mud_18 : decode cL_mud 18 = .ok (.iconst 0, 1) := by decide +kernel
theorem dL_mud_19 : decode cL_mud 19 = .ok (.ireturn, 1) := by decide +kernel
theorem dL_drill_0 : decode cL_drill 0 = .ok (.aload_n 2, 1) := by decide +kernel
theorem dL_drill_1 : decode cL_drill 1 = .ok (.iconst 0, 1) := by decide +kernel
theorem dL_drill_2 : decode cL_drill 2 = .ok (.aload_n 0, 1) := by decide +kernel
theorem dL_drill_3 : decode cL_drill 3 = .ok (.iload_n 1, 1) := by decide +kernel
theorem dL_drill_4 : decode cL_drill 4 = .ok (.invokevirtual 23, 3) := by decide +kernel
theorem dL_drill_7 : decode cL_drill 7 = .ok (.i2l, 1) := by decide +kernel
theorem dL_drill_8 : decode cL_drill 8 = .ok (.lastore, 1) := by decide +kernel
theorem dL_drill_9 : decode cL_drill 9 = .ok (.goto 9, 3) := by decide +kernel
theorem dL_drill_12 : decode cL_drill 12 = .ok (.astore_n 3, 1) := by decide +kernel
theorem dL_drill_13 : decode cL_drill 13 = .ok (.iconst 1, 1) := by decide +kernel
theorem dL_drill_14 : decode cL_drill 14 = .ok (.ireturn, 1) := by decide +kernel
theorem dL_drill_15 : decode cL_drill 15 = .ok (.astore_n 3, 1) := by decide +kernel
theorem dL_drill_16 : decode cL_drill 16 = .ok (.iconst 2, 1) := by decide +kernel
theorem dL_drill_17 : decode cL_drill 17 = .ok (.ireturn, 1) := by decide +kernel
theorem dL_drill_18 : decode cL_drill 18 = .ok (.iconst 0, 1) := by decide +kernel
theorem dL_drill_19 : decode cL_drill 19 = .ok (.ireturn, 1) := by decide +kernel
theorem dL_pass_0 : decode cL_pass 0 = .ok (.aload_n 2, 1) := by decide +kernel
theorem dL_pass_1 : decode cL_pass 1 = .ok (.iconst 0, 1) := by decide +kernel
theorem dL_pass_2 : decode cL_pass 2 = .ok (.aload_n 0, 1) := by decide +kernel
theorem dL_pass_3 : decode cL_pass 3 = .ok (.iload_n 1, 1) := by decide +kernel
theorem dL_pass_4 : decode cL_pass 4 = .ok (.invokevirtual 26, 3) := by decide +kernel
theorem dL_pass_7 : decode cL_pass 7 = .ok (.i2l, 1) := by decide +kernel
theorem dL_pass_8 : decode cL_pass 8 = .ok (.lastore, 1) := by decide +kernel
theorem dL_pass_9 : decode cL_pass 9 = .ok (.goto 9, 3) := by decide +kernel
theorem dL_pass_12 : decode cL_pass 12 = .ok (.astore_n 3, 1) := by decide +kernel
theorem dL_pass_13 : decode cL_pass 13 = .ok (.iconst 1, 1) := by decide +kernel
theorem dL_pass_14 : decode cL_pass 14 = .ok (.ireturn, 1) := by decide +kernel
theorem dL_pass_15 : decode cL_pass 15 = .ok (.astore_n 3, 1) := by decide +kernel
theorem dL_pass_16 : decode cL_pass 16 = .ok (.iconst 2, 1) := by decide +kernel
theorem dL_pass_17 : decode cL_pass 17 = .ok (.ireturn, 1) := by decide +kernel
theorem dL_pass_18 : decode cL_pass 18 = .ok (.iconst 0, 1) := by decide +kernel
theorem dL_pass_19 : decode cL_pass 19 = .ok (.ireturn, 1) := by decide +kernel
theorem dL_close_0 : decode cL_close 0 = .ok (.aload_n 0, 1) := by decide +kernel
theorem dL_close_1 : decode cL_close 1 = .ok (.invokevirtual 29, 3) := by decide +kernel
theorem dL_close_4 : decode cL_close 4 = .ok (.goto 6, 3) := by decide +kernel
theorem dL_close_7 : decode cL_close 7 = .ok (.astore_n 1, 1) := by decide +kernel
theorem dL_close_8 : decode cL_close 8 = .ok (.iconst 1, 1) := by decide +kernel
theorem dL_close_9 : decode cL_close 9 = .ok (.ireturn, 1) := by decide +kernel
theorem dL_close_10 : decode cL_close 10 = .ok (.iconst 0, 1) := by decide +kernel
theorem dL_close_11 : decode cL_close 11 = .ok (.ireturn, 1) := by decide +kernel
theorem dL_open_0 : decode cL_open 0 = .ok (.aload_n 1, 1) := by decide +kernel
theorem dL_open_1 : decode cL_open 1 = .ok (.iconst 0, 1) := by decide +kernel
theorem dL_open_2 : decode cL_open 2 = .ok (.aload_n 0, 1) := by decide +kernel
theorem dL_open_3 : decode cL_open 3 = .ok (.invokevirtual 32, 3) := by decide +kernel
theorem dL_open_6 : decode cL_open 6 = .ok (.i2l, 1) := by decide +kernel
theorem dL_open_7 : decode cL_open 7 = .ok (.lastore, 1) := by decide +kernel
theorem dL_open_8 : decode cL_open 8 = .ok (.goto 6, 3) := by decide +kernel
theorem dL_open_11 : decode cL_open 11 = .ok (.astore_n 2, 1) := by decide +kernel
theorem dL_open_12 : decode cL_open 12 = .ok (.iconst 1, 1) := by decide +kernel
theorem dL_open_13 : decode cL_open 13 = .ok (.ireturn, 1) := by decide +kernel
theorem dL_open_14 : decode cL_open 14 = .ok (.iconst 0, 1) := by decide +kernel
theorem dL_open_15 : decode cL_open 15 = .ok (.ireturn, 1) := by decide +kernel
theorem dL_pump_0 : decode cL_pump 0 = .ok (.aload_n 3, 1) := by decide +kernel
theorem dL_pump_1 : decode cL_pump 1 = .ok (.iconst 0, 1) := by decide +kernel
theorem dL_pump_2 : decode cL_pump 2 = .ok (.aload_n 0, 1) := by decide +kernel
theorem dL_pump_3 : decode cL_pump 3 = .ok (.iload_n 1, 1) := by decide +kernel
theorem dL_pump_4 : decode cL_pump 4 = .ok (.iload_n 2, 1) := by decide +kernel
theorem dL_pump_5 : decode cL_pump 5 = .ok (.invokevirtual 36, 3) := by decide +kernel
theorem dL_pump_8 : decode cL_pump 8 = .ok (.i2l, 1) := by decide +kernel
theorem dL_pump_9 : decode cL_pump 9 = .ok (.lastore, 1) := by decide +kernel
theorem dL_pump_10 : decode cL_pump 10 = .ok (.goto 11, 3) := by decide +kernel
theorem dL_pump_13 : decode cL_pump 13 = .ok (.astore 4, 2) := by decide +kernel
theorem dL_pump_15 : decode cL_pump 15 = .ok (.iconst 1, 1) := by decide +kernel
theorem dL_pump_16 : decode cL_pump 16 = .ok (.ireturn, 1) := by decide +kernel
theorem dL_pump_17 : decode cL_pump 17 = .ok (.astore 4, 2) := by decide +kernel
theorem dL_pump_19 : decode cL_pump 19 = .ok (.iconst 2, 1) := by decide +kernel
theorem dL_pump_20 : decode cL_pump 20 = .ok (.ireturn, 1) := by decide +kernel
theorem dL_pump_21 : decode cL_pump 21 = .ok (.iconst 0, 1) := by decide +kernel
theorem dL_pump_22 : decode cL_pump 22 = .ok (.ireturn, 1) := by decide +kernel
theorem dL_casing_0 : decode cL_casing 0 = .ok (.aload_n 2, 1) := by decide +kernel
theorem dL_casing_1 : decode cL_casing 1 = .ok (.iconst 0, 1) := by decide +kernel
theorem dL_casing_2 : decode cL_casing 2 = .ok (.aload_n 0, 1) := by decide +kernel
theorem dL_casing_3 : decode cL_casing 3 = .ok (.iload_n 1, 1) := by decide +kernel
theorem dL_casing_4 : decode cL_casing 4 = .ok (.invokevirtual 40, 3) := by decide +kernel
theorem dL_casing_7 : decode cL_casing 7 = .ok (.i2l, 1) := by decide +kernel
theorem dL_casing_8 : decode cL_casing 8 = .ok (.lastore, 1) := by decide +kernel
theorem dL_casing_9 : decode cL_casing 9 = .ok (.goto 9, 3) := by decide +kernel
theorem dL_casing_12 : decode cL_casing 12 = .ok (.astore_n 3, 1) := by decide +kernel
theorem dL_casing_13 : decode cL_casing 13 = .ok (.iconst 1, 1) := by decide +kernel
theorem dL_casing_14 : decode cL_casing 14 = .ok (.ireturn, 1) := by decide +kernel
theorem dL_casing_15 : decode cL_casing 15 = .ok (.astore_n 3, 1) := by decide +kernel
theorem dL_casing_16 : decode cL_casing 16 = .ok (.iconst 2, 1) := by decide +kernel
theorem dL_casing_17 : decode cL_casing 17 = .ok (.ireturn, 1) := by decide +kernel
theorem dL_casing_18 : decode cL_casing 18 = .ok (.iconst 0, 1) := by decide +kernel
theorem dL_casing_19 : decode cL_casing 19 = .ok (.ireturn, 1) := by decide +kernel
theorem dL_strength_0 : decode cL_strength 0 = .ok (.aload_n 2, 1) := by decide +kernel
theorem dL_strength_1 : decode cL_strength 1 = .ok (.iconst 0, 1) := by decide +kernel
theorem dL_strength_2 : decode cL_strength 2 = .ok (.aload_n 0, 1) := by decide +kernel
theorem dL_strength_3 : decode cL_strength 3 = .ok (.iload_n 1, 1) := by decide +kernel
theorem dL_strength_4 : decode cL_strength 4 = .ok (.invokevirtual 43, 3) := by decide +kernel
theorem dL_strength_7 : decode cL_strength 7 = .ok (.i2l, 1) := by decide +kernel
theorem dL_strength_8 : decode cL_strength 8 = .ok (.lastore, 1) := by decide +kernel
theorem dL_strength_9 : decode cL_strength 9 = .ok (.goto 6, 3) := by decide +kernel
theorem dL_strength_12 : decode cL_strength 12 = .ok (.astore_n 3, 1) := by decide +kernel
theorem dL_strength_13 : decode cL_strength 13 = .ok (.iconst 1, 1) := by decide +kernel
theorem dL_strength_14 : decode cL_strength 14 = .ok (.ireturn, 1) := by decide +kernel
theorem dL_strength_15 : decode cL_strength 15 = .ok (.iconst 0, 1) := by decide +kernel
theorem dL_strength_16 : decode cL_strength 16 = .ok (.ireturn, 1) := by decide +kernel
theorem dL_test_0 : decode cL_test 0 = .ok (.aload_n 3, 1) := by decide +kernel
theorem dL_test_1 : decode cL_test 1 = .ok (.iconst 0, 1) := by decide +kernel
theorem dL_test_2 : decode cL_test 2 = .ok (.aload_n 0, 1) := by decide +kernel
theorem dL_test_3 : decode cL_test 3 = .ok (.iload_n 1, 1) := by decide +kernel
theorem dL_test_4 : decode cL_test 4 = .ok (.iload_n 2, 1) := by decide +kernel
theorem dL_test_5 : decode cL_test 5 = .ok (.invokevirtual 46, 3) := by decide +kernel
theorem dL_test_8 : decode cL_test 8 = .ok (.ifCond .eq 7, 3) := by decide +kernel
theorem dL_test_11 : decode cL_test 11 = .ok (.lconst 1, 1) := by decide +kernel
theorem dL_test_12 : decode cL_test 12 = .ok (.goto 4, 3) := by decide +kernel
theorem dL_test_15 : decode cL_test 15 = .ok (.lconst 0, 1) := by decide +kernel
theorem dL_test_16 : decode cL_test 16 = .ok (.lastore, 1) := by decide +kernel
theorem dL_test_17 : decode cL_test 17 = .ok (.goto 11, 3) := by decide +kernel
theorem dL_test_20 : decode cL_test 20 = .ok (.astore 4, 2) := by decide +kernel
theorem dL_test_22 : decode cL_test 22 = .ok (.iconst 1, 1) := by decide +kernel
theorem dL_test_23 : decode cL_test 23 = .ok (.ireturn, 1) := by decide +kernel
theorem dL_test_24 : decode cL_test 24 = .ok (.astore 4, 2) := by decide +kernel
theorem dL_test_26 : decode cL_test 26 = .ok (.iconst 2, 1) := by decide +kernel
theorem dL_test_27 : decode cL_test 27 = .ok (.ireturn, 1) := by decide +kernel
theorem dL_test_28 : decode cL_test 28 = .ok (.iconst 0, 1) := by decide +kernel
theorem dL_test_29 : decode cL_test 29 = .ok (.ireturn, 1) := by decide +kernel
theorem dL_stop_0 : decode cL_stop 0 = .ok (.aload_n 3, 1) := by decide +kernel
theorem dL_stop_1 : decode cL_stop 1 = .ok (.iconst 0, 1) := by decide +kernel
theorem dL_stop_2 : decode cL_stop 2 = .ok (.aload_n 0, 1) := by decide +kernel
theorem dL_stop_3 : decode cL_stop 3 = .ok (.iload_n 1, 1) := by decide +kernel
theorem dL_stop_4 : decode cL_stop 4 = .ok (.iload_n 2, 1) := by decide +kernel
theorem dL_stop_5 : decode cL_stop 5 = .ok (.invokevirtual 50, 3) := by decide +kernel
theorem dL_stop_8 : decode cL_stop 8 = .ok (.i2l, 1) := by decide +kernel
theorem dL_stop_9 : decode cL_stop 9 = .ok (.lastore, 1) := by decide +kernel
theorem dL_stop_10 : decode cL_stop 10 = .ok (.goto 7, 3) := by decide +kernel
theorem dL_stop_13 : decode cL_stop 13 = .ok (.astore 4, 2) := by decide +kernel
theorem dL_stop_15 : decode cL_stop 15 = .ok (.iconst 1, 1) := by decide +kernel
theorem dL_stop_16 : decode cL_stop 16 = .ok (.ireturn, 1) := by decide +kernel
theorem dL_stop_17 : decode cL_stop 17 = .ok (.iconst 0, 1) := by decide +kernel
theorem dL_stop_18 : decode cL_stop 18 = .ok (.ireturn, 1) := by decide +kernel
theorem dL_pressure_0 : decode cL_pressure 0 = .ok (.aload_n 2, 1) := by decide +kernel
theorem dL_pressure_1 : decode cL_pressure 1 = .ok (.iconst 0, 1) := by decide +kernel
theorem dL_pressure_2 : decode cL_pressure 2 = .ok (.aload_n 0, 1) := by decide +kernel
theorem dL_pressure_3 : decode cL_pressure 3 = .ok (.iload_n 1, 1) := by decide +kernel
theorem dL_pressure_4 : decode cL_pressure 4 = .ok (.invokevirtual 54, 3) := by decide +kernel
theorem dL_pressure_7 : decode cL_pressure 7 = .ok (.i2l, 1) := by decide +kernel
theorem dL_pressure_8 : decode cL_pressure 8 = .ok (.lastore, 1) := by decide +kernel
theorem dL_pressure_9 : decode cL_pressure 9 = .ok (.goto 6, 3) := by decide +kernel
theorem dL_pressure_12 : decode cL_pressure 12 = .ok (.astore_n 3, 1) := by decide +kernel
theorem dL_pressure_13 : decode cL_pressure 13 = .ok (.iconst 1, 1) := by decide +kernel
theorem dL_pressure_14 : decode cL_pressure 14 = .ok (.ireturn, 1) := by decide +kernel
theorem dL_pressure_15 : decode cL_pressure 15 = .ok (.iconst 0, 1) := by decide +kernel
theorem dL_pressure_16 : decode cL_pressure 16 = .ok (.ireturn, 1) := by decide +kernel
theorem dL_of_0 : decode cL_of 0 = .ok (.aload_n 2, 1) := by decide +kernel
theorem dL_of_1 : decode cL_of 1 = .ok (.iconst 0, 1) := by decide +kernel
theorem dL_of_2 : decode cL_of 2 = .ok (.aload_n 0, 1) := by decide +kernel
theorem dL_of_3 : decode cL_of 3 = .ok (.iload_n 1, 1) := by decide +kernel
theorem dL_of_4 : decode cL_of 4 = .ok (.invokevirtual 57, 3) := by decide +kernel
theorem dL_of_7 : decode cL_of 7 = .ok (.lastore, 1) := by decide +kernel
theorem dL_of_8 : decode cL_of 8 = .ok (.goto 6, 3) := by decide +kernel
theorem dL_of_11 : decode cL_of 11 = .ok (.astore_n 3, 1) := by decide +kernel
theorem dL_of_12 : decode cL_of 12 = .ok (.iconst 1, 1) := by decide +kernel
theorem dL_of_13 : decode cL_of 13 = .ok (.ireturn, 1) := by decide +kernel
theorem dL_of_14 : decode cL_of 14 = .ok (.iconst 0, 1) := by decide +kernel
theorem dL_of_15 : decode cL_of 15 = .ok (.ireturn, 1) := by decide +kernel
theorem dL_ofTest_0 : decode cL_ofTest 0 = .ok (.aload_n 3, 1) := by decide +kernel
theorem dL_ofTest_1 : decode cL_ofTest 1 = .ok (.iconst 0, 1) := by decide +kernel
theorem dL_ofTest_2 : decode cL_ofTest 2 = .ok (.aload_n 0, 1) := by decide +kernel
theorem dL_ofTest_3 : decode cL_ofTest 3 = .ok (.iload_n 1, 1) := by decide +kernel
theorem dL_ofTest_4 : decode cL_ofTest 4 = .ok (.iload_n 2, 1) := by decide +kernel
theorem dL_ofTest_5 : decode cL_ofTest 5 = .ok (.invokevirtual 61, 3) := by decide +kernel
theorem dL_ofTest_8 : decode cL_ofTest 8 = .ok (.i2l, 1) := by decide +kernel
theorem dL_ofTest_9 : decode cL_ofTest 9 = .ok (.lastore, 1) := by decide +kernel
theorem dL_ofTest_10 : decode cL_ofTest 10 = .ok (.goto 11, 3) := by decide +kernel
theorem dL_ofTest_13 : decode cL_ofTest 13 = .ok (.astore 4, 2) := by decide +kernel
theorem dL_ofTest_15 : decode cL_ofTest 15 = .ok (.iconst 1, 1) := by decide +kernel
theorem dL_ofTest_16 : decode cL_ofTest 16 = .ok (.ireturn, 1) := by decide +kernel
theorem dL_ofTest_17 : decode cL_ofTest 17 = .ok (.astore 4, 2) := by decide +kernel
theorem dL_ofTest_19 : decode cL_ofTest 19 = .ok (.iconst 2, 1) := by decide +kernel
theorem dL_ofTest_20 : decode cL_ofTest 20 = .ok (.ireturn, 1) := by decide +kernel
theorem dL_ofTest_21 : decode cL_ofTest 21 = .ok (.iconst 0, 1) := by decide +kernel
theorem dL_ofTest_22 : decode cL_ofTest 22 = .ok (.ireturn, 1) := by decide +kernel
theorem dL_killWeight_0 : decode cL_killWeight 0 = .ok (.aload_n 1, 1) := by decide +kernel
theorem dL_killWeight_1 : decode cL_killWeight 1 = .ok (.iconst 0, 1) := by decide +kernel
theorem dL_killWeight_2 : decode cL_killWeight 2 = .ok (.aload_n 0, 1) := by decide +kernel
theorem dL_killWeight_3 : decode cL_killWeight 3 = .ok (.invokevirtual 64, 3) := by decide +kernel
theorem dL_killWeight_6 : decode cL_killWeight 6 = .ok (.i2l, 1) := by decide +kernel
theorem dL_killWeight_7 : decode cL_killWeight 7 = .ok (.lastore, 1) := by decide +kernel
theorem dL_killWeight_8 : decode cL_killWeight 8 = .ok (.goto 6, 3) := by decide +kernel
theorem dL_killWeight_11 : decode cL_killWeight 11 = .ok (.astore_n 2, 1) := by decide +kernel
theorem dL_killWeight_12 : decode cL_killWeight 12 = .ok (.iconst 1, 1) := by decide +kernel
theorem dL_killWeight_13 : decode cL_killWeight 13 = .ok (.ireturn, 1) := by decide +kernel
theorem dL_killWeight_14 : decode cL_killWeight 14 = .ok (.iconst 0, 1) := by decide +kernel
theorem dL_killWeight_15 : decode cL_killWeight 15 = .ok (.ireturn, 1) := by decide +kernel
theorem dL_window_0 : decode cL_window 0 = .ok (.aload 4, 2) := by decide +kernel
theorem dL_window_2 : decode cL_window 2 = .ok (.iconst 0, 1) := by decide +kernel
theorem dL_window_3 : decode cL_window 3 = .ok (.aload_n 0, 1) := by decide +kernel
theorem dL_window_4 : decode cL_window 4 = .ok (.iload_n 1, 1) := by decide +kernel
theorem dL_window_5 : decode cL_window 5 = .ok (.iload_n 2, 1) := by decide +kernel
theorem dL_window_6 : decode cL_window 6 = .ok (.iload_n 3, 1) := by decide +kernel
theorem dL_window_7 : decode cL_window 7 = .ok (.invokevirtual 67, 3) := by decide +kernel
theorem dL_window_10 : decode cL_window 10 = .ok (.i2l, 1) := by decide +kernel
theorem dL_window_11 : decode cL_window 11 = .ok (.lastore, 1) := by decide +kernel
theorem dL_window_12 : decode cL_window 12 = .ok (.goto 7, 3) := by decide +kernel
theorem dL_window_15 : decode cL_window 15 = .ok (.astore 5, 2) := by decide +kernel
theorem dL_window_17 : decode cL_window 17 = .ok (.iconst 1, 1) := by decide +kernel
theorem dL_window_18 : decode cL_window 18 = .ok (.ireturn, 1) := by decide +kernel
theorem dL_window_19 : decode cL_window 19 = .ok (.iconst 0, 1) := by decide +kernel
theorem dL_window_20 : decode cL_window 20 = .ok (.ireturn, 1) := by decide +kernel
theorem dL_casings_0 : decode cL_casings 0 = .ok (.aload_n 2, 1) := by decide +kernel
theorem dL_casings_1 : decode cL_casings 1 = .ok (.iconst 0, 1) := by decide +kernel
theorem dL_casings_2 : decode cL_casings 2 = .ok (.aload_n 0, 1) := by decide +kernel
theorem dL_casings_3 : decode cL_casings 3 = .ok (.iload_n 1, 1) := by decide +kernel
theorem dL_casings_4 : decode cL_casings 4 = .ok (.invokevirtual 71, 3) := by decide +kernel
theorem dL_casings_7 : decode cL_casings 7 = .ok (.i2l, 1) := by decide +kernel
theorem dL_casings_8 : decode cL_casings 8 = .ok (.lastore, 1) := by decide +kernel
theorem dL_casings_9 : decode cL_casings 9 = .ok (.goto 6, 3) := by decide +kernel
theorem dL_casings_12 : decode cL_casings 12 = .ok (.astore_n 3, 1) := by decide +kernel
theorem dL_casings_13 : decode cL_casings 13 = .ok (.iconst 1, 1) := by decide +kernel
theorem dL_casings_14 : decode cL_casings 14 = .ok (.ireturn, 1) := by decide +kernel
theorem dL_casings_15 : decode cL_casings 15 = .ok (.iconst 0, 1) := by decide +kernel
theorem dL_casings_16 : decode cL_casings 16 = .ok (.ireturn, 1) := by decide +kernel
theorem dL_casingsAnew_0 : decode cL_casingsAnew 0 = .ok (.aload_n 2, 1) := by decide +kernel
theorem dL_casingsAnew_1 : decode cL_casingsAnew 1 = .ok (.iconst 0, 1) := by decide +kernel
theorem dL_casingsAnew_2 : decode cL_casingsAnew 2 = .ok (.aload_n 0, 1) := by decide +kernel
theorem dL_casingsAnew_3 : decode cL_casingsAnew 3 = .ok (.iload_n 1, 1) := by decide +kernel
theorem dL_casingsAnew_4 : decode cL_casingsAnew 4 = .ok (.invokevirtual 74, 3) := by decide +kernel
theorem dL_casingsAnew_7 : decode cL_casingsAnew 7 = .ok (.i2l, 1) := by decide +kernel
theorem dL_casingsAnew_8 : decode cL_casingsAnew 8 = .ok (.lastore, 1) := by decide +kernel
theorem dL_casingsAnew_9 : decode cL_casingsAnew 9 = .ok (.goto 6, 3) := by decide +kernel
theorem dL_casingsAnew_12 : decode cL_casingsAnew 12 = .ok (.astore_n 3, 1) := by decide +kernel
theorem dL_casingsAnew_13 : decode cL_casingsAnew 13 = .ok (.iconst 1, 1) := by decide +kernel
theorem dL_casingsAnew_14 : decode cL_casingsAnew 14 = .ok (.ireturn, 1) := by decide +kernel
theorem dL_casingsAnew_15 : decode cL_casingsAnew 15 = .ok (.iconst 0, 1) := by decide +kernel
theorem dL_casingsAnew_16 : decode cL_casingsAnew 16 = .ok (.ireturn, 1) := by decide +kernel
theorem dL_equivalent_0 : decode cL_equivalent 0 = .ok (.aload_n 1, 1) := by decide +kernel
theorem dL_equivalent_1 : decode cL_equivalent 1 = .ok (.iconst 0, 1) := by decide +kernel
theorem dL_equivalent_2 : decode cL_equivalent 2 = .ok (.aload_n 0, 1) := by decide +kernel
theorem dL_equivalent_3 : decode cL_equivalent 3 = .ok (.invokevirtual 77, 3) := by decide +kernel
theorem dL_equivalent_6 : decode cL_equivalent 6 = .ok (.f2d, 1) := by decide +kernel
theorem dL_equivalent_7 : decode cL_equivalent 7 = .ok (.dastore, 1) := by decide +kernel
theorem dL_equivalent_8 : decode cL_equivalent 8 = .ok (.goto 6, 3) := by decide +kernel
theorem dL_equivalent_11 : decode cL_equivalent 11 = .ok (.astore_n 2, 1) := by decide +kernel
theorem dL_equivalent_12 : decode cL_equivalent 12 = .ok (.iconst 1, 1) := by decide +kernel
theorem dL_equivalent_13 : decode cL_equivalent 13 = .ok (.ireturn, 1) := by decide +kernel
theorem dL_equivalent_14 : decode cL_equivalent 14 = .ok (.iconst 0, 1) := by decide +kernel
theorem dL_equivalent_15 : decode cL_equivalent 15 = .ok (.ireturn, 1) := by decide +kernel
theorem dL_ahead_0 : decode cL_ahead 0 = .ok (.aload_n 2, 1) := by decide +kernel
theorem dL_ahead_1 : decode cL_ahead 1 = .ok (.iconst 0, 1) := by decide +kernel
theorem dL_ahead_2 : decode cL_ahead 2 = .ok (.aload_n 0, 1) := by decide +kernel
theorem dL_ahead_3 : decode cL_ahead 3 = .ok (.iload_n 1, 1) := by decide +kernel
theorem dL_ahead_4 : decode cL_ahead 4 = .ok (.invokevirtual 81, 3) := by decide +kernel
theorem dL_ahead_7 : decode cL_ahead 7 = .ok (.i2l, 1) := by decide +kernel
theorem dL_ahead_8 : decode cL_ahead 8 = .ok (.lastore, 1) := by decide +kernel
theorem dL_ahead_9 : decode cL_ahead 9 = .ok (.goto 6, 3) := by decide +kernel
theorem dL_ahead_12 : decode cL_ahead 12 = .ok (.astore_n 3, 1) := by decide +kernel
theorem dL_ahead_13 : decode cL_ahead 13 = .ok (.iconst 1, 1) := by decide +kernel
theorem dL_ahead_14 : decode cL_ahead 14 = .ok (.ireturn, 1) := by decide +kernel
theorem dL_ahead_15 : decode cL_ahead 15 = .ok (.iconst 0, 1) := by decide +kernel
theorem dL_ahead_16 : decode cL_ahead 16 = .ok (.ireturn, 1) := by decide +kernel
end
section
/-! The good words of the tables: one list for every method of this claim; the fields' words; the nest words. -/
def ALL : List Cond := lw_tbl.filter goodWord
theorem ALL_i {w : Cond} (h : w ∈ lw_tbl) (g : goodWord w = true) : w ∈ ALL := List.mem_filter.mpr ⟨h, g⟩
theorem ALL_w {w : Cond} (h : w ∈ ALL) : goodWord w = true := (List.mem_filter.mp h).2
theorem ALL_t {w : Cond} (h : w ∈ ALL) : w ∈ lw_tbl := (List.mem_filter.mp h).1
theorem inlX0 : ∀ w ∈ wsX00, w ∈ ALL := fun w h => ALL_i ((goodIn_r (big := lw_tbl) wsX00 [89, 91, 93, 95, 97] (by decide +kernel) (by decide +kernel)) w h).1 (List.all_eq_true.mp (by decide +kernel : List.all wsX00 goodWord = true) w h)
theorem inlX1 : ∀ w ∈ wsX10, w ∈ ALL := fun w h => ALL_i ((goodIn_r (big := lw_tbl) wsX10 [186, 188, 190, 192, 194, 196, 198] (by decide +kernel) (by decide +kernel)) w h).1 (List.all_eq_true.mp (by decide +kernel : List.all wsX10 goodWord = true) w h)
theorem inlX2 : ∀ w ∈ wsX20, w ∈ ALL := fun w h => ALL_i ((goodIn_r (big := lw_tbl) wsX20 [135, 137, 139, 141, 143, 145, 147, 149, 151, 153, 155, 157, 159, 161, 163] (by decide +kernel) (by decide +kernel)) w h).1 (List.all_eq_true.mp (by decide +kernel : List.all wsX20 goodWord = true) w h)
theorem inlX3 : ∀ w ∈ wsX30, w ∈ ALL := fun w h => ALL_i ((goodIn_r (big := lw_tbl) wsX30 [209, 211, 213, 215, 217, 219, 221, 223] (by decide +kernel) (by decide +kernel)) w h).1 (List.all_eq_true.mp (by decide +kernel : List.all wsX30 goodWord = true) w h)
theorem inlX4 : ∀ w ∈ wsX40, w ∈ ALL := fun w h => ALL_i ((goodIn_r (big := lw_tbl) wsX40 [707, 709, 711, 713, 715, 717, 719, 721, 723, 725, 727, 729, 731, 733, 735, 737, 739, 741, 743, 745, 747, 749, 751, 753, 755, 757, 759, 761, 763, 765, 767] (by decide +kernel) (by decide +kernel)) w h).1 (List.all_eq_true.mp (by decide +kernel : List.all wsX40 goodWord = true) w h)
def NW : List Cond := [Cond.methodLinkNest RX3 9 yX0_init "Kickroom", Cond.methodLinkNest RX3 18 yX2_init "Kickroom", Cond.fieldLinkNest RX3 55 "Kickroom$Well" "depth" "I" "Kickroom", Cond.fieldLinkNest RX3 123 "Kickroom$Well" "shoe" "I" "Kickroom", Cond.fieldLinkNest RX3 75 "Kickroom$Well" "weight" "I" "Kickroom", Cond.fieldLinkNest RX3 69 "Kickroom$Well" "isClosed" "Z" "Kickroom", Cond.fieldLinkNest RX3 107 "Kickroom$Well" "choke" "I" "Kickroom", Cond.fieldLinkNest RX3 141 "Kickroom$Well" "valveStrength" "I" "Kickroom", Cond.fieldLinkNest RX3 158 "Kickroom$Well" "hasBrokenSinceTest" "Z" "Kickroom", Cond.fieldLinkNest RX3 194 "Kickroom$Well" "place" "I" "Kickroom", Cond.fieldLinkNest RX3 191 "Kickroom$Well" "gas" "I" "Kickroom", Cond.fieldLinkNest RX3 118 "Kickroom$Well" "liquid" "I" "Kickroom", Cond.fieldLinkNest RX3 199 "Kickroom$Well" "vented" "J" "Kickroom", Cond.fieldLinkNest RX3 203 "Kickroom$Well" "lost" "I" "Kickroom", Cond.fieldLinkNest RX3 151 "Kickroom$Well" "minutes" "I" "Kickroom", Cond.methodLinkNest RX3 30 yX1_init "Kickroom", Cond.fieldLinkNest RX3 220 "Kickroom$Tests" "whats" "[I" "Kickroom", Cond.fieldLinkNest RX3 228 "Kickroom$Tests" "pressures" "[I" "Kickroom", Cond.fieldLinkNest RX3 231 "Kickroom$Tests" "passes" "[I" "Kickroom", Cond.fieldLinkNest RX3 234 "Kickroom$Tests" "minutes" "[I" "Kickroom", Cond.fieldLinkNest RX3 146 "Kickroom$Tests" "count" "I" "Kickroom", Cond.fieldLinkNest RX3 264 "Kickroom$Tests" "latestOfValve" "I" "Kickroom", Cond.fieldLinkNest RX3 135 "Kickroom$Tests" "latestOfCement" "I" "Kickroom", Cond.methodLinkNest RX3 126 yX2_hasInflow "Kickroom", Cond.methodLinkNest RX3 171 yX2_bottom "Kickroom", Cond.methodLinkNest RX3 174 yX0_poreAt "Kickroom", Cond.methodLinkNest RX0 41 yX3_read "Kickroom", Cond.methodLinkNest RX3 267 yX1_isPassed "Kickroom", Cond.methodLinkNest RX1 38 yX3_read "Kickroom", Cond.methodLinkNest RX3 63 yX0_tellLayer "Kickroom", Cond.methodLinkNest RX0 33 yX3_write "Kickroom", Cond.methodLinkNest RX3 93 yX2_letMinuteGo "Kickroom", Cond.methodLinkNest RX2 102 yX0_poreAt "Kickroom", Cond.methodLinkNest RX2 111 yX0_rateAt "Kickroom", Cond.methodLinkNest RX2 116 yX0_bearsGasAt "Kickroom", Cond.methodLinkNest RX2 123 yX0_breakAt "Kickroom", Cond.methodLinkNest RX3 101 yX2_letMinutesGo "Kickroom", Cond.methodLinkNest RX3 154 yX1_keep "Kickroom", Cond.methodLinkNest RX1 34 yX3_write "Kickroom", Cond.methodLinkNest RX3 177 yX2_foot "Kickroom", Cond.methodLinkNest RX3 180 yX0_breakAt "Kickroom", Cond.methodLinkNest RX3 183 yX2_hasGas "Kickroom", Cond.methodLinkNest RX3 186 yX2_gasPressure "Kickroom", Cond.methodLinkNest RX3 240 yX0_layerOf "Kickroom", Cond.methodLinkNest RX3 243 yX0_leastBreak "Kickroom", Cond.methodLinkNest RX3 247 yX0_greatestPore "Kickroom", Cond.methodLinkNest RX3 252 yX0_piecesFromAbove "Kickroom", Cond.methodLinkNest RX3 255 yX0_piecesFromAll "Kickroom", Cond.methodLinkNest RX3 260 yX2_become "Kickroom"]
theorem nw_0 : Cond.methodLinkNest RX3 9 yX0_init "Kickroom" ∈ NW := List.mem_of_getElem? (i := 0) (by decide +kernel)
theorem nw_1 : Cond.methodLinkNest RX3 18 yX2_init "Kickroom" ∈ NW := List.mem_of_getElem? (i := 1) (by decide +kernel)
theorem nw_2 : Cond.fieldLinkNest RX3 55 "Kickroom$Well" "depth" "I" "Kickroom" ∈ NW := List.mem_of_getElem? (i := 2) (by decide +kernel)
theorem nw_3 : Cond.fieldLinkNest RX3 123 "Kickroom$Well" "shoe" "I" "Kickroom" ∈ NW := List.mem_of_getElem? (i := 3) (by decide +kernel)
theorem nw_4 : Cond.fieldLinkNest RX3 75 "Kickroom$Well" "weight" "I" "Kickroom" ∈ NW := List.mem_of_getElem? (i := 4) (by decide +kernel)
theorem nw_5 : Cond.fieldLinkNest RX3 69 "Kickroom$Well" "isClosed" "Z" "Kickroom" ∈ NW := List.mem_of_getElem? (i := 5) (by decide +kernel)
theorem nw_6 : Cond.fieldLinkNest RX3 107 "Kickroom$Well" "choke" "I" "Kickroom" ∈ NW := List.mem_of_getElem? (i := 6) (by decide +kernel)
theorem nw_7 : Cond.fieldLinkNest RX3 141 "Kickroom$Well" "valveStrength" "I" "Kickroom" ∈ NW := List.mem_of_getElem? (i := 7) (by decide +kernel)
theorem nw_8 : Cond.fieldLinkNest RX3 158 "Kickroom$Well" "hasBrokenSinceTest" "Z" "Kickroom" ∈ NW := List.mem_of_getElem? (i := 8) (by decide +kernel)
theorem nw_9 : Cond.fieldLinkNest RX3 194 "Kickroom$Well" "place" "I" "Kickroom" ∈ NW := List.mem_of_getElem? (i := 9) (by decide +kernel)
theorem nw_10 : Cond.fieldLinkNest RX3 191 "Kickroom$Well" "gas" "I" "Kickroom" ∈ NW := List.mem_of_getElem? (i := 10) (by decide +kernel)
theorem nw_11 : Cond.fieldLinkNest RX3 118 "Kickroom$Well" "liquid" "I" "Kickroom" ∈ NW := List.mem_of_getElem? (i := 11) (by decide +kernel)
theorem nw_12 : Cond.fieldLinkNest RX3 199 "Kickroom$Well" "vented" "J" "Kickroom" ∈ NW := List.mem_of_getElem? (i := 12) (by decide +kernel)
theorem nw_13 : Cond.fieldLinkNest RX3 203 "Kickroom$Well" "lost" "I" "Kickroom" ∈ NW := List.mem_of_getElem? (i := 13) (by decide +kernel)
theorem nw_14 : Cond.fieldLinkNest RX3 151 "Kickroom$Well" "minutes" "I" "Kickroom" ∈ NW := List.mem_of_getElem? (i := 14) (by decide +kernel)
theorem nw_15 : Cond.methodLinkNest RX3 30 yX1_init "Kickroom" ∈ NW := List.mem_of_getElem? (i := 15) (by decide +kernel)
theorem nw_16 : Cond.fieldLinkNest RX3 220 "Kickroom$Tests" "whats" "[I" "Kickroom" ∈ NW := List.mem_of_getElem? (i := 16) (by decide +kernel)
theorem nw_17 : Cond.fieldLinkNest RX3 228 "Kickroom$Tests" "pressures" "[I" "Kickroom" ∈ NW := List.mem_of_getElem? (i := 17) (by decide +kernel)
theorem nw_18 : Cond.fieldLinkNest RX3 231 "Kickroom$Tests" "passes" "[I" "Kickroom" ∈ NW := List.mem_of_getElem? (i := 18) (by decide +kernel)
theorem nw_19 : Cond.fieldLinkNest RX3 234 "Kickroom$Tests" "minutes" "[I" "Kickroom" ∈ NW := List.mem_of_getElem? (i := 19) (by decide +kernel)
theorem nw_20 : Cond.fieldLinkNest RX3 146 "Kickroom$Tests" "count" "I" "Kickroom" ∈ NW := List.mem_of_getElem? (i := 20) (by decide +kernel)
theorem nw_21 : Cond.fieldLinkNest RX3 264 "Kickroom$Tests" "latestOfValve" "I" "Kickroom" ∈ NW := List.mem_of_getElem? (i := 21) (by decide +kernel)
theorem nw_22 : Cond.fieldLinkNest RX3 135 "Kickroom$Tests" "latestOfCement" "I" "Kickroom" ∈ NW := List.mem_of_getElem? (i := 22) (by decide +kernel)
theorem nw_23 : Cond.methodLinkNest RX3 126 yX2_hasInflow "Kickroom" ∈ NW := List.mem_of_getElem? (i := 23) (by decide +kernel)
theorem nw_24 : Cond.methodLinkNest RX3 171 yX2_bottom "Kickroom" ∈ NW := List.mem_of_getElem? (i := 24) (by decide +kernel)
theorem nw_25 : Cond.methodLinkNest RX3 174 yX0_poreAt "Kickroom" ∈ NW := List.mem_of_getElem? (i := 25) (by decide +kernel)
theorem nw_26 : Cond.methodLinkNest RX0 41 yX3_read "Kickroom" ∈ NW := List.mem_of_getElem? (i := 26) (by decide +kernel)
theorem nw_27 : Cond.methodLinkNest RX3 267 yX1_isPassed "Kickroom" ∈ NW := List.mem_of_getElem? (i := 27) (by decide +kernel)
theorem nw_28 : Cond.methodLinkNest RX1 38 yX3_read "Kickroom" ∈ NW := List.mem_of_getElem? (i := 28) (by decide +kernel)
theorem nw_29 : Cond.methodLinkNest RX3 63 yX0_tellLayer "Kickroom" ∈ NW := List.mem_of_getElem? (i := 29) (by decide +kernel)
theorem nw_30 : Cond.methodLinkNest RX0 33 yX3_write "Kickroom" ∈ NW := List.mem_of_getElem? (i := 30) (by decide +kernel)
theorem nw_31 : Cond.methodLinkNest RX3 93 yX2_letMinuteGo "Kickroom" ∈ NW := List.mem_of_getElem? (i := 31) (by decide +kernel)
theorem nw_32 : Cond.methodLinkNest RX2 102 yX0_poreAt "Kickroom" ∈ NW := List.mem_of_getElem? (i := 32) (by decide +kernel)
theorem nw_33 : Cond.methodLinkNest RX2 111 yX0_rateAt "Kickroom" ∈ NW := List.mem_of_getElem? (i := 33) (by decide +kernel)
theorem nw_34 : Cond.methodLinkNest RX2 116 yX0_bearsGasAt "Kickroom" ∈ NW := List.mem_of_getElem? (i := 34) (by decide +kernel)
theorem nw_35 : Cond.methodLinkNest RX2 123 yX0_breakAt "Kickroom" ∈ NW := List.mem_of_getElem? (i := 35) (by decide +kernel)
theorem nw_36 : Cond.methodLinkNest RX3 101 yX2_letMinutesGo "Kickroom" ∈ NW := List.mem_of_getElem? (i := 36) (by decide +kernel)
theorem nw_37 : Cond.methodLinkNest RX3 154 yX1_keep "Kickroom" ∈ NW := List.mem_of_getElem? (i := 37) (by decide +kernel)
theorem nw_38 : Cond.methodLinkNest RX1 34 yX3_write "Kickroom" ∈ NW := List.mem_of_getElem? (i := 38) (by decide +kernel)
theorem nw_39 : Cond.methodLinkNest RX3 177 yX2_foot "Kickroom" ∈ NW := List.mem_of_getElem? (i := 39) (by decide +kernel)
theorem nw_40 : Cond.methodLinkNest RX3 180 yX0_breakAt "Kickroom" ∈ NW := List.mem_of_getElem? (i := 40) (by decide +kernel)
theorem nw_41 : Cond.methodLinkNest RX3 183 yX2_hasGas "Kickroom" ∈ NW := List.mem_of_getElem? (i := 41) (by decide +kernel)
theorem nw_42 : Cond.methodLinkNest RX3 186 yX2_gasPressure "Kickroom" ∈ NW := List.mem_of_getElem? (i := 42) (by decide +kernel)
theorem nw_43 : Cond.methodLinkNest RX3 240 yX0_layerOf "Kickroom" ∈ NW := List.mem_of_getElem? (i := 43) (by decide +kernel)
theorem nw_44 : Cond.methodLinkNest RX3 243 yX0_leastBreak "Kickroom" ∈ NW := List.mem_of_getElem? (i := 44) (by decide +kernel)
theorem nw_45 : Cond.methodLinkNest RX3 247 yX0_greatestPore "Kickroom" ∈ NW := List.mem_of_getElem? (i := 45) (by decide +kernel)
theorem nw_46 : Cond.methodLinkNest RX3 252 yX0_piecesFromAbove "Kickroom" ∈ NW := List.mem_of_getElem? (i := 46) (by decide +kernel)
theorem nw_47 : Cond.methodLinkNest RX3 255 yX0_piecesFromAll "Kickroom" ∈ NW := List.mem_of_getElem? (i := 47) (by decide +kernel)
theorem nw_48 : Cond.methodLinkNest RX3 260 yX2_become "Kickroom" ∈ NW := List.mem_of_getElem? (i := 48) (by decide +kernel)
end
section
/-! The base: how a method of this claim is stated and walked. One list of words (ALL) for every method; a state of objects in tuples; contracts of methods that only read, of methods that write, of methods that throw. -/
section BASE
def imax (x y : Int32) : Int32 := if x < y then y else x
def imin (x y : Int32) : Int32 := if y < x then y else x
def lmin (x y : Int64) : Int64 := if y < x then y else x
def iushr (x y : Int32) : Int32 := (x.toUInt32 >>> (y.toUInt32 &&& Int32.toUInt32 31)).toInt32
theorem D_same {A : Nat → Prop} {ws ws' : va_W} (h : ws'.map Prod.fst = ws.map Prod.fst) (hD : va_D A ws) : va_D A ws' := by
  have key : ∀ (i : Nat) (p : Nat × va_E), ws'[i]? = some p → ∃ p0 : Nat × va_E, ws[i]? = some p0 ∧ p0.1 = p.1 := by
    intro i p hp
    have h1 : (ws'.map Prod.fst)[i]? = some p.1 := by rw [List.getElem?_map, hp]; rfl
    rw [h, List.getElem?_map] at h1
    cases h2 : ws[i]? with
    | none => rw [h2] at h1; cases h1
    | some p0 => rw [h2] at h1; exact ⟨p0, rfl, Option.some.inj h1⟩
  refine ⟨fun i j p q hi hj e => ?_, fun k q hk => ?_⟩
  · obtain ⟨p0, a1, a2⟩ := key i p hi
    obtain ⟨q0, b1, b2⟩ := key j q hj
    exact hD.1 i j p0 q0 a1 b1 (by rw [a2, b2, e])
  · obtain ⟨q0, b1, b2⟩ := key k q hk
    rw [← b2]
    exact hD.2 k q0 b1
theorem arr_in {n : Nat} {i : Int32} (hn : n < 2147483648) (h0 : ¬ i < 0) (h1 : ¬ Int32.ofNat n ≤ i) : vp_in i n := by
  intro h
  rcases h with h | h
  · exact h0 h
  · obtain ⟨j, hj, e⟩ := nI_of h0
    subst e
    rw [nI_clamp hj] at h
    exact h1 (nI_le h hj)
theorem i2l_ne {x : Int32} (h : ¬ x ≤ 0) : ¬ x.toInt64 = 0 := fun e => h (by
  have h1 : x.toInt64.toInt = 0 := by rw [e]; rfl
  rw [Int32.toInt_toInt64] at h1
  have h2 : x = 0 := Int32.toInt_inj.mp h1
  rw [h2]; decide)
/-- the array classes: ints, booleans, longs, doubles -/
abbrev TY (q : Nat → ClassId) : List (ClassId × FieldType) := [(q 0, .int), (q 1, .boolean), (q 2, .long), (q 3, .double)]
def nwp : Cond → Bool
  | .fieldLinkNest .. => true
  | .methodLinkNest .. => true
  | _ => false
theorem nw_warm {w : Cond} (hp : nwp w = true) {s U : State} (hW : s.WarmedH U.vm) (h : va_Nw w s) : va_Nw w U := by
  cases w <;> first | exact va_Nw.warmF hW h | exact va_Nw.warmM hW h | exact absurd hp (by simp [nwp])
theorem nw_tab {w : Cond} (hp : nwp w = true) : w.onTables = true := by
  cases w <;> first | rfl | exact absurd hp (by simp [nwp])
theorem NW_p : ∀ w ∈ NW, nwp w = true := by decide +kernel
def KK (D : va_G) (q : Nat → ClassId) (U : State) : Prop := va_K D vwCl (TY q) U ∧ ∀ w ∈ NW, va_Nw w U
theorem KK.warm {D : va_G} {q : Nat → ClassId} {s U : State} (hW : s.WarmedH U.vm) (k : KK D q s) : KK D q U :=
  ⟨va_K.moved hW.alike k.1, fun w h => nw_warm (NW_p w h) hW (k.2 w h)⟩
theorem KK.same {D : va_G} {q : Nat → ClassId} {u U : State} (h : u.vm = U.vm) (k : KK D q u) : KK D q U :=
  ⟨va_K.moved (by rw [h]; exact Vm.Alike.refl _) k.1, fun w hw => va_Nw.same (nw_tab (NW_p w hw)) h (k.2 w hw)⟩
/-- a method's start: its arguments, the heap's size, its world, the tables -/
def PC (D : va_G) (q : Nat → ClassId) (av : List Value) (ws : va_W) (sz : Nat) : Array Value → State → Prop :=
  va_Pc av (fun U => U.heap.size = sz ∧ va_P D vwCl ws U.heap ∧ KK D q U ∧ va_D (fun _ => True) ws)
theorem PC_blind {D : va_G} {q : Nat → ClassId} {av : List Value} {ws : va_W} {sz : Nat} : FrameBlind (PC D q av ws sz) := fun a U g mk h => by
  obtain ⟨e, h1, h2, h3, h4⟩ := h
  exact ⟨e, h1, h2, KK.same (u := U) (U := U.calling g mk a) rfl h3, h4⟩
/-- what every row of a walk needs: the machine, the code, its locals, its class, the words, the tables -/
def FX (p : Program) (s : State) (m : MethodId) (args : Array Value) (c : Code) (own : String) (cc : ByteArray) (nL : Nat) (D : va_G) (q : Nat → ClassId) : Prop :=
  p.tables.exec = Jvm.exec ∧ c.code = cc ∧ c.maxLocals = nL ∧ s.vm.findClass own = some m.cls ∧ (∀ w ∈ ALL, w.before args s = true) ∧ KK D q s
/-- a value of a boolean -/
def bz (x : Int32) : Prop := x = 0 ∨ x = 1
theorem bz0 : bz 0 := Or.inl rfl
theorem bz1 : bz 1 := Or.inr rfl
theorem bz_n {x : Int32} (h : bz x) : narrow .boolean (.int x) = .int x := by rcases h with rfl | rfl <;> rfl
theorem bz_f {x : Int32} (h : bz x) : fits .boolean (.int x) = true := by rcases h with rfl | rfl <;> rfl
theorem bz_ite {c : Prop} [Decidable c] {a b : Int32} (ha : bz a) (hb : bz b) : bz (if c then a else b) := by split <;> assumption
variable {p : Program} {l : Launch} {e : Env} {R : Room} {s : State} {m : MethodId} {args : Array Value} {below : List Frame} {meth : Method} {c : Code} {H : Heap} {locs : List Loc} {cells slots : Nat} {Q : State → Prop}
variable {D : va_G} {q : Nat → ClassId} {ws : va_W} {A : Nat → Prop} {H0 : Heap} {own : String} {cc : ByteArray} {nL : Nat} {pc : Nat} {ls : Array Slot} {rest st : List Value}
theorem all_pay {y : Cond} (hy : y ∈ ALL) (hts : ∀ w ∈ ALL, w.before args s = true) : ∀ w ∈ y :: ALL, ∀ (a' : Array Value) (U : State), s.WarmedH U.vm → w.before a' U = true := fun w hw a' U hW => by
  have hm : w ∈ ALL := by
    rcases List.mem_cons.mp hw with h | h
    · rw [h]; exact hy
    · exact h
  exact word_at hW (good_of_word (ALL_w hm)) (hts w hm)
def LKC (y : MethodName) (bytes : ByteArray) (maxL : Nat) (ret : Option FieldType) (n : Nat) : Prop :=
  Cond.initialized y.cls ∈ ALL ∧ Cond.code y bytes maxL ret ∈ ALL ∧ y.cls ≠ "java/lang/invoke/MethodHandle" ∧ y.cls ≠ "java/lang/invoke/VarHandle" ∧ (parseMethodDescriptor y.desc).map (fun d => d.parameters.length) = some n
def LKV (own : String) (idx : Nat) (C : String) (y : MethodName) (bytes : ByteArray) (maxL : Nat) (ret : Option FieldType) (n : Nat) : Prop :=
  Cond.methodLink own idx y ∈ ALL ∧ Cond.instanceMethod y ∈ ALL ∧ Cond.selects C y y ∈ ALL ∧ LKC y bytes maxL ret n
def LKVN (own : String) (idx : Nat) (C : String) (y : MethodName) (bytes : ByteArray) (maxL : Nat) (ret : Option FieldType) (n : Nat) : Prop :=
  Cond.methodLinkNest own idx y "Kickroom" ∈ NW ∧ Cond.instanceMethod y ∈ ALL ∧ Cond.selects C y y ∈ ALL ∧ LKC y bytes maxL ret n
def LKS (own : String) (idx : Nat) (y : MethodName) (bytes : ByteArray) (maxL : Nat) (ret : Option FieldType) (n : Nat) : Prop :=
  Cond.methodLink own idx y ∈ ALL ∧ Cond.static y ∈ ALL ∧ LKC y bytes maxL ret n
def LKSN (own : String) (idx : Nat) (y : MethodName) (bytes : ByteArray) (maxL : Nat) (ret : Option FieldType) (n : Nat) : Prop :=
  Cond.methodLinkNest own idx y "Kickroom" ∈ NW ∧ Cond.static y ∈ ALL ∧ LKC y bytes maxL ret n
def LKI (own : String) (idx : Nat) (y : MethodName) (bytes : ByteArray) (maxL : Nat) (n : Nat) : Prop :=
  Cond.methodLink own idx y ∈ ALL ∧ y.name = "<init>" ∧ Cond.instanceMethod y ∈ ALL ∧ LKC y bytes maxL none n
def LKIN (own : String) (idx : Nat) (y : MethodName) (bytes : ByteArray) (maxL : Nat) (n : Nat) : Prop :=
  Cond.methodLinkNest own idx y "Kickroom" ∈ NW ∧ y.name = "<init>" ∧ Cond.instanceMethod y ∈ ALL ∧ LKC y bytes maxL none n
theorem cb_of {idx : Nat} {y : MethodName} {bytes : ByteArray} {maxL n mc ms : Nat} {ret : Option FieldType} {rm : Room} (fx : FX p s m args c own cc nL D q) (hl : Cond.methodLink own idx y ∈ ALL) (lk : LKC y bytes maxL ret n)
    (hrm : rm.cells = mc ∧ rm.slots = ms) (hroom : rm.frames + 1 ≤ R.frames ∧ 8 + (maxL + 11) + rm.locals ≤ R.locals) : CallB R s args own idx y bytes maxL ret (Cond.code y bytes maxL ret :: ALL) rm mc ms n := by
  obtain ⟨-, -, -, -, hts, -⟩ := fx
  obtain ⟨h1, h2, h3, h4, h5⟩ := lk
  refine ⟨hrm.1, hrm.2, hroom.1, hroom.2, all_pay h2 hts, List.mem_cons_self, hts _ h2, hts _ h1, ⟨h3, h4⟩, fun sig hs => ?_, hts _ hl⟩
  rw [hs] at h5
  exact (Option.some.inj h5).symm
theorem cn_of {idx : Nat} {y : MethodName} {bytes : ByteArray} {maxL n mc ms : Nat} {ret : Option FieldType} {rm : Room} (fx : FX p s m args c own cc nL D q) (hl : Cond.methodLinkNest own idx y "Kickroom" ∈ NW) (lk : LKC y bytes maxL ret n)
    (hrm : rm.cells = mc ∧ rm.slots = ms) (hroom : rm.frames + 1 ≤ R.frames ∧ 8 + (maxL + 11) + rm.locals ≤ R.locals) : va_CN R s args own idx y "Kickroom" bytes maxL ret (Cond.code y bytes maxL ret :: ALL) rm mc ms n := by
  obtain ⟨-, -, -, -, hts, hK⟩ := fx
  obtain ⟨h1, h2, h3, h4, h5⟩ := lk
  refine ⟨⟨hrm.1, hrm.2, hroom.1, hroom.2, all_pay h2 hts, List.mem_cons_self⟩, hts _ h2, hts _ h1, ⟨h3, h4⟩, fun sig hs => ?_, va_Nw.use rfl (hK.2 _ hl)⟩
  rw [hs] at h5
  exact (Option.some.inj h5).symm
theorem fx_fix (fx : FX p s m args c own cc nL D q) : CallFix p m c cc nL s args ALL own := ⟨fx.1, fx.2.1, fx.2.2.1, fx.2.2.2.1, fx.2.2.2.2.1⟩
/-- the callee's start out of the caller's world -/
theorem preS {av : List Value} {wc : va_W} (fx : FX p s m args c own cc nL D q) (hP : va_P D vwCl ws H) (hD : va_D A ws) (pl : List Nat) (hpl : pl.map (fun i => ws[i]?) = wc.map some) (hnd : va_nd pl = true) : PreS s H (PC D q av wc H.size) av := by
  obtain ⟨-, -, -, -, -, hK⟩ := fx
  have hfm : pl.filterMap (fun i => ws[i]?) = wc := by
    have h1 : (pl.map (fun i => ws[i]?)).filterMap id = (wc.map some).filterMap id := by rw [hpl]
    simpa [List.filterMap_map, Function.comp_def] using h1
  have hPc : va_P D vwCl wc H := hP.sub pl hfm
  have hDc : va_D A wc := hD.sub pl hnd hpl
  exact ⟨PC_blind, fun U hU hW => ⟨rfl, by rw [hU], by rw [hU]; exact hPc, hK.warm hW, hDc.weaken (fun _ _ _ _ => trivial)⟩⟩
theorem preV {C : String} {T : u_T} {N ci b : Nat} {fs : List Value} {As : List Value} {wc : va_W} (fx : FX p s m args c own cc nL D q) (hP : va_P D vwCl ws H) (hD : va_D A ws) (pl : List Nat) (hpl : pl.map (fun i => ws[i]?) = wc.map some) (hnd : va_nd pl = true)
    (hc : vwCl[ci]? = some (C, T, N)) (he : wc[0]? = some (b, .inr (ci, fs))) : PreV s H C b (PC D q (.ref b :: As) wc H.size) As := by
  have h1 := preS (av := .ref b :: As) fx hP hD pl hpl hnd
  have hfm : pl.filterMap (fun i => ws[i]?) = wc := by
    have h1 : (pl.map (fun i => ws[i]?)).filterMap id = (wc.map some).filterMap id := by rw [hpl]
    simpa [List.filterMap_map, Function.comp_def] using h1
  exact ⟨h1.1, va_recv fx.2.2.2.2.2.1 (hP.sub pl hfm) hc he, h1.2⟩
section RUNS
variable {y : MethodName} {bytes : ByteArray} {maxL n idx mc ms : Nat} {ret : Option FieldType} {rm : Room} {Qc : Array Value → State → Outcome → State → Prop} {XC : String → State → State → Prop} {free : Addr → Prop} {b : Nat} {As : List Value} {wc : va_W} {C : String} {T : u_T} {N ci : Nat} {fs : List Value}
theorem runV (fx : FX p s m args c own cc nL D q) (hM : Met l y (Cond.code y bytes maxL ret :: ALL) rm (PC D q (.ref b :: As) wc H.size) Qc mc ms free) (lk : LKV own idx C y bytes maxL ret n) (hroom : rm.frames + 1 ≤ R.frames ∧ 8 + (maxL + 11) + rm.locals ≤ R.locals) (hrm : rm.cells = mc ∧ rm.slots = ms)
    (hP : va_P D vwCl ws H) (hD : va_D A ws) (pl : List Nat) (hpl : pl.map (fun i => ws[i]?) = wc.map some) (hnd : va_nd pl = true) (hc : vwCl[ci]? = some (C, T, N)) (he : wc[0]? = some (b, .inr (ci, fs)))
    (hn : As.length = n) (hl : ls.size = nL) (hst : st = As.reverse ++ .ref b :: rest) (hW : (rest.map fun v => v.category).sum ≤ 8) (hdg : decode cc pc = .ok (.invokevirtual idx, 3)) (hf : cells + mc ≤ R.cells ∧ slots + ms ≤ R.slots) :
    va_Run p l e R s m args below meth c H locs cells slots mc ms (F0 m pc ls st) rest (Qc (Value.ref b :: As).toArray) free :=
  va_runV (fx_fix fx) hM ⟨cb_of fx lk.1 lk.2.2.2 hrm hroom, fx.2.2.2.2.1 _ lk.2.1, fx.2.2.2.2.1 _ lk.2.2.1⟩ (preV fx hP hD pl hpl hnd hc he) rfl hn hl hst (lv_room hW) hdg hf
theorem runVN (fx : FX p s m args c own cc nL D q) (hM : Met l y (Cond.code y bytes maxL ret :: ALL) rm (PC D q (.ref b :: As) wc H.size) Qc mc ms free) (lk : LKVN own idx C y bytes maxL ret n) (hroom : rm.frames + 1 ≤ R.frames ∧ 8 + (maxL + 11) + rm.locals ≤ R.locals) (hrm : rm.cells = mc ∧ rm.slots = ms)
    (hP : va_P D vwCl ws H) (hD : va_D A ws) (pl : List Nat) (hpl : pl.map (fun i => ws[i]?) = wc.map some) (hnd : va_nd pl = true) (hc : vwCl[ci]? = some (C, T, N)) (he : wc[0]? = some (b, .inr (ci, fs)))
    (hn : As.length = n) (hl : ls.size = nL) (hst : st = As.reverse ++ .ref b :: rest) (hW : (rest.map fun v => v.category).sum ≤ 8) (hdg : decode cc pc = .ok (.invokevirtual idx, 3)) (hf : cells + mc ≤ R.cells ∧ slots + ms ≤ R.slots) :
    va_Run p l e R s m args below meth c H locs cells slots mc ms (F0 m pc ls st) rest (Qc (Value.ref b :: As).toArray) free :=
  va_runVN (fx_fix fx) hM ⟨cn_of fx lk.1 lk.2.2.2 hrm hroom, fx.2.2.2.2.1 _ lk.2.1, fx.2.2.2.2.1 _ lk.2.2.1⟩ (preV fx hP hD pl hpl hnd hc he) rfl hn hl hst (lv_room hW) hdg hf
theorem runS (fx : FX p s m args c own cc nL D q) (hM : Met l y (Cond.code y bytes maxL ret :: ALL) rm (PC D q As wc H.size) Qc mc ms free) (lk : LKS own idx y bytes maxL ret n) (hroom : rm.frames + 1 ≤ R.frames ∧ 8 + (maxL + 11) + rm.locals ≤ R.locals) (hrm : rm.cells = mc ∧ rm.slots = ms)
    (hP : va_P D vwCl ws H) (hD : va_D A ws) (pl : List Nat) (hpl : pl.map (fun i => ws[i]?) = wc.map some) (hnd : va_nd pl = true)
    (hn : As.length = n) (hl : ls.size = nL) (hst : st = As.reverse ++ rest) (hW : (rest.map fun v => v.category).sum ≤ 8) (hdg : decode cc pc = .ok (.invokestatic idx, 3)) (hf : cells + mc ≤ R.cells ∧ slots + ms ≤ R.slots) :
    va_Run p l e R s m args below meth c H locs cells slots mc ms (F0 m pc ls st) rest (Qc As.toArray) free :=
  va_runS (fx_fix fx) hM ⟨cb_of fx lk.1 lk.2.2 hrm hroom, fx.2.2.2.2.1 _ lk.2.1⟩ (preS fx hP hD pl hpl hnd) rfl hn hl hst (lv_room hW) hdg hf
theorem runSN (fx : FX p s m args c own cc nL D q) (hM : Met l y (Cond.code y bytes maxL ret :: ALL) rm (PC D q As wc H.size) Qc mc ms free) (lk : LKSN own idx y bytes maxL ret n) (hroom : rm.frames + 1 ≤ R.frames ∧ 8 + (maxL + 11) + rm.locals ≤ R.locals) (hrm : rm.cells = mc ∧ rm.slots = ms)
    (hP : va_P D vwCl ws H) (hD : va_D A ws) (pl : List Nat) (hpl : pl.map (fun i => ws[i]?) = wc.map some) (hnd : va_nd pl = true)
    (hn : As.length = n) (hl : ls.size = nL) (hst : st = As.reverse ++ rest) (hW : (rest.map fun v => v.category).sum ≤ 8) (hdg : decode cc pc = .ok (.invokestatic idx, 3)) (hf : cells + mc ≤ R.cells ∧ slots + ms ≤ R.slots) :
    va_Run p l e R s m args below meth c H locs cells slots mc ms (F0 m pc ls st) rest (Qc As.toArray) free :=
  va_runSN (fx_fix fx) hM ⟨cn_of fx lk.1 lk.2.2 hrm hroom, fx.2.2.2.2.1 _ lk.2.1, trivial⟩ (preS fx hP hD pl hpl hnd) rfl hn hl hst (lv_room hW) hdg hf
theorem runI (fx : FX p s m args c own cc nL D q) (hM : Met l y (Cond.code y bytes maxL none :: ALL) rm (PC D q (.ref b :: As) wc H.size) Qc mc ms free) (lk : LKI own idx y bytes maxL n) (hroom : rm.frames + 1 ≤ R.frames ∧ 8 + (maxL + 11) + rm.locals ≤ R.locals) (hrm : rm.cells = mc ∧ rm.slots = ms)
    (hP : va_P D vwCl ws H) (hD : va_D A ws) (pl : List Nat) (hpl : pl.map (fun i => ws[i]?) = wc.map some) (hnd : va_nd pl = true)
    (hn : As.length = n) (hl : ls.size = nL) (hst : st = As.reverse ++ .ref b :: rest) (hW : (rest.map fun v => v.category).sum ≤ 8) (hdg : decode cc pc = .ok (.invokespecial idx, 3)) (hf : cells + mc ≤ R.cells ∧ slots + ms ≤ R.slots) :
    va_Run p l e R s m args below meth c H locs cells slots mc ms (F0 m pc ls st) rest (Qc (Value.ref b :: As).toArray) free :=
  va_runI (fx_fix fx) hM ⟨cb_of fx lk.1 lk.2.2.2 hrm hroom, lk.2.1, fx.2.2.2.2.1 _ lk.2.2.1⟩ (preS fx hP hD pl hpl hnd) rfl hn hl hst (lv_room hW) hdg hf
theorem runIN (fx : FX p s m args c own cc nL D q) (hM : Met l y (Cond.code y bytes maxL none :: ALL) rm (PC D q (.ref b :: As) wc H.size) Qc mc ms free) (lk : LKIN own idx y bytes maxL n) (hroom : rm.frames + 1 ≤ R.frames ∧ 8 + (maxL + 11) + rm.locals ≤ R.locals) (hrm : rm.cells = mc ∧ rm.slots = ms)
    (hP : va_P D vwCl ws H) (hD : va_D A ws) (pl : List Nat) (hpl : pl.map (fun i => ws[i]?) = wc.map some) (hnd : va_nd pl = true)
    (hn : As.length = n) (hl : ls.size = nL) (hst : st = As.reverse ++ .ref b :: rest) (hW : (rest.map fun v => v.category).sum ≤ 8) (hdg : decode cc pc = .ok (.invokespecial idx, 3)) (hf : cells + mc ≤ R.cells ∧ slots + ms ≤ R.slots) :
    va_Run p l e R s m args below meth c H locs cells slots mc ms (F0 m pc ls st) rest (Qc (Value.ref b :: As).toArray) free :=
  va_runIN (fx_fix fx) hM ⟨cn_of fx lk.1 lk.2.2.2 hrm hroom, lk.2.1, fx.2.2.2.2.1 _ lk.2.2.1⟩ (preS fx hP hD pl hpl hnd) rfl hn hl hst (lv_room hW) hdg hf
theorem xrunV (fx : FX p s m args c own cc nL D q) (hM : vx_Met l y (Cond.code y bytes maxL ret :: ALL) rm (PC D q (.ref b :: As) wc H.size) Qc XC mc ms free) (lk : LKV own idx C y bytes maxL ret n) (hroom : rm.frames + 1 ≤ R.frames ∧ 8 + (maxL + 11) + rm.locals ≤ R.locals) (hrm : rm.cells = mc ∧ rm.slots = ms)
    (hP : va_P D vwCl ws H) (hD : va_D A ws) (pl : List Nat) (hpl : pl.map (fun i => ws[i]?) = wc.map some) (hnd : va_nd pl = true) (hc : vwCl[ci]? = some (C, T, N)) (he : wc[0]? = some (b, .inr (ci, fs)))
    (hn : As.length = n) (hl : ls.size = nL) (hst : st = As.reverse ++ .ref b :: rest) (hW : (rest.map fun v => v.category).sum ≤ 8) (hdg : decode cc pc = .ok (.invokevirtual idx, 3)) (hf : cells + mc ≤ R.cells ∧ slots + ms ≤ R.slots) :
    vx_Run p l e R s m args below meth c H locs cells slots mc ms (F0 m pc ls st) rest (Qc (Value.ref b :: As).toArray) XC free :=
  vx_runV (fx_fix fx) hM ⟨cb_of fx lk.1 lk.2.2.2 hrm hroom, fx.2.2.2.2.1 _ lk.2.1, fx.2.2.2.2.1 _ lk.2.2.1⟩ (preV fx hP hD pl hpl hnd hc he) rfl hn hl hst (lv_room hW) hdg hf
end RUNS
/-- the callee's cells put back among the caller's -/
def setAll : va_W → List Nat → va_W → va_W
  | ws, i :: pl, x :: xs => setAll (ws.set i x) pl xs
  | ws, _, _ => ws
theorem setAll_get : ∀ (pl : List Nat) (ws xs : va_W) (k : Nat) (x : Nat × va_E), pl.length = xs.length → (setAll ws pl xs)[k]? = some x → (∃ j : Nat, pl[j]? = some k ∧ xs[j]? = some x) ∨ (k ∉ pl ∧ ws[k]? = some x)
  | [], ws, xs, k, x, _, h => Or.inr ⟨List.not_mem_nil, by cases xs <;> exact h⟩
  | i :: pl, ws, [], k, x, hl, _ => by simp at hl
  | i :: pl, ws, x0 :: xs, k, x, hl, h => by
    have hl' : pl.length = xs.length := by simpa using hl
    rcases setAll_get pl (ws.set i x0) xs k x hl' h with ⟨j, h1, h2⟩ | ⟨h1, h2⟩
    · exact Or.inl ⟨j + 1, by simpa using h1, by simpa using h2⟩
    · by_cases hk : i = k
      · subst hk
        rw [List.getElem?_set] at h2
        simp only [if_true] at h2
        split at h2
        · exact Or.inl ⟨0, rfl, h2⟩
        · cases h2
      · rw [List.getElem?_set] at h2
        rw [if_neg hk] at h2
        exact Or.inr ⟨fun hm => by rcases List.mem_cons.mp hm with e | e; exact hk e.symm; exact h1 e, h2⟩
theorem P_join {wc xs : va_W} {H1 : Heap} (hP : va_P D vwCl ws H) (hD : va_D A ws) (pl : List Nat) (hpl : pl.map (fun i => ws[i]?) = wc.map some) (hlen : xs.length = wc.length)
    (hk : ∀ q : Nat, q < H.size → ¬ va_A wc H.size q → H1[q]? = H[q]?) (hP1 : va_P D vwCl xs H1) : va_P D vwCl (setAll ws pl xs) H1 := by
  intro k x hx
  have hl : pl.length = xs.length := by
    have h1 := congrArg List.length hpl
    simp at h1
    omega
  rcases setAll_get pl ws xs k x hl hx with ⟨j, -, h2⟩ | ⟨h1, h2⟩
  · exact hP1 j x h2
  · have hlt := (hP k x h2).lt
    refine (hP k x h2).kept (hk x.1 hlt ?_)
    rintro (⟨j, e9, h3⟩ | h3)
    · have h4 : (pl.map (fun i => ws[i]?))[j]? = some (some (x.1, e9)) := by rw [hpl, List.getElem?_map, h3]; rfl
      rw [List.getElem?_map] at h4
      cases h5 : pl[j]? with
      | none => rw [h5] at h4; cases h4
      | some i =>
        rw [h5] at h4
        have h6 : ws[i]? = some (x.1, e9) := Option.some.inj h4
        have h7 := hD.1 i k _ _ h6 h2 rfl
        exact h1 (h7 ▸ List.mem_of_getElem? h5)
    · omega
section ROWS
variable {a : Array Value} {S : Type} {wc : va_W} {C : S → va_W}
theorem kR_i {post : Int32 → S → Prop} (hr : va_Run p l e R s m args below meth c H locs cells slots 0 0 (F0 m pc ls st) rest (va_Qi post (fun _ _ => True) (fun _ => False) a) (fun _ => False)) (hP : va_P D vwCl ws H) (hS : va_S A H0 H locs)
    (kk : ∀ (r : Int32) (u : S) (H1 : Heap) (locs1 : List Loc), post r u → va_P D vwCl ws H1 → va_S A H0 H1 locs1 → W p l e R s m args below meth c H1 locs1 cells slots Q (F0 m (pc + 3) ls (.int r :: rest))) : W p l e R s m args below meth c H locs cells slots Q (F0 m pc ls st) :=
  va_calli hr hS (fun _ _ h => h.elim) (fun _ h => h.elim) (fun r u _ H1 locs1 _ _ hp _ _ hk hS1 => kk r u H1 locs1 hp (hP.kept (fun k x hx => hk x.1 ((hP k x hx).lt) (fun h => h))) hS1)
theorem kR_l {post : Int64 → S → Prop} (hr : va_Run p l e R s m args below meth c H locs cells slots 0 0 (F0 m pc ls st) rest (va_Ql post (fun _ _ => True) (fun _ => False) a) (fun _ => False)) (hP : va_P D vwCl ws H) (hS : va_S A H0 H locs)
    (kk : ∀ (r : Int64) (u : S) (H1 : Heap) (locs1 : List Loc), post r u → va_P D vwCl ws H1 → va_S A H0 H1 locs1 → W p l e R s m args below meth c H1 locs1 cells slots Q (F0 m (pc + 3) ls (.long r :: rest))) : W p l e R s m args below meth c H locs cells slots Q (F0 m pc ls st) :=
  va_calll hr hS (fun _ _ h => h.elim) (fun _ h => h.elim) (fun r u _ H1 locs1 _ _ hp _ _ hk hS1 => kk r u H1 locs1 hp (hP.kept (fun k x hx => hk x.1 ((hP k x hx).lt) (fun h => h))) hS1)
theorem kR_f {post : UInt32 → S → Prop} (hr : va_Run p l e R s m args below meth c H locs cells slots 0 0 (F0 m pc ls st) rest (va_Qf post (fun _ _ => True) (fun _ => False) a) (fun _ => False)) (hP : va_P D vwCl ws H) (hS : va_S A H0 H locs)
    (kk : ∀ (r : UInt32) (u : S) (H1 : Heap) (locs1 : List Loc), post r u → va_P D vwCl ws H1 → va_S A H0 H1 locs1 → W p l e R s m args below meth c H1 locs1 cells slots Q (F0 m (pc + 3) ls (.float r :: rest))) : W p l e R s m args below meth c H locs cells slots Q (F0 m pc ls st) :=
  va_callf hr hS (fun _ _ h => h.elim) (fun _ h => h.elim) (fun r u _ H1 locs1 _ _ hp _ _ hk hS1 => kk r u H1 locs1 hp (hP.kept (fun k x hx => hk x.1 ((hP k x hx).lt) (fun h => h))) hS1)
theorem kW_i {post : Int32 → S → Prop} (hr : va_Run p l e R s m args below meth c H locs cells slots 0 0 (F0 m pc ls st) rest (va_Qi post (fun u t => va_P D vwCl (C u) t.heap) (va_A wc H.size) a) (va_A wc H.size)) (hP : va_P D vwCl ws H) (hD : va_D A ws) (hS : va_S A H0 H locs) (hA : ∀ q, H0.size ≤ q → A q) (pl : List Nat) (hpl : pl.map (fun i => ws[i]?) = wc.map some) (hlen : ∀ u, (C u).length = wc.length)
    (kk : ∀ (r : Int32) (u : S) (H1 : Heap) (locs1 : List Loc), post r u → va_P D vwCl (setAll ws pl (C u)) H1 → va_S A H0 H1 locs1 → W p l e R s m args below meth c H1 locs1 cells slots Q (F0 m (pc + 3) ls (.int r :: rest))) : W p l e R s m args below meth c H locs cells slots Q (F0 m pc ls st) :=
  va_calli hr hS (fun q9 _ h => va_free hD hS hA pl hpl q9 h) (va_free hD hS hA pl hpl) (fun r u t H1 locs1 ht _ hp hB _ hk hS1 => kk r u H1 locs1 hp (P_join hP hD pl hpl (hlen u) hk (by rw [← ht]; exact hB)) hS1)
theorem kW_v {post : S → Prop} (hr : va_Run p l e R s m args below meth c H locs cells slots 0 0 (F0 m pc ls st) rest (va_Qv post (fun u t => va_P D vwCl (C u) t.heap) (va_A wc H.size) a) (va_A wc H.size)) (hP : va_P D vwCl ws H) (hD : va_D A ws) (hS : va_S A H0 H locs) (hA : ∀ q, H0.size ≤ q → A q) (pl : List Nat) (hpl : pl.map (fun i => ws[i]?) = wc.map some) (hlen : ∀ u, (C u).length = wc.length)
    (kk : ∀ (u : S) (H1 : Heap) (locs1 : List Loc), post u → va_P D vwCl (setAll ws pl (C u)) H1 → va_S A H0 H1 locs1 → W p l e R s m args below meth c H1 locs1 cells slots Q (F0 m (pc + 3) ls rest)) : W p l e R s m args below meth c H locs cells slots Q (F0 m pc ls st) :=
  va_callv hr hS (fun q9 _ h => va_free hD hS hA pl hpl q9 h) (va_free hD hS hA pl hpl) (fun u t H1 locs1 ht _ hp hB _ hk hS1 => kk u H1 locs1 hp (P_join hP hD pl hpl (hlen u) hk (by rw [← ht]; exact hB)) hS1)
end ROWS
section ENTER
variable {y : MethodName} {rm : Room} {av : List Value} {sz : Nat} {S : Type} {C : S → va_W}
/-- what a walk begins with -/
theorem fx_of {ret : Option FieldType} {S0 : Spec} {s₁ : State} (hy : y.cls = own) (B : BodyLoose p l y S0 cc nL ret e s m args below meth c s₁) (hS0 : S0.pre.before args s = true → ∀ w ∈ ALL, w.before args s = true) (hml : c.maxLocals = nL) (hK : KK D q s) : FX p s m args c own cc nL D q :=
  ⟨B.exec, B.bytes, hml, by rw [← hy]; exact findClass_of_methodNamed B.named, hS0 B.pre, hK⟩
theorem en_iR {post : Int32 → Prop} (hy : plainName y.cls = true) (hav : (lg_sl av).length ≤ nL)
    (body : ∀ (p : Program) (e : Env) (s : State) (m : MethodId) (args : Array Value) (below : List Frame) (meth : Method) (c : Code) (Q : State → Prop) (A : Nat → Prop) (H : Heap) (locs : List Loc) (ls : Array Slot), FX p s m args c y.cls cc nL D q → va_D (fun _ => True) ws →  va_P D vwCl ws H → va_S A s.heap H locs → lv_has ls nL (lv_args 0 av) →
      (∀ (r : Int32) (pc : Nat) (H : Heap) (locs : List Loc) (ls : Array Slot), decode cc pc = .ok (.ireturn, 1) → post r → va_S A s.heap H locs → W p l e rm s m args below meth c H locs 0 0 Q (F0 m pc ls [.int r])) →
      W p l e rm s m args below meth c H locs 0 0 Q (F0 m 0 ls [])) :
    Met l y (Cond.code y cc nL (some .int) :: ALL) rm (PC D q av ws sz) (va_Qi (fun r (_ : Unit) => post r) (fun _ _ => True) (fun _ => False)) 0 0 (fun _ => False) := by
  refine Met.ofW (cc := cc) (maxL := nL) (ret := some .int) hy rfl ?_
  intro p e s m args below meth c s₁ B hml hv
  obtain ⟨rfl, hsz, hP, hK, hD⟩ := hv
  have fx : FX p s m av.toArray c y.cls cc nL D q := fx_of rfl B (fun h w hw => atoms_spec (ws := Cond.code y cc nL (some .int) :: ALL) h w (List.mem_cons_of_mem _ hw)) hml hK
  have hl := lv_entry av hav
  rw [lg_entry_eq]
  generalize (lg_sl av ++ List.replicate (nL - (lg_sl av).length) Slot.unset).toArray = ls at hl ⊢
  exact body p e s m av.toArray below meth c _ (fun _ => False) s.heap [] ls fx hD hP va_S.rf hl (fun r pc H locs ls hdg hp hS => W.iret fx.1 fx.2.1 B.returns (fun t ht hW => ⟨⟨r, (), rfl, hp, trivial⟩, hS.F ht⟩) hS.2.2 hdg B.notSynchronized)
theorem en_zR {post : Int32 → Prop} (hy : plainName y.cls = true) (hav : (lg_sl av).length ≤ nL)
    (body : ∀ (p : Program) (e : Env) (s : State) (m : MethodId) (args : Array Value) (below : List Frame) (meth : Method) (c : Code) (Q : State → Prop) (A : Nat → Prop) (H : Heap) (locs : List Loc) (ls : Array Slot), FX p s m args c y.cls cc nL D q → va_D (fun _ => True) ws →  va_P D vwCl ws H → va_S A s.heap H locs → lv_has ls nL (lv_args 0 av) →
      (∀ (r : Int32) (pc : Nat) (H : Heap) (locs : List Loc) (ls : Array Slot), decode cc pc = .ok (.ireturn, 1) → bz r → post r → va_S A s.heap H locs → W p l e rm s m args below meth c H locs 0 0 Q (F0 m pc ls [.int r])) →
      W p l e rm s m args below meth c H locs 0 0 Q (F0 m 0 ls [])) :
    Met l y (Cond.code y cc nL (some .boolean) :: ALL) rm (PC D q av ws sz) (va_Qi (fun r (_ : Unit) => post r ∧ bz r) (fun _ _ => True) (fun _ => False)) 0 0 (fun _ => False) := by
  refine Met.ofW (cc := cc) (maxL := nL) (ret := some .boolean) hy rfl ?_
  intro p e s m args below meth c s₁ B hml hv
  obtain ⟨rfl, hsz, hP, hK, hD⟩ := hv
  have fx : FX p s m av.toArray c y.cls cc nL D q := fx_of rfl B (fun h w hw => atoms_spec (ws := Cond.code y cc nL (some .boolean) :: ALL) h w (List.mem_cons_of_mem _ hw)) hml hK
  have hl := lv_entry av hav
  rw [lg_entry_eq]
  generalize (lg_sl av ++ List.replicate (nL - (lg_sl av).length) Slot.unset).toArray = ls at hl ⊢
  exact body p e s m av.toArray below meth c _ (fun _ => False) s.heap [] ls fx hD hP va_S.rf hl (fun r pc H locs ls hdg hz hp hS => W.zret fx.1 fx.2.1 B.returns (bz_n hz) (fun t ht hW => ⟨⟨r, (), rfl, ⟨hp, hz⟩, trivial⟩, hS.F ht⟩) hS.2.2 hdg B.notSynchronized)
theorem en_lR {post : Int64 → Prop} (hy : plainName y.cls = true) (hav : (lg_sl av).length ≤ nL)
    (body : ∀ (p : Program) (e : Env) (s : State) (m : MethodId) (args : Array Value) (below : List Frame) (meth : Method) (c : Code) (Q : State → Prop) (A : Nat → Prop) (H : Heap) (locs : List Loc) (ls : Array Slot), FX p s m args c y.cls cc nL D q → va_D (fun _ => True) ws →  va_P D vwCl ws H → va_S A s.heap H locs → lv_has ls nL (lv_args 0 av) →
      (∀ (r : Int64) (pc : Nat) (H : Heap) (locs : List Loc) (ls : Array Slot), decode cc pc = .ok (.lreturn, 1) → post r → va_S A s.heap H locs → W p l e rm s m args below meth c H locs 0 0 Q (F0 m pc ls [.long r])) →
      W p l e rm s m args below meth c H locs 0 0 Q (F0 m 0 ls [])) :
    Met l y (Cond.code y cc nL (some .long) :: ALL) rm (PC D q av ws sz) (va_Ql (fun r (_ : Unit) => post r) (fun _ _ => True) (fun _ => False)) 0 0 (fun _ => False) := by
  refine Met.ofW (cc := cc) (maxL := nL) (ret := some .long) hy rfl ?_
  intro p e s m args below meth c s₁ B hml hv
  obtain ⟨rfl, hsz, hP, hK, hD⟩ := hv
  have fx : FX p s m av.toArray c y.cls cc nL D q := fx_of rfl B (fun h w hw => atoms_spec (ws := Cond.code y cc nL (some .long) :: ALL) h w (List.mem_cons_of_mem _ hw)) hml hK
  have hl := lv_entry av hav
  rw [lg_entry_eq]
  generalize (lg_sl av ++ List.replicate (nL - (lg_sl av).length) Slot.unset).toArray = ls at hl ⊢
  exact body p e s m av.toArray below meth c _ (fun _ => False) s.heap [] ls fx hD hP va_S.rf hl (fun r pc H locs ls hdg hp hS => W.lret fx.1 fx.2.1 B.returns (fun t ht hW => ⟨⟨r, (), rfl, hp, trivial⟩, hS.F ht⟩) hS.2.2 hdg B.notSynchronized)
theorem en_fR {post : UInt32 → Prop} (hy : plainName y.cls = true) (hav : (lg_sl av).length ≤ nL)
    (body : ∀ (p : Program) (e : Env) (s : State) (m : MethodId) (args : Array Value) (below : List Frame) (meth : Method) (c : Code) (Q : State → Prop) (A : Nat → Prop) (H : Heap) (locs : List Loc) (ls : Array Slot), FX p s m args c y.cls cc nL D q → va_D (fun _ => True) ws →  va_P D vwCl ws H → va_S A s.heap H locs → lv_has ls nL (lv_args 0 av) →
      (∀ (r : UInt32) (pc : Nat) (H : Heap) (locs : List Loc) (ls : Array Slot), decode cc pc = .ok (.freturn, 1) → post r → va_S A s.heap H locs → W p l e rm s m args below meth c H locs 0 0 Q (F0 m pc ls [.float r])) →
      W p l e rm s m args below meth c H locs 0 0 Q (F0 m 0 ls [])) :
    Met l y (Cond.code y cc nL (some .float) :: ALL) rm (PC D q av ws sz) (va_Qf (fun r (_ : Unit) => post r) (fun _ _ => True) (fun _ => False)) 0 0 (fun _ => False) := by
  refine Met.ofW (cc := cc) (maxL := nL) (ret := some .float) hy rfl ?_
  intro p e s m args below meth c s₁ B hml hv
  obtain ⟨rfl, hsz, hP, hK, hD⟩ := hv
  have fx : FX p s m av.toArray c y.cls cc nL D q := fx_of rfl B (fun h w hw => atoms_spec (ws := Cond.code y cc nL (some .float) :: ALL) h w (List.mem_cons_of_mem _ hw)) hml hK
  have hl := lv_entry av hav
  rw [lg_entry_eq]
  generalize (lg_sl av ++ List.replicate (nL - (lg_sl av).length) Slot.unset).toArray = ls at hl ⊢
  exact body p e s m av.toArray below meth c _ (fun _ => False) s.heap [] ls fx hD hP va_S.rf hl (fun r pc H locs ls hdg hp hS => W.fret fx.1 fx.2.1 B.returns (fun t ht hW => ⟨⟨r, (), rfl, hp, trivial⟩, hS.F ht⟩) hS.2.2 hdg B.notSynchronized)
theorem en_iW {post : Int32 → S → Prop} (hy : plainName y.cls = true) (hav : (lg_sl av).length ≤ nL)
    (body : ∀ (p : Program) (e : Env) (s : State) (m : MethodId) (args : Array Value) (below : List Frame) (meth : Method) (c : Code) (Q : State → Prop) (A : Nat → Prop) (H : Heap) (locs : List Loc) (ls : Array Slot), FX p s m args c y.cls cc nL D q → va_D A ws → (∀ a, s.heap.size ≤ a → A a) →  va_P D vwCl ws H → va_S A s.heap H locs → lv_has ls nL (lv_args 0 av) →
      (∀ (r : Int32) (u : S) (pc : Nat) (H : Heap) (locs : List Loc) (ls : Array Slot), decode cc pc = .ok (.ireturn, 1) → post r u → va_P D vwCl (C u) H → va_S A s.heap H locs → W p l e rm s m args below meth c H locs 0 0 Q (F0 m pc ls [.int r])) →
      W p l e rm s m args below meth c H locs 0 0 Q (F0 m 0 ls [])) :
    Met l y (Cond.code y cc nL (some .int) :: ALL) rm (PC D q av ws sz) (va_Qi post (fun u t => va_P D vwCl (C u) t.heap) (va_A ws sz)) 0 0 (va_A ws sz) := by
  refine Met.ofW (cc := cc) (maxL := nL) (ret := some .int) hy rfl ?_
  intro p e s m args below meth c s₁ B hml hv
  obtain ⟨rfl, hsz, hP, hK, hD⟩ := hv
  have fx : FX p s m av.toArray c y.cls cc nL D q := fx_of rfl B (fun h w hw => atoms_spec (ws := Cond.code y cc nL (some .int) :: ALL) h w (List.mem_cons_of_mem _ hw)) hml hK
  have hl := lv_entry av hav
  rw [lg_entry_eq]
  generalize (lg_sl av ++ List.replicate (nL - (lg_sl av).length) Slot.unset).toArray = ls at hl ⊢
  exact body p e s m av.toArray below meth c _ (va_A ws sz) s.heap [] ls fx hD.self (fun a h => Or.inr (hsz ▸ h)) hP va_S.rf hl (fun r u pc H locs ls hdg hp hB hS => W.iret fx.1 fx.2.1 B.returns (fun t ht hW => ⟨⟨r, u, rfl, hp, by show va_P D vwCl (C u) t.heap; rw [ht]; exact hB⟩, hS.F ht⟩) hS.2.2 hdg B.notSynchronized)
theorem en_zW {post : Int32 → S → Prop} (hy : plainName y.cls = true) (hav : (lg_sl av).length ≤ nL)
    (body : ∀ (p : Program) (e : Env) (s : State) (m : MethodId) (args : Array Value) (below : List Frame) (meth : Method) (c : Code) (Q : State → Prop) (A : Nat → Prop) (H : Heap) (locs : List Loc) (ls : Array Slot), FX p s m args c y.cls cc nL D q → va_D A ws → (∀ a, s.heap.size ≤ a → A a) →  va_P D vwCl ws H → va_S A s.heap H locs → lv_has ls nL (lv_args 0 av) →
      (∀ (r : Int32) (u : S) (pc : Nat) (H : Heap) (locs : List Loc) (ls : Array Slot), decode cc pc = .ok (.ireturn, 1) → bz r → post r u → va_P D vwCl (C u) H → va_S A s.heap H locs → W p l e rm s m args below meth c H locs 0 0 Q (F0 m pc ls [.int r])) →
      W p l e rm s m args below meth c H locs 0 0 Q (F0 m 0 ls [])) :
    Met l y (Cond.code y cc nL (some .boolean) :: ALL) rm (PC D q av ws sz) (va_Qi (fun r u => post r u ∧ bz r) (fun u t => va_P D vwCl (C u) t.heap) (va_A ws sz)) 0 0 (va_A ws sz) := by
  refine Met.ofW (cc := cc) (maxL := nL) (ret := some .boolean) hy rfl ?_
  intro p e s m args below meth c s₁ B hml hv
  obtain ⟨rfl, hsz, hP, hK, hD⟩ := hv
  have fx : FX p s m av.toArray c y.cls cc nL D q := fx_of rfl B (fun h w hw => atoms_spec (ws := Cond.code y cc nL (some .boolean) :: ALL) h w (List.mem_cons_of_mem _ hw)) hml hK
  have hl := lv_entry av hav
  rw [lg_entry_eq]
  generalize (lg_sl av ++ List.replicate (nL - (lg_sl av).length) Slot.unset).toArray = ls at hl ⊢
  exact body p e s m av.toArray below meth c _ (va_A ws sz) s.heap [] ls fx hD.self (fun a h => Or.inr (hsz ▸ h)) hP va_S.rf hl (fun r u pc H locs ls hdg hz hp hB hS => W.zret fx.1 fx.2.1 B.returns (bz_n hz) (fun t ht hW => ⟨⟨r, u, rfl, ⟨hp, hz⟩, by show va_P D vwCl (C u) t.heap; rw [ht]; exact hB⟩, hS.F ht⟩) hS.2.2 hdg B.notSynchronized)
theorem en_lW {post : Int64 → S → Prop} (hy : plainName y.cls = true) (hav : (lg_sl av).length ≤ nL)
    (body : ∀ (p : Program) (e : Env) (s : State) (m : MethodId) (args : Array Value) (below : List Frame) (meth : Method) (c : Code) (Q : State → Prop) (A : Nat → Prop) (H : Heap) (locs : List Loc) (ls : Array Slot), FX p s m args c y.cls cc nL D q → va_D A ws → (∀ a, s.heap.size ≤ a → A a) →  va_P D vwCl ws H → va_S A s.heap H locs → lv_has ls nL (lv_args 0 av) →
      (∀ (r : Int64) (u : S) (pc : Nat) (H : Heap) (locs : List Loc) (ls : Array Slot), decode cc pc = .ok (.lreturn, 1) → post r u → va_P D vwCl (C u) H → va_S A s.heap H locs → W p l e rm s m args below meth c H locs 0 0 Q (F0 m pc ls [.long r])) →
      W p l e rm s m args below meth c H locs 0 0 Q (F0 m 0 ls [])) :
    Met l y (Cond.code y cc nL (some .long) :: ALL) rm (PC D q av ws sz) (va_Ql post (fun u t => va_P D vwCl (C u) t.heap) (va_A ws sz)) 0 0 (va_A ws sz) := by
  refine Met.ofW (cc := cc) (maxL := nL) (ret := some .long) hy rfl ?_
  intro p e s m args below meth c s₁ B hml hv
  obtain ⟨rfl, hsz, hP, hK, hD⟩ := hv
  have fx : FX p s m av.toArray c y.cls cc nL D q := fx_of rfl B (fun h w hw => atoms_spec (ws := Cond.code y cc nL (some .long) :: ALL) h w (List.mem_cons_of_mem _ hw)) hml hK
  have hl := lv_entry av hav
  rw [lg_entry_eq]
  generalize (lg_sl av ++ List.replicate (nL - (lg_sl av).length) Slot.unset).toArray = ls at hl ⊢
  exact body p e s m av.toArray below meth c _ (va_A ws sz) s.heap [] ls fx hD.self (fun a h => Or.inr (hsz ▸ h)) hP va_S.rf hl (fun r u pc H locs ls hdg hp hB hS => W.lret fx.1 fx.2.1 B.returns (fun t ht hW => ⟨⟨r, u, rfl, hp, by show va_P D vwCl (C u) t.heap; rw [ht]; exact hB⟩, hS.F ht⟩) hS.2.2 hdg B.notSynchronized)
theorem en_fW {post : UInt32 → S → Prop} (hy : plainName y.cls = true) (hav : (lg_sl av).length ≤ nL)
    (body : ∀ (p : Program) (e : Env) (s : State) (m : MethodId) (args : Array Value) (below : List Frame) (meth : Method) (c : Code) (Q : State → Prop) (A : Nat → Prop) (H : Heap) (locs : List Loc) (ls : Array Slot), FX p s m args c y.cls cc nL D q → va_D A ws → (∀ a, s.heap.size ≤ a → A a) →  va_P D vwCl ws H → va_S A s.heap H locs → lv_has ls nL (lv_args 0 av) →
      (∀ (r : UInt32) (u : S) (pc : Nat) (H : Heap) (locs : List Loc) (ls : Array Slot), decode cc pc = .ok (.freturn, 1) → post r u → va_P D vwCl (C u) H → va_S A s.heap H locs → W p l e rm s m args below meth c H locs 0 0 Q (F0 m pc ls [.float r])) →
      W p l e rm s m args below meth c H locs 0 0 Q (F0 m 0 ls [])) :
    Met l y (Cond.code y cc nL (some .float) :: ALL) rm (PC D q av ws sz) (va_Qf post (fun u t => va_P D vwCl (C u) t.heap) (va_A ws sz)) 0 0 (va_A ws sz) := by
  refine Met.ofW (cc := cc) (maxL := nL) (ret := some .float) hy rfl ?_
  intro p e s m args below meth c s₁ B hml hv
  obtain ⟨rfl, hsz, hP, hK, hD⟩ := hv
  have fx : FX p s m av.toArray c y.cls cc nL D q := fx_of rfl B (fun h w hw => atoms_spec (ws := Cond.code y cc nL (some .float) :: ALL) h w (List.mem_cons_of_mem _ hw)) hml hK
  have hl := lv_entry av hav
  rw [lg_entry_eq]
  generalize (lg_sl av ++ List.replicate (nL - (lg_sl av).length) Slot.unset).toArray = ls at hl ⊢
  exact body p e s m av.toArray below meth c _ (va_A ws sz) s.heap [] ls fx hD.self (fun a h => Or.inr (hsz ▸ h)) hP va_S.rf hl (fun r u pc H locs ls hdg hp hB hS => W.fret fx.1 fx.2.1 B.returns (fun t ht hW => ⟨⟨r, u, rfl, hp, by show va_P D vwCl (C u) t.heap; rw [ht]; exact hB⟩, hS.F ht⟩) hS.2.2 hdg B.notSynchronized)
theorem en_vW {post : S → Prop} (hy : plainName y.cls = true) (hav : (lg_sl av).length ≤ nL)
    (body : ∀ (p : Program) (e : Env) (s : State) (m : MethodId) (args : Array Value) (below : List Frame) (meth : Method) (c : Code) (Q : State → Prop) (A : Nat → Prop) (H : Heap) (locs : List Loc) (ls : Array Slot), FX p s m args c y.cls cc nL D q → va_D A ws → (∀ a, s.heap.size ≤ a → A a) →  va_P D vwCl ws H → va_S A s.heap H locs → lv_has ls nL (lv_args 0 av) →
      (∀ (u : S) (pc : Nat) (H : Heap) (locs : List Loc) (ls : Array Slot), decode cc pc = .ok (.return_, 1) → post u → va_P D vwCl (C u) H → va_S A s.heap H locs → W p l e rm s m args below meth c H locs 0 0 Q (F0 m pc ls [])) →
      W p l e rm s m args below meth c H locs 0 0 Q (F0 m 0 ls [])) :
    Met l y (Cond.code y cc nL (none) :: ALL) rm (PC D q av ws sz) (va_Qv post (fun u t => va_P D vwCl (C u) t.heap) (va_A ws sz)) 0 0 (va_A ws sz) := by
  refine Met.ofW (cc := cc) (maxL := nL) (ret := none) hy rfl ?_
  intro p e s m args below meth c s₁ B hml hv
  obtain ⟨rfl, hsz, hP, hK, hD⟩ := hv
  have fx : FX p s m av.toArray c y.cls cc nL D q := fx_of rfl B (fun h w hw => atoms_spec (ws := Cond.code y cc nL (none) :: ALL) h w (List.mem_cons_of_mem _ hw)) hml hK
  have hl := lv_entry av hav
  rw [lg_entry_eq]
  generalize (lg_sl av ++ List.replicate (nL - (lg_sl av).length) Slot.unset).toArray = ls at hl ⊢
  exact body p e s m av.toArray below meth c _ (va_A ws sz) s.heap [] ls fx hD.self (fun a h => Or.inr (hsz ▸ h)) hP va_S.rf hl (fun u pc H locs ls hdg hp hB hS => W.vret fx.1 fx.2.1 B.returns (fun t ht hW => ⟨⟨u, rfl, hp, by show va_P D vwCl (C u) t.heap; rw [ht]; exact hB⟩, hS.F ht⟩) hS.2.2 hdg B.notSynchronized)
end ENTER
end BASE
end
section
/-! The state of the objects, as tuples: X Kickroom, W Well, R Rock, T Tests, M KickroomModel; what each holds by its name, and how one is changed. -/
abbrev XS : Type := Int32 × Int32 × Int32 × Int32
def X_stops (z : XS) : Int32 := z.1
def X_pumped (z : XS) : Int32 := z.2.1
def X_latestPumpedWeight (z : XS) : Int32 := z.2.2.1
def X_cement (z : XS) : Int32 := z.2.2.2
def X_set_stops (z : XS) (y : Int32) : XS := (y, z.2.1, z.2.2.1, z.2.2.2)
def X_set_pumped (z : XS) (y : Int32) : XS := (z.1, y, z.2.2.1, z.2.2.2)
def X_set_latestPumpedWeight (z : XS) (y : Int32) : XS := (z.1, z.2.1, y, z.2.2.2)
def X_set_cement (z : XS) (y : Int32) : XS := (z.1, z.2.1, z.2.2.1, y)
theorem X_stops_set_stops (z : XS) (y : Int32) : X_stops (X_set_stops z y) = y := rfl
theorem X_stops_set_pumped (z : XS) (y : Int32) : X_stops (X_set_pumped z y) = X_stops z := rfl
theorem X_stops_set_latestPumpedWeight (z : XS) (y : Int32) : X_stops (X_set_latestPumpedWeight z y) = X_stops z := rfl
theorem X_stops_set_cement (z : XS) (y : Int32) : X_stops (X_set_cement z y) = X_stops z := rfl
theorem X_pumped_set_stops (z : XS) (y : Int32) : X_pumped (X_set_stops z y) = X_pumped z := rfl
theorem X_pumped_set_pumped (z : XS) (y : Int32) : X_pumped (X_set_pumped z y) = y := rfl
theorem X_pumped_set_latestPumpedWeight (z : XS) (y : Int32) : X_pumped (X_set_latestPumpedWeight z y) = X_pumped z := rfl
theorem X_pumped_set_cement (z : XS) (y : Int32) : X_pumped (X_set_cement z y) = X_pumped z := rfl
theorem X_latestPumpedWeight_set_stops (z : XS) (y : Int32) : X_latestPumpedWeight (X_set_stops z y) = X_latestPumpedWeight z := rfl
theorem X_latestPumpedWeight_set_pumped (z : XS) (y : Int32) : X_latestPumpedWeight (X_set_pumped z y) = X_latestPumpedWeight z := rfl
theorem X_latestPumpedWeight_set_latestPumpedWeight (z : XS) (y : Int32) : X_latestPumpedWeight (X_set_latestPumpedWeight z y) = y := rfl
theorem X_latestPumpedWeight_set_cement (z : XS) (y : Int32) : X_latestPumpedWeight (X_set_cement z y) = X_latestPumpedWeight z := rfl
theorem X_cement_set_stops (z : XS) (y : Int32) : X_cement (X_set_stops z y) = X_cement z := rfl
theorem X_cement_set_pumped (z : XS) (y : Int32) : X_cement (X_set_pumped z y) = X_cement z := rfl
theorem X_cement_set_latestPumpedWeight (z : XS) (y : Int32) : X_cement (X_set_latestPumpedWeight z y) = X_cement z := rfl
theorem X_cement_set_cement (z : XS) (y : Int32) : X_cement (X_set_cement z y) = y := rfl
abbrev WS : Type := Int32 × Int32 × Int32 × Int32 × Int32 × Int32 × Int32 × Int64 × Int32 × Int32 × Int32 × Int64 × Int32 × Int32
def W_depth (z : WS) : Int32 := z.1
def W_shoe (z : WS) : Int32 := z.2.1
def W_weight (z : WS) : Int32 := z.2.2.1
def W_isClosed (z : WS) : Int32 := z.2.2.2.1
def W_choke (z : WS) : Int32 := z.2.2.2.2.1
def W_valveStrength (z : WS) : Int32 := z.2.2.2.2.2.1
def W_hasBrokenSinceTest (z : WS) : Int32 := z.2.2.2.2.2.2.1
def W_charge (z : WS) : Int64 := z.2.2.2.2.2.2.2.1
def W_place (z : WS) : Int32 := z.2.2.2.2.2.2.2.2.1
def W_gas (z : WS) : Int32 := z.2.2.2.2.2.2.2.2.2.1
def W_liquid (z : WS) : Int32 := z.2.2.2.2.2.2.2.2.2.2.1
def W_vented (z : WS) : Int64 := z.2.2.2.2.2.2.2.2.2.2.2.1
def W_lost (z : WS) : Int32 := z.2.2.2.2.2.2.2.2.2.2.2.2.1
def W_minutes (z : WS) : Int32 := z.2.2.2.2.2.2.2.2.2.2.2.2.2
def W_set_depth (z : WS) (y : Int32) : WS := (y, z.2.1, z.2.2.1, z.2.2.2.1, z.2.2.2.2.1, z.2.2.2.2.2.1, z.2.2.2.2.2.2.1, z.2.2.2.2.2.2.2.1, z.2.2.2.2.2.2.2.2.1, z.2.2.2.2.2.2.2.2.2.1, z.2.2.2.2.2.2.2.2.2.2.1, z.2.2.2.2.2.2.2.2.2.2.2.1, z.2.2.2.2.2.2.2.2.2.2.2.2.1, z.2.2.2.2.2.2.2.2.2.2.2.2.2)
def W_set_shoe (z : WS) (y : Int32) : WS := (z.1, y, z.2.2.1, z.2.2.2.1, z.2.2.2.2.1, z.2.2.2.2.2.1, z.2.2.2.2.2.2.1, z.2.2.2.2.2.2.2.1, z.2.2.2.2.2.2.2.2.1, z.2.2.2.2.2.2.2.2.2.1, z.2.2.2.2.2.2.2.2.2.2.1, z.2.2.2.2.2.2.2.2.2.2.2.1, z.2.2.2.2.2.2.2.2.2.2.2.2.1, z.2.2.2.2.2.2.2.2.2.2.2.2.2)
def W_set_weight (z : WS) (y : Int32) : WS := (z.1, z.2.1, y, z.2.2.2.1, z.2.2.2.2.1, z.2.2.2.2.2.1, z.2.2.2.2.2.2.1, z.2.2.2.2.2.2.2.1, z.2.2.2.2.2.2.2.2.1, z.2.2.2.2.2.2.2.2.2.1, z.2.2.2.2.2.2.2.2.2.2.1, z.2.2.2.2.2.2.2.2.2.2.2.1, z.2.2.2.2.2.2.2.2.2.2.2.2.1, z.2.2.2.2.2.2.2.2.2.2.2.2.2)
def W_set_isClosed (z : WS) (y : Int32) : WS := (z.1, z.2.1, z.2.2.1, y, z.2.2.2.2.1, z.2.2.2.2.2.1, z.2.2.2.2.2.2.1, z.2.2.2.2.2.2.2.1, z.2.2.2.2.2.2.2.2.1, z.2.2.2.2.2.2.2.2.2.1, z.2.2.2.2.2.2.2.2.2.2.1, z.2.2.2.2.2.2.2.2.2.2.2.1, z.2.2.2.2.2.2.2.2.2.2.2.2.1, z.2.2.2.2.2.2.2.2.2.2.2.2.2)
def W_set_choke (z : WS) (y : Int32) : WS := (z.1, z.2.1, z.2.2.1, z.2.2.2.1, y, z.2.2.2.2.2.1, z.2.2.2.2.2.2.1, z.2.2.2.2.2.2.2.1, z.2.2.2.2.2.2.2.2.1, z.2.2.2.2.2.2.2.2.2.1, z.2.2.2.2.2.2.2.2.2.2.1, z.2.2.2.2.2.2.2.2.2.2.2.1, z.2.2.2.2.2.2.2.2.2.2.2.2.1, z.2.2.2.2.2.2.2.2.2.2.2.2.2)
def W_set_valveStrength (z : WS) (y : Int32) : WS := (z.1, z.2.1, z.2.2.1, z.2.2.2.1, z.2.2.2.2.1, y, z.2.2.2.2.2.2.1, z.2.2.2.2.2.2.2.1, z.2.2.2.2.2.2.2.2.1, z.2.2.2.2.2.2.2.2.2.1, z.2.2.2.2.2.2.2.2.2.2.1, z.2.2.2.2.2.2.2.2.2.2.2.1, z.2.2.2.2.2.2.2.2.2.2.2.2.1, z.2.2.2.2.2.2.2.2.2.2.2.2.2)
def W_set_hasBrokenSinceTest (z : WS) (y : Int32) : WS := (z.1, z.2.1, z.2.2.1, z.2.2.2.1, z.2.2.2.2.1, z.2.2.2.2.2.1, y, z.2.2.2.2.2.2.2.1, z.2.2.2.2.2.2.2.2.1, z.2.2.2.2.2.2.2.2.2.1, z.2.2.2.2.2.2.2.2.2.2.1, z.2.2.2.2.2.2.2.2.2.2.2.1, z.2.2.2.2.2.2.2.2.2.2.2.2.1, z.2.2.2.2.2.2.2.2.2.2.2.2.2)
def W_set_charge (z : WS) (y : Int64) : WS := (z.1, z.2.1, z.2.2.1, z.2.2.2.1, z.2.2.2.2.1, z.2.2.2.2.2.1, z.2.2.2.2.2.2.1, y, z.2.2.2.2.2.2.2.2.1, z.2.2.2.2.2.2.2.2.2.1, z.2.2.2.2.2.2.2.2.2.2.1, z.2.2.2.2.2.2.2.2.2.2.2.1, z.2.2.2.2.2.2.2.2.2.2.2.2.1, z.2.2.2.2.2.2.2.2.2.2.2.2.2)
def W_set_place (z : WS) (y : Int32) : WS := (z.1, z.2.1, z.2.2.1, z.2.2.2.1, z.2.2.2.2.1, z.2.2.2.2.2.1, z.2.2.2.2.2.2.1, z.2.2.2.2.2.2.2.1, y, z.2.2.2.2.2.2.2.2.2.1, z.2.2.2.2.2.2.2.2.2.2.1, z.2.2.2.2.2.2.2.2.2.2.2.1, z.2.2.2.2.2.2.2.2.2.2.2.2.1, z.2.2.2.2.2.2.2.2.2.2.2.2.2)
def W_set_gas (z : WS) (y : Int32) : WS := (z.1, z.2.1, z.2.2.1, z.2.2.2.1, z.2.2.2.2.1, z.2.2.2.2.2.1, z.2.2.2.2.2.2.1, z.2.2.2.2.2.2.2.1, z.2.2.2.2.2.2.2.2.1, y, z.2.2.2.2.2.2.2.2.2.2.1, z.2.2.2.2.2.2.2.2.2.2.2.1, z.2.2.2.2.2.2.2.2.2.2.2.2.1, z.2.2.2.2.2.2.2.2.2.2.2.2.2)
def W_set_liquid (z : WS) (y : Int32) : WS := (z.1, z.2.1, z.2.2.1, z.2.2.2.1, z.2.2.2.2.1, z.2.2.2.2.2.1, z.2.2.2.2.2.2.1, z.2.2.2.2.2.2.2.1, z.2.2.2.2.2.2.2.2.1, z.2.2.2.2.2.2.2.2.2.1, y, z.2.2.2.2.2.2.2.2.2.2.2.1, z.2.2.2.2.2.2.2.2.2.2.2.2.1, z.2.2.2.2.2.2.2.2.2.2.2.2.2)
def W_set_vented (z : WS) (y : Int64) : WS := (z.1, z.2.1, z.2.2.1, z.2.2.2.1, z.2.2.2.2.1, z.2.2.2.2.2.1, z.2.2.2.2.2.2.1, z.2.2.2.2.2.2.2.1, z.2.2.2.2.2.2.2.2.1, z.2.2.2.2.2.2.2.2.2.1, z.2.2.2.2.2.2.2.2.2.2.1, y, z.2.2.2.2.2.2.2.2.2.2.2.2.1, z.2.2.2.2.2.2.2.2.2.2.2.2.2)
def W_set_lost (z : WS) (y : Int32) : WS := (z.1, z.2.1, z.2.2.1, z.2.2.2.1, z.2.2.2.2.1, z.2.2.2.2.2.1, z.2.2.2.2.2.2.1, z.2.2.2.2.2.2.2.1, z.2.2.2.2.2.2.2.2.1, z.2.2.2.2.2.2.2.2.2.1, z.2.2.2.2.2.2.2.2.2.2.1, z.2.2.2.2.2.2.2.2.2.2.2.1, y, z.2.2.2.2.2.2.2.2.2.2.2.2.2)
def W_set_minutes (z : WS) (y : Int32) : WS := (z.1, z.2.1, z.2.2.1, z.2.2.2.1, z.2.2.2.2.1, z.2.2.2.2.2.1, z.2.2.2.2.2.2.1, z.2.2.2.2.2.2.2.1, z.2.2.2.2.2.2.2.2.1, z.2.2.2.2.2.2.2.2.2.1, z.2.2.2.2.2.2.2.2.2.2.1, z.2.2.2.2.2.2.2.2.2.2.2.1, z.2.2.2.2.2.2.2.2.2.2.2.2.1, y)
theorem W_depth_set_depth (z : WS) (y : Int32) : W_depth (W_set_depth z y) = y := rfl
theorem W_depth_set_shoe (z : WS) (y : Int32) : W_depth (W_set_shoe z y) = W_depth z := rfl
theorem W_depth_set_weight (z : WS) (y : Int32) : W_depth (W_set_weight z y) = W_depth z := rfl
theorem W_depth_set_isClosed (z : WS) (y : Int32) : W_depth (W_set_isClosed z y) = W_depth z := rfl
theorem W_depth_set_choke (z : WS) (y : Int32) : W_depth (W_set_choke z y) = W_depth z := rfl
theorem W_depth_set_valveStrength (z : WS) (y : Int32) : W_depth (W_set_valveStrength z y) = W_depth z := rfl
theorem W_depth_set_hasBrokenSinceTest (z : WS) (y : Int32) : W_depth (W_set_hasBrokenSinceTest z y) = W_depth z := rfl
theorem W_depth_set_charge (z : WS) (y : Int64) : W_depth (W_set_charge z y) = W_depth z := rfl
theorem W_depth_set_place (z : WS) (y : Int32) : W_depth (W_set_place z y) = W_depth z := rfl
theorem W_depth_set_gas (z : WS) (y : Int32) : W_depth (W_set_gas z y) = W_depth z := rfl
theorem W_depth_set_liquid (z : WS) (y : Int32) : W_depth (W_set_liquid z y) = W_depth z := rfl
theorem W_depth_set_vented (z : WS) (y : Int64) : W_depth (W_set_vented z y) = W_depth z := rfl
theorem W_depth_set_lost (z : WS) (y : Int32) : W_depth (W_set_lost z y) = W_depth z := rfl
theorem W_depth_set_minutes (z : WS) (y : Int32) : W_depth (W_set_minutes z y) = W_depth z := rfl
theorem W_shoe_set_depth (z : WS) (y : Int32) : W_shoe (W_set_depth z y) = W_shoe z := rfl
theorem W_shoe_set_shoe (z : WS) (y : Int32) : W_shoe (W_set_shoe z y) = y := rfl
theorem W_shoe_set_weight (z : WS) (y : Int32) : W_shoe (W_set_weight z y) = W_shoe z := rfl
theorem W_shoe_set_isClosed (z : WS) (y : Int32) : W_shoe (W_set_isClosed z y) = W_shoe z := rfl
theorem W_shoe_set_choke (z : WS) (y : Int32) : W_shoe (W_set_choke z y) = W_shoe z := rfl
theorem W_shoe_set_valveStrength (z : WS) (y : Int32) : W_shoe (W_set_valveStrength z y) = W_shoe z := rfl
theorem W_shoe_set_hasBrokenSinceTest (z : WS) (y : Int32) : W_shoe (W_set_hasBrokenSinceTest z y) = W_shoe z := rfl
theorem W_shoe_set_charge (z : WS) (y : Int64) : W_shoe (W_set_charge z y) = W_shoe z := rfl
theorem W_shoe_set_place (z : WS) (y : Int32) : W_shoe (W_set_place z y) = W_shoe z := rfl
theorem W_shoe_set_gas (z : WS) (y : Int32) : W_shoe (W_set_gas z y) = W_shoe z := rfl
theorem W_shoe_set_liquid (z : WS) (y : Int32) : W_shoe (W_set_liquid z y) = W_shoe z := rfl
theorem W_shoe_set_vented (z : WS) (y : Int64) : W_shoe (W_set_vented z y) = W_shoe z := rfl
theorem W_shoe_set_lost (z : WS) (y : Int32) : W_shoe (W_set_lost z y) = W_shoe z := rfl
theorem W_shoe_set_minutes (z : WS) (y : Int32) : W_shoe (W_set_minutes z y) = W_shoe z := rfl
theorem W_weight_set_depth (z : WS) (y : Int32) : W_weight (W_set_depth z y) = W_weight z := rfl
theorem W_weight_set_shoe (z : WS) (y : Int32) : W_weight (W_set_shoe z y) = W_weight z := rfl
theorem W_weight_set_weight (z : WS) (y : Int32) : W_weight (W_set_weight z y) = y := rfl
theorem W_weight_set_isClosed (z : WS) (y : Int32) : W_weight (W_set_isClosed z y) = W_weight z := rfl
theorem W_weight_set_choke (z : WS) (y : Int32) : W_weight (W_set_choke z y) = W_weight z := rfl
theorem W_weight_set_valveStrength (z : WS) (y : Int32) : W_weight (W_set_valveStrength z y) = W_weight z := rfl
theorem W_weight_set_hasBrokenSinceTest (z : WS) (y : Int32) : W_weight (W_set_hasBrokenSinceTest z y) = W_weight z := rfl
theorem W_weight_set_charge (z : WS) (y : Int64) : W_weight (W_set_charge z y) = W_weight z := rfl
theorem W_weight_set_place (z : WS) (y : Int32) : W_weight (W_set_place z y) = W_weight z := rfl
theorem W_weight_set_gas (z : WS) (y : Int32) : W_weight (W_set_gas z y) = W_weight z := rfl
theorem W_weight_set_liquid (z : WS) (y : Int32) : W_weight (W_set_liquid z y) = W_weight z := rfl
theorem W_weight_set_vented (z : WS) (y : Int64) : W_weight (W_set_vented z y) = W_weight z := rfl
theorem W_weight_set_lost (z : WS) (y : Int32) : W_weight (W_set_lost z y) = W_weight z := rfl
theorem W_weight_set_minutes (z : WS) (y : Int32) : W_weight (W_set_minutes z y) = W_weight z := rfl
theorem W_isClosed_set_depth (z : WS) (y : Int32) : W_isClosed (W_set_depth z y) = W_isClosed z := rfl
theorem W_isClosed_set_shoe (z : WS) (y : Int32) : W_isClosed (W_set_shoe z y) = W_isClosed z := rfl
theorem W_isClosed_set_weight (z : WS) (y : Int32) : W_isClosed (W_set_weight z y) = W_isClosed z := rfl
theorem W_isClosed_set_isClosed (z : WS) (y : Int32) : W_isClosed (W_set_isClosed z y) = y := rfl
theorem W_isClosed_set_choke (z : WS) (y : Int32) : W_isClosed (W_set_choke z y) = W_isClosed z := rfl
theorem W_isClosed_set_valveStrength (z : WS) (y : Int32) : W_isClosed (W_set_valveStrength z y) = W_isClosed z := rfl
theorem W_isClosed_set_hasBrokenSinceTest (z : WS) (y : Int32) : W_isClosed (W_set_hasBrokenSinceTest z y) = W_isClosed z := rfl
theorem W_isClosed_set_charge (z : WS) (y : Int64) : W_isClosed (W_set_charge z y) = W_isClosed z := rfl
theorem W_isClosed_set_place (z : WS) (y : Int32) : W_isClosed (W_set_place z y) = W_isClosed z := rfl
theorem W_isClosed_set_gas (z : WS) (y : Int32) : W_isClosed (W_set_gas z y) = W_isClosed z := rfl
theorem W_isClosed_set_liquid (z : WS) (y : Int32) : W_isClosed (W_set_liquid z y) = W_isClosed z := rfl
theorem W_isClosed_set_vented (z : WS) (y : Int64) : W_isClosed (W_set_vented z y) = W_isClosed z := rfl
theorem W_isClosed_set_lost (z : WS) (y : Int32) : W_isClosed (W_set_lost z y) = W_isClosed z := rfl
theorem W_isClosed_set_minutes (z : WS) (y : Int32) : W_isClosed (W_set_minutes z y) = W_isClosed z := rfl
theorem W_choke_set_depth (z : WS) (y : Int32) : W_choke (W_set_depth z y) = W_choke z := rfl
theorem W_choke_set_shoe (z : WS) (y : Int32) : W_choke (W_set_shoe z y) = W_choke z := rfl
theorem W_choke_set_weight (z : WS) (y : Int32) : W_choke (W_set_weight z y) = W_choke z := rfl
theorem W_choke_set_isClosed (z : WS) (y : Int32) : W_choke (W_set_isClosed z y) = W_choke z := rfl
theorem W_choke_set_choke (z : WS) (y : Int32) : W_choke (W_set_choke z y) = y := rfl
theorem W_choke_set_valveStrength (z : WS) (y : Int32) : W_choke (W_set_valveStrength z y) = W_choke z := rfl
theorem W_choke_set_hasBrokenSinceTest (z : WS) (y : Int32) : W_choke (W_set_hasBrokenSinceTest z y) = W_choke z := rfl
theorem W_choke_set_charge (z : WS) (y : Int64) : W_choke (W_set_charge z y) = W_choke z := rfl
theorem W_choke_set_place (z : WS) (y : Int32) : W_choke (W_set_place z y) = W_choke z := rfl
theorem W_choke_set_gas (z : WS) (y : Int32) : W_choke (W_set_gas z y) = W_choke z := rfl
theorem W_choke_set_liquid (z : WS) (y : Int32) : W_choke (W_set_liquid z y) = W_choke z := rfl
theorem W_choke_set_vented (z : WS) (y : Int64) : W_choke (W_set_vented z y) = W_choke z := rfl
theorem W_choke_set_lost (z : WS) (y : Int32) : W_choke (W_set_lost z y) = W_choke z := rfl
theorem W_choke_set_minutes (z : WS) (y : Int32) : W_choke (W_set_minutes z y) = W_choke z := rfl
theorem W_valveStrength_set_depth (z : WS) (y : Int32) : W_valveStrength (W_set_depth z y) = W_valveStrength z := rfl
theorem W_valveStrength_set_shoe (z : WS) (y : Int32) : W_valveStrength (W_set_shoe z y) = W_valveStrength z := rfl
theorem W_valveStrength_set_weight (z : WS) (y : Int32) : W_valveStrength (W_set_weight z y) = W_valveStrength z := rfl
theorem W_valveStrength_set_isClosed (z : WS) (y : Int32) : W_valveStrength (W_set_isClosed z y) = W_valveStrength z := rfl
theorem W_valveStrength_set_choke (z : WS) (y : Int32) : W_valveStrength (W_set_choke z y) = W_valveStrength z := rfl
theorem W_valveStrength_set_valveStrength (z : WS) (y : Int32) : W_valveStrength (W_set_valveStrength z y) = y := rfl
theorem W_valveStrength_set_hasBrokenSinceTest (z : WS) (y : Int32) : W_valveStrength (W_set_hasBrokenSinceTest z y) = W_valveStrength z := rfl
theorem W_valveStrength_set_charge (z : WS) (y : Int64) : W_valveStrength (W_set_charge z y) = W_valveStrength z := rfl
theorem W_valveStrength_set_place (z : WS) (y : Int32) : W_valveStrength (W_set_place z y) = W_valveStrength z := rfl
theorem W_valveStrength_set_gas (z : WS) (y : Int32) : W_valveStrength (W_set_gas z y) = W_valveStrength z := rfl
theorem W_valveStrength_set_liquid (z : WS) (y : Int32) : W_valveStrength (W_set_liquid z y) = W_valveStrength z := rfl
theorem W_valveStrength_set_vented (z : WS) (y : Int64) : W_valveStrength (W_set_vented z y) = W_valveStrength z := rfl
theorem W_valveStrength_set_lost (z : WS) (y : Int32) : W_valveStrength (W_set_lost z y) = W_valveStrength z := rfl
theorem W_valveStrength_set_minutes (z : WS) (y : Int32) : W_valveStrength (W_set_minutes z y) = W_valveStrength z := rfl
theorem W_hasBrokenSinceTest_set_depth (z : WS) (y : Int32) : W_hasBrokenSinceTest (W_set_depth z y) = W_hasBrokenSinceTest z := rfl
theorem W_hasBrokenSinceTest_set_shoe (z : WS) (y : Int32) : W_hasBrokenSinceTest (W_set_shoe z y) = W_hasBrokenSinceTest z := rfl
theorem W_hasBrokenSinceTest_set_weight (z : WS) (y : Int32) : W_hasBrokenSinceTest (W_set_weight z y) = W_hasBrokenSinceTest z := rfl
theorem W_hasBrokenSinceTest_set_isClosed (z : WS) (y : Int32) : W_hasBrokenSinceTest (W_set_isClosed z y) = W_hasBrokenSinceTest z := rfl
theorem W_hasBrokenSinceTest_set_choke (z : WS) (y : Int32) : W_hasBrokenSinceTest (W_set_choke z y) = W_hasBrokenSinceTest z := rfl
theorem W_hasBrokenSinceTest_set_valveStrength (z : WS) (y : Int32) : W_hasBrokenSinceTest (W_set_valveStrength z y) = W_hasBrokenSinceTest z := rfl
theorem W_hasBrokenSinceTest_set_hasBrokenSinceTest (z : WS) (y : Int32) : W_hasBrokenSinceTest (W_set_hasBrokenSinceTest z y) = y := rfl
theorem W_hasBrokenSinceTest_set_charge (z : WS) (y : Int64) : W_hasBrokenSinceTest (W_set_charge z y) = W_hasBrokenSinceTest z := rfl
theorem W_hasBrokenSinceTest_set_place (z : WS) (y : Int32) : W_hasBrokenSinceTest (W_set_place z y) = W_hasBrokenSinceTest z := rfl
theorem W_hasBrokenSinceTest_set_gas (z : WS) (y : Int32) : W_hasBrokenSinceTest (W_set_gas z y) = W_hasBrokenSinceTest z := rfl
theorem W_hasBrokenSinceTest_set_liquid (z : WS) (y : Int32) : W_hasBrokenSinceTest (W_set_liquid z y) = W_hasBrokenSinceTest z := rfl
theorem W_hasBrokenSinceTest_set_vented (z : WS) (y : Int64) : W_hasBrokenSinceTest (W_set_vented z y) = W_hasBrokenSinceTest z := rfl
theorem W_hasBrokenSinceTest_set_lost (z : WS) (y : Int32) : W_hasBrokenSinceTest (W_set_lost z y) = W_hasBrokenSinceTest z := rfl
theorem W_hasBrokenSinceTest_set_minutes (z : WS) (y : Int32) : W_hasBrokenSinceTest (W_set_minutes z y) = W_hasBrokenSinceTest z := rfl
theorem W_charge_set_depth (z : WS) (y : Int32) : W_charge (W_set_depth z y) = W_charge z := rfl
theorem W_charge_set_shoe (z : WS) (y : Int32) : W_charge (W_set_shoe z y) = W_charge z := rfl
theorem W_charge_set_weight (z : WS) (y : Int32) : W_charge (W_set_weight z y) = W_charge z := rfl
theorem W_charge_set_isClosed (z : WS) (y : Int32) : W_charge (W_set_isClosed z y) = W_charge z := rfl
theorem W_charge_set_choke (z : WS) (y : Int32) : W_charge (W_set_choke z y) = W_charge z := rfl
theorem W_charge_set_valveStrength (z : WS) (y : Int32) : W_charge (W_set_valveStrength z y) = W_charge z := rfl
theorem W_charge_set_hasBrokenSinceTest (z : WS) (y : Int32) : W_charge (W_set_hasBrokenSinceTest z y) = W_charge z := rfl
theorem W_charge_set_charge (z : WS) (y : Int64) : W_charge (W_set_charge z y) = y := rfl
theorem W_charge_set_place (z : WS) (y : Int32) : W_charge (W_set_place z y) = W_charge z := rfl
theorem W_charge_set_gas (z : WS) (y : Int32) : W_charge (W_set_gas z y) = W_charge z := rfl
theorem W_charge_set_liquid (z : WS) (y : Int32) : W_charge (W_set_liquid z y) = W_charge z := rfl
theorem W_charge_set_vented (z : WS) (y : Int64) : W_charge (W_set_vented z y) = W_charge z := rfl
theorem W_charge_set_lost (z : WS) (y : Int32) : W_charge (W_set_lost z y) = W_charge z := rfl
theorem W_charge_set_minutes (z : WS) (y : Int32) : W_charge (W_set_minutes z y) = W_charge z := rfl
theorem W_place_set_depth (z : WS) (y : Int32) : W_place (W_set_depth z y) = W_place z := rfl
theorem W_place_set_shoe (z : WS) (y : Int32) : W_place (W_set_shoe z y) = W_place z := rfl
theorem W_place_set_weight (z : WS) (y : Int32) : W_place (W_set_weight z y) = W_place z := rfl
theorem W_place_set_isClosed (z : WS) (y : Int32) : W_place (W_set_isClosed z y) = W_place z := rfl
theorem W_place_set_choke (z : WS) (y : Int32) : W_place (W_set_choke z y) = W_place z := rfl
theorem W_place_set_valveStrength (z : WS) (y : Int32) : W_place (W_set_valveStrength z y) = W_place z := rfl
theorem W_place_set_hasBrokenSinceTest (z : WS) (y : Int32) : W_place (W_set_hasBrokenSinceTest z y) = W_place z := rfl
theorem W_place_set_charge (z : WS) (y : Int64) : W_place (W_set_charge z y) = W_place z := rfl
theorem W_place_set_place (z : WS) (y : Int32) : W_place (W_set_place z y) = y := rfl
theorem W_place_set_gas (z : WS) (y : Int32) : W_place (W_set_gas z y) = W_place z := rfl
theorem W_place_set_liquid (z : WS) (y : Int32) : W_place (W_set_liquid z y) = W_place z := rfl
theorem W_place_set_vented (z : WS) (y : Int64) : W_place (W_set_vented z y) = W_place z := rfl
theorem W_place_set_lost (z : WS) (y : Int32) : W_place (W_set_lost z y) = W_place z := rfl
theorem W_place_set_minutes (z : WS) (y : Int32) : W_place (W_set_minutes z y) = W_place z := rfl
theorem W_gas_set_depth (z : WS) (y : Int32) : W_gas (W_set_depth z y) = W_gas z := rfl
theorem W_gas_set_shoe (z : WS) (y : Int32) : W_gas (W_set_shoe z y) = W_gas z := rfl
theorem W_gas_set_weight (z : WS) (y : Int32) : W_gas (W_set_weight z y) = W_gas z := rfl
theorem W_gas_set_isClosed (z : WS) (y : Int32) : W_gas (W_set_isClosed z y) = W_gas z := rfl
theorem W_gas_set_choke (z : WS) (y : Int32) : W_gas (W_set_choke z y) = W_gas z := rfl
theorem W_gas_set_valveStrength (z : WS) (y : Int32) : W_gas (W_set_valveStrength z y) = W_gas z := rfl
theorem W_gas_set_hasBrokenSinceTest (z : WS) (y : Int32) : W_gas (W_set_hasBrokenSinceTest z y) = W_gas z := rfl
theorem W_gas_set_charge (z : WS) (y : Int64) : W_gas (W_set_charge z y) = W_gas z := rfl
theorem W_gas_set_place (z : WS) (y : Int32) : W_gas (W_set_place z y) = W_gas z := rfl
theorem W_gas_set_gas (z : WS) (y : Int32) : W_gas (W_set_gas z y) = y := rfl
theorem W_gas_set_liquid (z : WS) (y : Int32) : W_gas (W_set_liquid z y) = W_gas z := rfl
theorem W_gas_set_vented (z : WS) (y : Int64) : W_gas (W_set_vented z y) = W_gas z := rfl
theorem W_gas_set_lost (z : WS) (y : Int32) : W_gas (W_set_lost z y) = W_gas z := rfl
theorem W_gas_set_minutes (z : WS) (y : Int32) : W_gas (W_set_minutes z y) = W_gas z := rfl
theorem W_liquid_set_depth (z : WS) (y : Int32) : W_liquid (W_set_depth z y) = W_liquid z := rfl
theorem W_liquid_set_shoe (z : WS) (y : Int32) : W_liquid (W_set_shoe z y) = W_liquid z := rfl
theorem W_liquid_set_weight (z : WS) (y : Int32) : W_liquid (W_set_weight z y) = W_liquid z := rfl
theorem W_liquid_set_isClosed (z : WS) (y : Int32) : W_liquid (W_set_isClosed z y) = W_liquid z := rfl
theorem W_liquid_set_choke (z : WS) (y : Int32) : W_liquid (W_set_choke z y) = W_liquid z := rfl
theorem W_liquid_set_valveStrength (z : WS) (y : Int32) : W_liquid (W_set_valveStrength z y) = W_liquid z := rfl
theorem W_liquid_set_hasBrokenSinceTest (z : WS) (y : Int32) : W_liquid (W_set_hasBrokenSinceTest z y) = W_liquid z := rfl
theorem W_liquid_set_charge (z : WS) (y : Int64) : W_liquid (W_set_charge z y) = W_liquid z := rfl
theorem W_liquid_set_place (z : WS) (y : Int32) : W_liquid (W_set_place z y) = W_liquid z := rfl
theorem W_liquid_set_gas (z : WS) (y : Int32) : W_liquid (W_set_gas z y) = W_liquid z := rfl
theorem W_liquid_set_liquid (z : WS) (y : Int32) : W_liquid (W_set_liquid z y) = y := rfl
theorem W_liquid_set_vented (z : WS) (y : Int64) : W_liquid (W_set_vented z y) = W_liquid z := rfl
theorem W_liquid_set_lost (z : WS) (y : Int32) : W_liquid (W_set_lost z y) = W_liquid z := rfl
theorem W_liquid_set_minutes (z : WS) (y : Int32) : W_liquid (W_set_minutes z y) = W_liquid z := rfl
theorem W_vented_set_depth (z : WS) (y : Int32) : W_vented (W_set_depth z y) = W_vented z := rfl
theorem W_vented_set_shoe (z : WS) (y : Int32) : W_vented (W_set_shoe z y) = W_vented z := rfl
theorem W_vented_set_weight (z : WS) (y : Int32) : W_vented (W_set_weight z y) = W_vented z := rfl
theorem W_vented_set_isClosed (z : WS) (y : Int32) : W_vented (W_set_isClosed z y) = W_vented z := rfl
theorem W_vented_set_choke (z : WS) (y : Int32) : W_vented (W_set_choke z y) = W_vented z := rfl
theorem W_vented_set_valveStrength (z : WS) (y : Int32) : W_vented (W_set_valveStrength z y) = W_vented z := rfl
theorem W_vented_set_hasBrokenSinceTest (z : WS) (y : Int32) : W_vented (W_set_hasBrokenSinceTest z y) = W_vented z := rfl
theorem W_vented_set_charge (z : WS) (y : Int64) : W_vented (W_set_charge z y) = W_vented z := rfl
theorem W_vented_set_place (z : WS) (y : Int32) : W_vented (W_set_place z y) = W_vented z := rfl
theorem W_vented_set_gas (z : WS) (y : Int32) : W_vented (W_set_gas z y) = W_vented z := rfl
theorem W_vented_set_liquid (z : WS) (y : Int32) : W_vented (W_set_liquid z y) = W_vented z := rfl
theorem W_vented_set_vented (z : WS) (y : Int64) : W_vented (W_set_vented z y) = y := rfl
theorem W_vented_set_lost (z : WS) (y : Int32) : W_vented (W_set_lost z y) = W_vented z := rfl
theorem W_vented_set_minutes (z : WS) (y : Int32) : W_vented (W_set_minutes z y) = W_vented z := rfl
theorem W_lost_set_depth (z : WS) (y : Int32) : W_lost (W_set_depth z y) = W_lost z := rfl
theorem W_lost_set_shoe (z : WS) (y : Int32) : W_lost (W_set_shoe z y) = W_lost z := rfl
theorem W_lost_set_weight (z : WS) (y : Int32) : W_lost (W_set_weight z y) = W_lost z := rfl
theorem W_lost_set_isClosed (z : WS) (y : Int32) : W_lost (W_set_isClosed z y) = W_lost z := rfl
theorem W_lost_set_choke (z : WS) (y : Int32) : W_lost (W_set_choke z y) = W_lost z := rfl
theorem W_lost_set_valveStrength (z : WS) (y : Int32) : W_lost (W_set_valveStrength z y) = W_lost z := rfl
theorem W_lost_set_hasBrokenSinceTest (z : WS) (y : Int32) : W_lost (W_set_hasBrokenSinceTest z y) = W_lost z := rfl
theorem W_lost_set_charge (z : WS) (y : Int64) : W_lost (W_set_charge z y) = W_lost z := rfl
theorem W_lost_set_place (z : WS) (y : Int32) : W_lost (W_set_place z y) = W_lost z := rfl
theorem W_lost_set_gas (z : WS) (y : Int32) : W_lost (W_set_gas z y) = W_lost z := rfl
theorem W_lost_set_liquid (z : WS) (y : Int32) : W_lost (W_set_liquid z y) = W_lost z := rfl
theorem W_lost_set_vented (z : WS) (y : Int64) : W_lost (W_set_vented z y) = W_lost z := rfl
theorem W_lost_set_lost (z : WS) (y : Int32) : W_lost (W_set_lost z y) = y := rfl
theorem W_lost_set_minutes (z : WS) (y : Int32) : W_lost (W_set_minutes z y) = W_lost z := rfl
theorem W_minutes_set_depth (z : WS) (y : Int32) : W_minutes (W_set_depth z y) = W_minutes z := rfl
theorem W_minutes_set_shoe (z : WS) (y : Int32) : W_minutes (W_set_shoe z y) = W_minutes z := rfl
theorem W_minutes_set_weight (z : WS) (y : Int32) : W_minutes (W_set_weight z y) = W_minutes z := rfl
theorem W_minutes_set_isClosed (z : WS) (y : Int32) : W_minutes (W_set_isClosed z y) = W_minutes z := rfl
theorem W_minutes_set_choke (z : WS) (y : Int32) : W_minutes (W_set_choke z y) = W_minutes z := rfl
theorem W_minutes_set_valveStrength (z : WS) (y : Int32) : W_minutes (W_set_valveStrength z y) = W_minutes z := rfl
theorem W_minutes_set_hasBrokenSinceTest (z : WS) (y : Int32) : W_minutes (W_set_hasBrokenSinceTest z y) = W_minutes z := rfl
theorem W_minutes_set_charge (z : WS) (y : Int64) : W_minutes (W_set_charge z y) = W_minutes z := rfl
theorem W_minutes_set_place (z : WS) (y : Int32) : W_minutes (W_set_place z y) = W_minutes z := rfl
theorem W_minutes_set_gas (z : WS) (y : Int32) : W_minutes (W_set_gas z y) = W_minutes z := rfl
theorem W_minutes_set_liquid (z : WS) (y : Int32) : W_minutes (W_set_liquid z y) = W_minutes z := rfl
theorem W_minutes_set_vented (z : WS) (y : Int64) : W_minutes (W_set_vented z y) = W_minutes z := rfl
theorem W_minutes_set_lost (z : WS) (y : Int32) : W_minutes (W_set_lost z y) = W_minutes z := rfl
theorem W_minutes_set_minutes (z : WS) (y : Int32) : W_minutes (W_set_minutes z y) = y := rfl
abbrev RS : Type := (Nat → Int32) × (Nat → Int32) × (Nat → Int32) × (Nat → Int32) × (Nat → Int32)
def R_pores (z : RS) : (Nat → Int32) := z.1
def R_breaks (z : RS) : (Nat → Int32) := z.2.1
def R_rates (z : RS) : (Nat → Int32) := z.2.2.1
def R_gases (z : RS) : (Nat → Int32) := z.2.2.2.1
def R_pieces (z : RS) : (Nat → Int32) := z.2.2.2.2
def R_set_pores (z : RS) (y : (Nat → Int32)) : RS := (y, z.2.1, z.2.2.1, z.2.2.2.1, z.2.2.2.2)
def R_set_breaks (z : RS) (y : (Nat → Int32)) : RS := (z.1, y, z.2.2.1, z.2.2.2.1, z.2.2.2.2)
def R_set_rates (z : RS) (y : (Nat → Int32)) : RS := (z.1, z.2.1, y, z.2.2.2.1, z.2.2.2.2)
def R_set_gases (z : RS) (y : (Nat → Int32)) : RS := (z.1, z.2.1, z.2.2.1, y, z.2.2.2.2)
def R_set_pieces (z : RS) (y : (Nat → Int32)) : RS := (z.1, z.2.1, z.2.2.1, z.2.2.2.1, y)
theorem R_pores_set_pores (z : RS) (y : (Nat → Int32)) : R_pores (R_set_pores z y) = y := rfl
theorem R_pores_set_breaks (z : RS) (y : (Nat → Int32)) : R_pores (R_set_breaks z y) = R_pores z := rfl
theorem R_pores_set_rates (z : RS) (y : (Nat → Int32)) : R_pores (R_set_rates z y) = R_pores z := rfl
theorem R_pores_set_gases (z : RS) (y : (Nat → Int32)) : R_pores (R_set_gases z y) = R_pores z := rfl
theorem R_pores_set_pieces (z : RS) (y : (Nat → Int32)) : R_pores (R_set_pieces z y) = R_pores z := rfl
theorem R_breaks_set_pores (z : RS) (y : (Nat → Int32)) : R_breaks (R_set_pores z y) = R_breaks z := rfl
theorem R_breaks_set_breaks (z : RS) (y : (Nat → Int32)) : R_breaks (R_set_breaks z y) = y := rfl
theorem R_breaks_set_rates (z : RS) (y : (Nat → Int32)) : R_breaks (R_set_rates z y) = R_breaks z := rfl
theorem R_breaks_set_gases (z : RS) (y : (Nat → Int32)) : R_breaks (R_set_gases z y) = R_breaks z := rfl
theorem R_breaks_set_pieces (z : RS) (y : (Nat → Int32)) : R_breaks (R_set_pieces z y) = R_breaks z := rfl
theorem R_rates_set_pores (z : RS) (y : (Nat → Int32)) : R_rates (R_set_pores z y) = R_rates z := rfl
theorem R_rates_set_breaks (z : RS) (y : (Nat → Int32)) : R_rates (R_set_breaks z y) = R_rates z := rfl
theorem R_rates_set_rates (z : RS) (y : (Nat → Int32)) : R_rates (R_set_rates z y) = y := rfl
theorem R_rates_set_gases (z : RS) (y : (Nat → Int32)) : R_rates (R_set_gases z y) = R_rates z := rfl
theorem R_rates_set_pieces (z : RS) (y : (Nat → Int32)) : R_rates (R_set_pieces z y) = R_rates z := rfl
theorem R_gases_set_pores (z : RS) (y : (Nat → Int32)) : R_gases (R_set_pores z y) = R_gases z := rfl
theorem R_gases_set_breaks (z : RS) (y : (Nat → Int32)) : R_gases (R_set_breaks z y) = R_gases z := rfl
theorem R_gases_set_rates (z : RS) (y : (Nat → Int32)) : R_gases (R_set_rates z y) = R_gases z := rfl
theorem R_gases_set_gases (z : RS) (y : (Nat → Int32)) : R_gases (R_set_gases z y) = y := rfl
theorem R_gases_set_pieces (z : RS) (y : (Nat → Int32)) : R_gases (R_set_pieces z y) = R_gases z := rfl
theorem R_pieces_set_pores (z : RS) (y : (Nat → Int32)) : R_pieces (R_set_pores z y) = R_pieces z := rfl
theorem R_pieces_set_breaks (z : RS) (y : (Nat → Int32)) : R_pieces (R_set_breaks z y) = R_pieces z := rfl
theorem R_pieces_set_rates (z : RS) (y : (Nat → Int32)) : R_pieces (R_set_rates z y) = R_pieces z := rfl
theorem R_pieces_set_gases (z : RS) (y : (Nat → Int32)) : R_pieces (R_set_gases z y) = R_pieces z := rfl
theorem R_pieces_set_pieces (z : RS) (y : (Nat → Int32)) : R_pieces (R_set_pieces z y) = y := rfl
abbrev TS : Type := (Nat → Int32) × (Nat → Int32) × (Nat → Int32) × (Nat → Int32) × Int32 × Int32 × Int32
def T_whats (z : TS) : (Nat → Int32) := z.1
def T_pressures (z : TS) : (Nat → Int32) := z.2.1
def T_passes (z : TS) : (Nat → Int32) := z.2.2.1
def T_minutes (z : TS) : (Nat → Int32) := z.2.2.2.1
def T_count (z : TS) : Int32 := z.2.2.2.2.1
def T_latestOfValve (z : TS) : Int32 := z.2.2.2.2.2.1
def T_latestOfCement (z : TS) : Int32 := z.2.2.2.2.2.2
def T_set_whats (z : TS) (y : (Nat → Int32)) : TS := (y, z.2.1, z.2.2.1, z.2.2.2.1, z.2.2.2.2.1, z.2.2.2.2.2.1, z.2.2.2.2.2.2)
def T_set_pressures (z : TS) (y : (Nat → Int32)) : TS := (z.1, y, z.2.2.1, z.2.2.2.1, z.2.2.2.2.1, z.2.2.2.2.2.1, z.2.2.2.2.2.2)
def T_set_passes (z : TS) (y : (Nat → Int32)) : TS := (z.1, z.2.1, y, z.2.2.2.1, z.2.2.2.2.1, z.2.2.2.2.2.1, z.2.2.2.2.2.2)
def T_set_minutes (z : TS) (y : (Nat → Int32)) : TS := (z.1, z.2.1, z.2.2.1, y, z.2.2.2.2.1, z.2.2.2.2.2.1, z.2.2.2.2.2.2)
def T_set_count (z : TS) (y : Int32) : TS := (z.1, z.2.1, z.2.2.1, z.2.2.2.1, y, z.2.2.2.2.2.1, z.2.2.2.2.2.2)
def T_set_latestOfValve (z : TS) (y : Int32) : TS := (z.1, z.2.1, z.2.2.1, z.2.2.2.1, z.2.2.2.2.1, y, z.2.2.2.2.2.2)
def T_set_latestOfCement (z : TS) (y : Int32) : TS := (z.1, z.2.1, z.2.2.1, z.2.2.2.1, z.2.2.2.2.1, z.2.2.2.2.2.1, y)
theorem T_whats_set_whats (z : TS) (y : (Nat → Int32)) : T_whats (T_set_whats z y) = y := rfl
theorem T_whats_set_pressures (z : TS) (y : (Nat → Int32)) : T_whats (T_set_pressures z y) = T_whats z := rfl
theorem T_whats_set_passes (z : TS) (y : (Nat → Int32)) : T_whats (T_set_passes z y) = T_whats z := rfl
theorem T_whats_set_minutes (z : TS) (y : (Nat → Int32)) : T_whats (T_set_minutes z y) = T_whats z := rfl
theorem T_whats_set_count (z : TS) (y : Int32) : T_whats (T_set_count z y) = T_whats z := rfl
theorem T_whats_set_latestOfValve (z : TS) (y : Int32) : T_whats (T_set_latestOfValve z y) = T_whats z := rfl
theorem T_whats_set_latestOfCement (z : TS) (y : Int32) : T_whats (T_set_latestOfCement z y) = T_whats z := rfl
theorem T_pressures_set_whats (z : TS) (y : (Nat → Int32)) : T_pressures (T_set_whats z y) = T_pressures z := rfl
theorem T_pressures_set_pressures (z : TS) (y : (Nat → Int32)) : T_pressures (T_set_pressures z y) = y := rfl
theorem T_pressures_set_passes (z : TS) (y : (Nat → Int32)) : T_pressures (T_set_passes z y) = T_pressures z := rfl
theorem T_pressures_set_minutes (z : TS) (y : (Nat → Int32)) : T_pressures (T_set_minutes z y) = T_pressures z := rfl
theorem T_pressures_set_count (z : TS) (y : Int32) : T_pressures (T_set_count z y) = T_pressures z := rfl
theorem T_pressures_set_latestOfValve (z : TS) (y : Int32) : T_pressures (T_set_latestOfValve z y) = T_pressures z := rfl
theorem T_pressures_set_latestOfCement (z : TS) (y : Int32) : T_pressures (T_set_latestOfCement z y) = T_pressures z := rfl
theorem T_passes_set_whats (z : TS) (y : (Nat → Int32)) : T_passes (T_set_whats z y) = T_passes z := rfl
theorem T_passes_set_pressures (z : TS) (y : (Nat → Int32)) : T_passes (T_set_pressures z y) = T_passes z := rfl
theorem T_passes_set_passes (z : TS) (y : (Nat → Int32)) : T_passes (T_set_passes z y) = y := rfl
theorem T_passes_set_minutes (z : TS) (y : (Nat → Int32)) : T_passes (T_set_minutes z y) = T_passes z := rfl
theorem T_passes_set_count (z : TS) (y : Int32) : T_passes (T_set_count z y) = T_passes z := rfl
theorem T_passes_set_latestOfValve (z : TS) (y : Int32) : T_passes (T_set_latestOfValve z y) = T_passes z := rfl
theorem T_passes_set_latestOfCement (z : TS) (y : Int32) : T_passes (T_set_latestOfCement z y) = T_passes z := rfl
theorem T_minutes_set_whats (z : TS) (y : (Nat → Int32)) : T_minutes (T_set_whats z y) = T_minutes z := rfl
theorem T_minutes_set_pressures (z : TS) (y : (Nat → Int32)) : T_minutes (T_set_pressures z y) = T_minutes z := rfl
theorem T_minutes_set_passes (z : TS) (y : (Nat → Int32)) : T_minutes (T_set_passes z y) = T_minutes z := rfl
theorem T_minutes_set_minutes (z : TS) (y : (Nat → Int32)) : T_minutes (T_set_minutes z y) = y := rfl
theorem T_minutes_set_count (z : TS) (y : Int32) : T_minutes (T_set_count z y) = T_minutes z := rfl
theorem T_minutes_set_latestOfValve (z : TS) (y : Int32) : T_minutes (T_set_latestOfValve z y) = T_minutes z := rfl
theorem T_minutes_set_latestOfCement (z : TS) (y : Int32) : T_minutes (T_set_latestOfCement z y) = T_minutes z := rfl
theorem T_count_set_whats (z : TS) (y : (Nat → Int32)) : T_count (T_set_whats z y) = T_count z := rfl
theorem T_count_set_pressures (z : TS) (y : (Nat → Int32)) : T_count (T_set_pressures z y) = T_count z := rfl
theorem T_count_set_passes (z : TS) (y : (Nat → Int32)) : T_count (T_set_passes z y) = T_count z := rfl
theorem T_count_set_minutes (z : TS) (y : (Nat → Int32)) : T_count (T_set_minutes z y) = T_count z := rfl
theorem T_count_set_count (z : TS) (y : Int32) : T_count (T_set_count z y) = y := rfl
theorem T_count_set_latestOfValve (z : TS) (y : Int32) : T_count (T_set_latestOfValve z y) = T_count z := rfl
theorem T_count_set_latestOfCement (z : TS) (y : Int32) : T_count (T_set_latestOfCement z y) = T_count z := rfl
theorem T_latestOfValve_set_whats (z : TS) (y : (Nat → Int32)) : T_latestOfValve (T_set_whats z y) = T_latestOfValve z := rfl
theorem T_latestOfValve_set_pressures (z : TS) (y : (Nat → Int32)) : T_latestOfValve (T_set_pressures z y) = T_latestOfValve z := rfl
theorem T_latestOfValve_set_passes (z : TS) (y : (Nat → Int32)) : T_latestOfValve (T_set_passes z y) = T_latestOfValve z := rfl
theorem T_latestOfValve_set_minutes (z : TS) (y : (Nat → Int32)) : T_latestOfValve (T_set_minutes z y) = T_latestOfValve z := rfl
theorem T_latestOfValve_set_count (z : TS) (y : Int32) : T_latestOfValve (T_set_count z y) = T_latestOfValve z := rfl
theorem T_latestOfValve_set_latestOfValve (z : TS) (y : Int32) : T_latestOfValve (T_set_latestOfValve z y) = y := rfl
theorem T_latestOfValve_set_latestOfCement (z : TS) (y : Int32) : T_latestOfValve (T_set_latestOfCement z y) = T_latestOfValve z := rfl
theorem T_latestOfCement_set_whats (z : TS) (y : (Nat → Int32)) : T_latestOfCement (T_set_whats z y) = T_latestOfCement z := rfl
theorem T_latestOfCement_set_pressures (z : TS) (y : (Nat → Int32)) : T_latestOfCement (T_set_pressures z y) = T_latestOfCement z := rfl
theorem T_latestOfCement_set_passes (z : TS) (y : (Nat → Int32)) : T_latestOfCement (T_set_passes z y) = T_latestOfCement z := rfl
theorem T_latestOfCement_set_minutes (z : TS) (y : (Nat → Int32)) : T_latestOfCement (T_set_minutes z y) = T_latestOfCement z := rfl
theorem T_latestOfCement_set_count (z : TS) (y : Int32) : T_latestOfCement (T_set_count z y) = T_latestOfCement z := rfl
theorem T_latestOfCement_set_latestOfValve (z : TS) (y : Int32) : T_latestOfCement (T_set_latestOfValve z y) = T_latestOfCement z := rfl
theorem T_latestOfCement_set_latestOfCement (z : TS) (y : Int32) : T_latestOfCement (T_set_latestOfCement z y) = y := rfl
abbrev MS : Type := Int32 × (Nat → Int32) × (Nat → Int32) × (Nat → Int32) × (Nat → Int32) × Int32 × Int32 × Int32 × Int32 × Int32 × Int64 × Int32 × Int32 × Int32 × Int32 × Int64 × Int64 × Int32 × Int32 × Int32 × Int32 × Int32 × Int32 × Int32 × (Nat → Int64) × Int32 × (Nat → Int32) × (Nat → Int32) × (Nat → Int32) × (Nat → Int32) × (Nat → Int32)
def M_thrown (z : MS) : Int32 := z.1
def M_pore (z : MS) : (Nat → Int32) := z.2.1
def M_breaks (z : MS) : (Nat → Int32) := z.2.2.1
def M_rate (z : MS) : (Nat → Int32) := z.2.2.2.1
def M_bearsGas (z : MS) : (Nat → Int32) := z.2.2.2.2.1
def M_depth (z : MS) : Int32 := z.2.2.2.2.2.1
def M_shoe (z : MS) : Int32 := z.2.2.2.2.2.2.1
def M_weight (z : MS) : Int32 := z.2.2.2.2.2.2.2.1
def M_isClosed (z : MS) : Int32 := z.2.2.2.2.2.2.2.2.1
def M_choke (z : MS) : Int32 := z.2.2.2.2.2.2.2.2.2.1
def M_charge (z : MS) : Int64 := z.2.2.2.2.2.2.2.2.2.2.1
def M_place (z : MS) : Int32 := z.2.2.2.2.2.2.2.2.2.2.2.1
def M_gas (z : MS) : Int32 := z.2.2.2.2.2.2.2.2.2.2.2.2.1
def M_liquid (z : MS) : Int32 := z.2.2.2.2.2.2.2.2.2.2.2.2.2.1
def M_minutes (z : MS) : Int32 := z.2.2.2.2.2.2.2.2.2.2.2.2.2.2.1
def M_vented (z : MS) : Int64 := z.2.2.2.2.2.2.2.2.2.2.2.2.2.2.2.1
def M_lost (z : MS) : Int64 := z.2.2.2.2.2.2.2.2.2.2.2.2.2.2.2.2.1
def M_pumped (z : MS) : Int32 := z.2.2.2.2.2.2.2.2.2.2.2.2.2.2.2.2.2.1
def M_pumpedWeight (z : MS) : Int32 := z.2.2.2.2.2.2.2.2.2.2.2.2.2.2.2.2.2.2.1
def M_valve (z : MS) : Int32 := z.2.2.2.2.2.2.2.2.2.2.2.2.2.2.2.2.2.2.2.1
def M_brokenAfter (z : MS) : Int32 := z.2.2.2.2.2.2.2.2.2.2.2.2.2.2.2.2.2.2.2.2.1
def M_cement (z : MS) : Int32 := z.2.2.2.2.2.2.2.2.2.2.2.2.2.2.2.2.2.2.2.2.2.1
def M_casedAfter (z : MS) : Int32 := z.2.2.2.2.2.2.2.2.2.2.2.2.2.2.2.2.2.2.2.2.2.2.1
def M_flowed (z : MS) : Int32 := z.2.2.2.2.2.2.2.2.2.2.2.2.2.2.2.2.2.2.2.2.2.2.2.1
def M_kept (z : MS) : (Nat → Int64) := z.2.2.2.2.2.2.2.2.2.2.2.2.2.2.2.2.2.2.2.2.2.2.2.2.1
def M_tests (z : MS) : Int32 := z.2.2.2.2.2.2.2.2.2.2.2.2.2.2.2.2.2.2.2.2.2.2.2.2.2.1
def M_tested (z : MS) : (Nat → Int32) := z.2.2.2.2.2.2.2.2.2.2.2.2.2.2.2.2.2.2.2.2.2.2.2.2.2.2.1
def M_by (z : MS) : (Nat → Int32) := z.2.2.2.2.2.2.2.2.2.2.2.2.2.2.2.2.2.2.2.2.2.2.2.2.2.2.2.1
def M_isPassed (z : MS) : (Nat → Int32) := z.2.2.2.2.2.2.2.2.2.2.2.2.2.2.2.2.2.2.2.2.2.2.2.2.2.2.2.2.1
def M_testedAt (z : MS) : (Nat → Int32) := z.2.2.2.2.2.2.2.2.2.2.2.2.2.2.2.2.2.2.2.2.2.2.2.2.2.2.2.2.2.1
def M_stops (z : MS) : (Nat → Int32) := z.2.2.2.2.2.2.2.2.2.2.2.2.2.2.2.2.2.2.2.2.2.2.2.2.2.2.2.2.2.2
def M_set_thrown (z : MS) (y : Int32) : MS := (y, z.2.1, z.2.2.1, z.2.2.2.1, z.2.2.2.2.1, z.2.2.2.2.2.1, z.2.2.2.2.2.2.1, z.2.2.2.2.2.2.2.1, z.2.2.2.2.2.2.2.2.1, z.2.2.2.2.2.2.2.2.2.1, z.2.2.2.2.2.2.2.2.2.2.1, z.2.2.2.2.2.2.2.2.2.2.2.1, z.2.2.2.2.2.2.2.2.2.2.2.2.1, z.2.2.2.2.2.2.2.2.2.2.2.2.2.1, z.2.2.2.2.2.2.2.2.2.2.2.2.2.2.1, z.2.2.2.2.2.2.2.2.2.2.2.2.2.2.2.1, z.2.2.2.2.2.2.2.2.2.2.2.2.2.2.2.2.1, z.2.2.2.2.2.2.2.2.2.2.2.2.2.2.2.2.2.1, z.2.2.2.2.2.2.2.2.2.2.2.2.2.2.2.2.2.2.1, z.2.2.2.2.2.2.2.2.2.2.2.2.2.2.2.2.2.2.2.1, z.2.2.2.2.2.2.2.2.2.2.2.2.2.2.2.2.2.2.2.2.1, z.2.2.2.2.2.2.2.2.2.2.2.2.2.2.2.2.2.2.2.2.2.1, z.2.2.2.2.2.2.2.2.2.2.2.2.2.2.2.2.2.2.2.2.2.2.1, z.2.2.2.2.2.2.2.2.2.2.2.2.2.2.2.2.2.2.2.2.2.2.2.1, z.2.2.2.2.2.2.2.2.2.2.2.2.2.2.2.2.2.2.2.2.2.2.2.2.1, z.2.2.2.2.2.2.2.2.2.2.2.2.2.2.2.2.2.2.2.2.2.2.2.2.2.1, z.2.2.2.2.2.2.2.2.2.2.2.2.2.2.2.2.2.2.2.2.2.2.2.2.2.2.1, z.2.2.2.2.2.2.2.2.2.2.2.2.2.2.2.2.2.2.2.2.2.2.2.2.2.2.2.1, z.2.2.2.2.2.2.2.2.2.2.2.2.2.2.2.2.2.2.2.2.2.2.2.2.2.2.2.2.1, z.2.2.2.2.2.2.2.2.2.2.2.2.2.2.2.2.2.2.2.2.2.2.2.2.2.2.2.2.2.1, z.2.2.2.2.2.2.2.2.2.2.2.2.2.2.2.2.2.2.2.2.2.2.2.2.2.2.2.2.2.2)
def M_set_pore (z : MS) (y : (Nat → Int32)) : MS := (z.1, y, z.2.2.1, z.2.2.2.1, z.2.2.2.2.1, z.2.2.2.2.2.1, z.2.2.2.2.2.2.1, z.2.2.2.2.2.2.2.1, z.2.2.2.2.2.2.2.2.1, z.2.2.2.2.2.2.2.2.2.1, z.2.2.2.2.2.2.2.2.2.2.1, z.2.2.2.2.2.2.2.2.2.2.2.1, z.2.2.2.2.2.2.2.2.2.2.2.2.1, z.2.2.2.2.2.2.2.2.2.2.2.2.2.1, z.2.2.2.2.2.2.2.2.2.2.2.2.2.2.1, z.2.2.2.2.2.2.2.2.2.2.2.2.2.2.2.1, z.2.2.2.2.2.2.2.2.2.2.2.2.2.2.2.2.1, z.2.2.2.2.2.2.2.2.2.2.2.2.2.2.2.2.2.1, z.2.2.2.2.2.2.2.2.2.2.2.2.2.2.2.2.2.2.1, z.2.2.2.2.2.2.2.2.2.2.2.2.2.2.2.2.2.2.2.1, z.2.2.2.2.2.2.2.2.2.2.2.2.2.2.2.2.2.2.2.2.1, z.2.2.2.2.2.2.2.2.2.2.2.2.2.2.2.2.2.2.2.2.2.1, z.2.2.2.2.2.2.2.2.2.2.2.2.2.2.2.2.2.2.2.2.2.2.1, z.2.2.2.2.2.2.2.2.2.2.2.2.2.2.2.2.2.2.2.2.2.2.2.1, z.2.2.2.2.2.2.2.2.2.2.2.2.2.2.2.2.2.2.2.2.2.2.2.2.1, z.2.2.2.2.2.2.2.2.2.2.2.2.2.2.2.2.2.2.2.2.2.2.2.2.2.1, z.2.2.2.2.2.2.2.2.2.2.2.2.2.2.2.2.2.2.2.2.2.2.2.2.2.2.1, z.2.2.2.2.2.2.2.2.2.2.2.2.2.2.2.2.2.2.2.2.2.2.2.2.2.2.2.1, z.2.2.2.2.2.2.2.2.2.2.2.2.2.2.2.2.2.2.2.2.2.2.2.2.2.2.2.2.1, z.2.2.2.2.2.2.2.2.2.2.2.2.2.2.2.2.2.2.2.2.2.2.2.2.2.2.2.2.2.1, z.2.2.2.2.2.2.2.2.2.2.2.2.2.2.2.2.2.2.2.2.2.2.2.2.2.2.2.2.2.2)
def M_set_breaks (z : MS) (y : (Nat → Int32)) : MS := (z.1, z.2.1, y, z.2.2.2.1, z.2.2.2.2.1, z.2.2.2.2.2.1, z.2.2.2.2.2.2.1, z.2.2.2.2.2.2.2.1, z.2.2.2.2.2.2.2.2.1, z.2.2.2.2.2.2.2.2.2.1, z.2.2.2.2.2.2.2.2.2.2.1, z.2.2.2.2.2.2.2.2.2.2.2.1, z.2.2.2.2.2.2.2.2.2.2.2.2.1, z.2.2.2.2.2.2.2.2.2.2.2.2.2.1, z.2.2.2.2.2.2.2.2.2.2.2.2.2.2.1, z.2.2.2.2.2.2.2.2.2.2.2.2.2.2.2.1, z.2.2.2.2.2.2.2.2.2.2.2.2.2.2.2.2.1, z.2.2.2.2.2.2.2.2.2.2.2.2.2.2.2.2.2.1, z.2.2.2.2.2.2.2.2.2.2.2.2.2.2.2.2.2.2.1, z.2.2.2.2.2.2.2.2.2.2.2.2.2.2.2.2.2.2.2.1, z.2.2.2.2.2.2.2.2.2.2.2.2.2.2.2.2.2.2.2.2.1, z.2.2.2.2.2.2.2.2.2.2.2.2.2.2.2.2.2.2.2.2.2.1, z.2.2.2.2.2.2.2.2.2.2.2.2.2.2.2.2.2.2.2.2.2.2.1, z.2.2.2.2.2.2.2.2.2.2.2.2.2.2.2.2.2.2.2.2.2.2.2.1, z.2.2.2.2.2.2.2.2.2.2.2.2.2.2.2.2.2.2.2.2.2.2.2.2.1, z.2.2.2.2.2.2.2.2.2.2.2.2.2.2.2.2.2.2.2.2.2.2.2.2.2.1, z.2.2.2.2.2.2.2.2.2.2.2.2.2.2.2.2.2.2.2.2.2.2.2.2.2.2.1, z.2.2.2.2.2.2.2.2.2.2.2.2.2.2.2.2.2.2.2.2.2.2.2.2.2.2.2.1, z.2.2.2.2.2.2.2.2.2.2.2.2.2.2.2.2.2.2.2.2.2.2.2.2.2.2.2.2.1, z.2.2.2.2.2.2.2.2.2.2.2.2.2.2.2.2.2.2.2.2.2.2.2.2.2.2.2.2.2.1, z.2.2.2.2.2.2.2.2.2.2.2.2.2.2.2.2.2.2.2.2.2.2.2.2.2.2.2.2.2.2)
def M_set_rate (z : MS) (y : (Nat → Int32)) : MS := (z.1, z.2.1, z.2.2.1, y, z.2.2.2.2.1, z.2.2.2.2.2.1, z.2.2.2.2.2.2.1, z.2.2.2.2.2.2.2.1, z.2.2.2.2.2.2.2.2.1, z.2.2.2.2.2.2.2.2.2.1, z.2.2.2.2.2.2.2.2.2.2.1, z.2.2.2.2.2.2.2.2.2.2.2.1, z.2.2.2.2.2.2.2.2.2.2.2.2.1, z.2.2.2.2.2.2.2.2.2.2.2.2.2.1, z.2.2.2.2.2.2.2.2.2.2.2.2.2.2.1, z.2.2.2.2.2.2.2.2.2.2.2.2.2.2.2.1, z.2.2.2.2.2.2.2.2.2.2.2.2.2.2.2.2.1, z.2.2.2.2.2.2.2.2.2.2.2.2.2.2.2.2.2.1, z.2.2.2.2.2.2.2.2.2.2.2.2.2.2.2.2.2.2.1, z.2.2.2.2.2.2.2.2.2.2.2.2.2.2.2.2.2.2.2.1, z.2.2.2.2.2.2.2.2.2.2.2.2.2.2.2.2.2.2.2.2.1, z.2.2.2.2.2.2.2.2.2.2.2.2.2.2.2.2.2.2.2.2.2.1, z.2.2.2.2.2.2.2.2.2.2.2.2.2.2.2.2.2.2.2.2.2.2.1, z.2.2.2.2.2.2.2.2.2.2.2.2.2.2.2.2.2.2.2.2.2.2.2.1, z.2.2.2.2.2.2.2.2.2.2.2.2.2.2.2.2.2.2.2.2.2.2.2.2.1, z.2.2.2.2.2.2.2.2.2.2.2.2.2.2.2.2.2.2.2.2.2.2.2.2.2.1, z.2.2.2.2.2.2.2.2.2.2.2.2.2.2.2.2.2.2.2.2.2.2.2.2.2.2.1, z.2.2.2.2.2.2.2.2.2.2.2.2.2.2.2.2.2.2.2.2.2.2.2.2.2.2.2.1, z.2.2.2.2.2.2.2.2.2.2.2.2.2.2.2.2.2.2.2.2.2.2.2.2.2.2.2.2.1, z.2.2.2.2.2.2.2.2.2.2.2.2.2.2.2.2.2.2.2.2.2.2.2.2.2.2.2.2.2.1, z.2.2.2.2.2.2.2.2.2.2.2.2.2.2.2.2.2.2.2.2.2.2.2.2.2.2.2.2.2.2)
def M_set_bearsGas (z : MS) (y : (Nat → Int32)) : MS := (z.1, z.2.1, z.2.2.1, z.2.2.2.1, y, z.2.2.2.2.2.1, z.2.2.2.2.2.2.1, z.2.2.2.2.2.2.2.1, z.2.2.2.2.2.2.2.2.1, z.2.2.2.2.2.2.2.2.2.1, z.2.2.2.2.2.2.2.2.2.2.1, z.2.2.2.2.2.2.2.2.2.2.2.1, z.2.2.2.2.2.2.2.2.2.2.2.2.1, z.2.2.2.2.2.2.2.2.2.2.2.2.2.1, z.2.2.2.2.2.2.2.2.2.2.2.2.2.2.1, z.2.2.2.2.2.2.2.2.2.2.2.2.2.2.2.1, z.2.2.2.2.2.2.2.2.2.2.2.2.2.2.2.2.1, z.2.2.2.2.2.2.2.2.2.2.2.2.2.2.2.2.2.1, z.2.2.2.2.2.2.2.2.2.2.2.2.2.2.2.2.2.2.1, z.2.2.2.2.2.2.2.2.2.2.2.2.2.2.2.2.2.2.2.1, z.2.2.2.2.2.2.2.2.2.2.2.2.2.2.2.2.2.2.2.2.1, z.2.2.2.2.2.2.2.2.2.2.2.2.2.2.2.2.2.2.2.2.2.1, z.2.2.2.2.2.2.2.2.2.2.2.2.2.2.2.2.2.2.2.2.2.2.1, z.2.2.2.2.2.2.2.2.2.2.2.2.2.2.2.2.2.2.2.2.2.2.2.1, z.2.2.2.2.2.2.2.2.2.2.2.2.2.2.2.2.2.2.2.2.2.2.2.2.1, z.2.2.2.2.2.2.2.2.2.2.2.2.2.2.2.2.2.2.2.2.2.2.2.2.2.1, z.2.2.2.2.2.2.2.2.2.2.2.2.2.2.2.2.2.2.2.2.2.2.2.2.2.2.1, z.2.2.2.2.2.2.2.2.2.2.2.2.2.2.2.2.2.2.2.2.2.2.2.2.2.2.2.1, z.2.2.2.2.2.2.2.2.2.2.2.2.2.2.2.2.2.2.2.2.2.2.2.2.2.2.2.2.1, z.2.2.2.2.2.2.2.2.2.2.2.2.2.2.2.2.2.2.2.2.2.2.2.2.2.2.2.2.2.1, z.2.2.2.2.2.2.2.2.2.2.2.2.2.2.2.2.2.2.2.2.2.2.2.2.2.2.2.2.2.2)
def M_set_depth (z : MS) (y : Int32) : MS := (z.1, z.2.1, z.2.2.1, z.2.2.2.1, z.2.2.2.2.1, y, z.2.2.2.2.2.2.1, z.2.2.2.2.2.2.2.1, z.2.2.2.2.2.2.2.2.1, z.2.2.2.2.2.2.2.2.2.1, z.2.2.2.2.2.2.2.2.2.2.1, z.2.2.2.2.2.2.2.2.2.2.2.1, z.2.2.2.2.2.2.2.2.2.2.2.2.1, z.2.2.2.2.2.2.2.2.2.2.2.2.2.1, z.2.2.2.2.2.2.2.2.2.2.2.2.2.2.1, z.2.2.2.2.2.2.2.2.2.2.2.2.2.2.2.1, z.2.2.2.2.2.2.2.2.2.2.2.2.2.2.2.2.1, z.2.2.2.2.2.2.2.2.2.2.2.2.2.2.2.2.2.1, z.2.2.2.2.2.2.2.2.2.2.2.2.2.2.2.2.2.2.1, z.2.2.2.2.2.2.2.2.2.2.2.2.2.2.2.2.2.2.2.1, z.2.2.2.2.2.2.2.2.2.2.2.2.2.2.2.2.2.2.2.2.1, z.2.2.2.2.2.2.2.2.2.2.2.2.2.2.2.2.2.2.2.2.2.1, z.2.2.2.2.2.2.2.2.2.2.2.2.2.2.2.2.2.2.2.2.2.2.1, z.2.2.2.2.2.2.2.2.2.2.2.2.2.2.2.2.2.2.2.2.2.2.2.1, z.2.2.2.2.2.2.2.2.2.2.2.2.2.2.2.2.2.2.2.2.2.2.2.2.1, z.2.2.2.2.2.2.2.2.2.2.2.2.2.2.2.2.2.2.2.2.2.2.2.2.2.1, z.2.2.2.2.2.2.2.2.2.2.2.2.2.2.2.2.2.2.2.2.2.2.2.2.2.2.1, z.2.2.2.2.2.2.2.2.2.2.2.2.2.2.2.2.2.2.2.2.2.2.2.2.2.2.2.1, z.2.2.2.2.2.2.2.2.2.2.2.2.2.2.2.2.2.2.2.2.2.2.2.2.2.2.2.2.1, z.2.2.2.2.2.2.2.2.2.2.2.2.2.2.2.2.2.2.2.2.2.2.2.2.2.2.2.2.2.1, z.2.2.2.2.2.2.2.2.2.2.2.2.2.2.2.2.2.2.2.2.2.2.2.2.2.2.2.2.2.2)
def M_set_shoe (z : MS) (y : Int32) : MS := (z.1, z.2.1, z.2.2.1, z.2.2.2.1, z.2.2.2.2.1, z.2.2.2.2.2.1, y, z.2.2.2.2.2.2.2.1, z.2.2.2.2.2.2.2.2.1, z.2.2.2.2.2.2.2.2.2.1, z.2.2.2.2.2.2.2.2.2.2.1, z.2.2.2.2.2.2.2.2.2.2.2.1, z.2.2.2.2.2.2.2.2.2.2.2.2.1, z.2.2.2.2.2.2.2.2.2.2.2.2.2.1, z.2.2.2.2.2.2.2.2.2.2.2.2.2.2.1, z.2.2.2.2.2.2.2.2.2.2.2.2.2.2.2.1, z.2.2.2.2.2.2.2.2.2.2.2.2.2.2.2.2.1, z.2.2.2.2.2.2.2.2.2.2.2.2.2.2.2.2.2.1, z.2.2.2.2.2.2.2.2.2.2.2.2.2.2.2.2.2.2.1, z.2.2.2.2.2.2.2.2.2.2.2.2.2.2.2.2.2.2.2.1, z.2.2.2.2.2.2.2.2.2.2.2.2.2.2.2.2.2.2.2.2.1, z.2.2.2.2.2.2.2.2.2.2.2.2.2.2.2.2.2.2.2.2.2.1, z.2.2.2.2.2.2.2.2.2.2.2.2.2.2.2.2.2.2.2.2.2.2.1, z.2.2.2.2.2.2.2.2.2.2.2.2.2.2.2.2.2.2.2.2.2.2.2.1, z.2.2.2.2.2.2.2.2.2.2.2.2.2.2.2.2.2.2.2.2.2.2.2.2.1, z.2.2.2.2.2.2.2.2.2.2.2.2.2.2.2.2.2.2.2.2.2.2.2.2.2.1, z.2.2.2.2.2.2.2.2.2.2.2.2.2.2.2.2.2.2.2.2.2.2.2.2.2.2.1, z.2.2.2.2.2.2.2.2.2.2.2.2.2.2.2.2.2.2.2.2.2.2.2.2.2.2.2.1, z.2.2.2.2.2.2.2.2.2.2.2.2.2.2.2.2.2.2.2.2.2.2.2.2.2.2.2.2.1, z.2.2.2.2.2.2.2.2.2.2.2.2.2.2.2.2.2.2.2.2.2.2.2.2.2.2.2.2.2.1, z.2.2.2.2.2.2.2.2.2.2.2.2.2.2.2.2.2.2.2.2.2.2.2.2.2.2.2.2.2.2)
def M_set_weight (z : MS) (y : Int32) : MS := (z.1, z.2.1, z.2.2.1, z.2.2.2.1, z.2.2.2.2.1, z.2.2.2.2.2.1, z.2.2.2.2.2.2.1, y, z.2.2.2.2.2.2.2.2.1, z.2.2.2.2.2.2.2.2.2.1, z.2.2.2.2.2.2.2.2.2.2.1, z.2.2.2.2.2.2.2.2.2.2.2.1, z.2.2.2.2.2.2.2.2.2.2.2.2.1, z.2.2.2.2.2.2.2.2.2.2.2.2.2.1, z.2.2.2.2.2.2.2.2.2.2.2.2.2.2.1, z.2.2.2.2.2.2.2.2.2.2.2.2.2.2.2.1, z.2.2.2.2.2.2.2.2.2.2.2.2.2.2.2.2.1, z.2.2.2.2.2.2.2.2.2.2.2.2.2.2.2.2.2.1, z.2.2.2.2.2.2.2.2.2.2.2.2.2.2.2.2.2.2.1, z.2.2.2.2.2.2.2.2.2.2.2.2.2.2.2.2.2.2.2.1, z.2.2.2.2.2.2.2.2.2.2.2.2.2.2.2.2.2.2.2.2.1, z.2.2.2.2.2.2.2.2.2.2.2.2.2.2.2.2.2.2.2.2.2.1, z.2.2.2.2.2.2.2.2.2.2.2.2.2.2.2.2.2.2.2.2.2.2.1, z.2.2.2.2.2.2.2.2.2.2.2.2.2.2.2.2.2.2.2.2.2.2.2.1, z.2.2.2.2.2.2.2.2.2.2.2.2.2.2.2.2.2.2.2.2.2.2.2.2.1, z.2.2.2.2.2.2.2.2.2.2.2.2.2.2.2.2.2.2.2.2.2.2.2.2.2.1, z.2.2.2.2.2.2.2.2.2.2.2.2.2.2.2.2.2.2.2.2.2.2.2.2.2.2.1, z.2.2.2.2.2.2.2.2.2.2.2.2.2.2.2.2.2.2.2.2.2.2.2.2.2.2.2.1, z.2.2.2.2.2.2.2.2.2.2.2.2.2.2.2.2.2.2.2.2.2.2.2.2.2.2.2.2.1, z.2.2.2.2.2.2.2.2.2.2.2.2.2.2.2.2.2.2.2.2.2.2.2.2.2.2.2.2.2.1, z.2.2.2.2.2.2.2.2.2.2.2.2.2.2.2.2.2.2.2.2.2.2.2.2.2.2.2.2.2.2)
def M_set_isClosed (z : MS) (y : Int32) : MS := (z.1, z.2.1, z.2.2.1, z.2.2.2.1, z.2.2.2.2.1, z.2.2.2.2.2.1, z.2.2.2.2.2.2.1, z.2.2.2.2.2.2.2.1, y, z.2.2.2.2.2.2.2.2.2.1, z.2.2.2.2.2.2.2.2.2.2.1, z.2.2.2.2.2.2.2.2.2.2.2.1, z.2.2.2.2.2.2.2.2.2.2.2.2.1, z.2.2.2.2.2.2.2.2.2.2.2.2.2.1, z.2.2.2.2.2.2.2.2.2.2.2.2.2.2.1, z.2.2.2.2.2.2.2.2.2.2.2.2.2.2.2.1, z.2.2.2.2.2.2.2.2.2.2.2.2.2.2.2.2.1, z.2.2.2.2.2.2.2.2.2.2.2.2.2.2.2.2.2.1, z.2.2.2.2.2.2.2.2.2.2.2.2.2.2.2.2.2.2.1, z.2.2.2.2.2.2.2.2.2.2.2.2.2.2.2.2.2.2.2.1, z.2.2.2.2.2.2.2.2.2.2.2.2.2.2.2.2.2.2.2.2.1, z.2.2.2.2.2.2.2.2.2.2.2.2.2.2.2.2.2.2.2.2.2.1, z.2.2.2.2.2.2.2.2.2.2.2.2.2.2.2.2.2.2.2.2.2.2.1, z.2.2.2.2.2.2.2.2.2.2.2.2.2.2.2.2.2.2.2.2.2.2.2.1, z.2.2.2.2.2.2.2.2.2.2.2.2.2.2.2.2.2.2.2.2.2.2.2.2.1, z.2.2.2.2.2.2.2.2.2.2.2.2.2.2.2.2.2.2.2.2.2.2.2.2.2.1, z.2.2.2.2.2.2.2.2.2.2.2.2.2.2.2.2.2.2.2.2.2.2.2.2.2.2.1, z.2.2.2.2.2.2.2.2.2.2.2.2.2.2.2.2.2.2.2.2.2.2.2.2.2.2.2.1, z.2.2.2.2.2.2.2.2.2.2.2.2.2.2.2.2.2.2.2.2.2.2.2.2.2.2.2.2.1, z.2.2.2.2.2.2.2.2.2.2.2.2.2.2.2.2.2.2.2.2.2.2.2.2.2.2.2.2.2.1, z.2.2.2.2.2.2.2.2.2.2.2.2.2.2.2.2.2.2.2.2.2.2.2.2.2.2.2.2.2.2)
def M_set_choke (z : MS) (y : Int32) : MS := (z.1, z.2.1, z.2.2.1, z.2.2.2.1, z.2.2.2.2.1, z.2.2.2.2.2.1, z.2.2.2.2.2.2.1, z.2.2.2.2.2.2.2.1, z.2.2.2.2.2.2.2.2.1, y, z.2.2.2.2.2.2.2.2.2.2.1, z.2.2.2.2.2.2.2.2.2.2.2.1, z.2.2.2.2.2.2.2.2.2.2.2.2.1, z.2.2.2.2.2.2.2.2.2.2.2.2.2.1, z.2.2.2.2.2.2.2.2.2.2.2.2.2.2.1, z.2.2.2.2.2.2.2.2.2.2.2.2.2.2.2.1, z.2.2.2.2.2.2.2.2.2.2.2.2.2.2.2.2.1, z.2.2.2.2.2.2.2.2.2.2.2.2.2.2.2.2.2.1, z.2.2.2.2.2.2.2.2.2.2.2.2.2.2.2.2.2.2.1, z.2.2.2.2.2.2.2.2.2.2.2.2.2.2.2.2.2.2.2.1, z.2.2.2.2.2.2.2.2.2.2.2.2.2.2.2.2.2.2.2.2.1, z.2.2.2.2.2.2.2.2.2.2.2.2.2.2.2.2.2.2.2.2.2.1, z.2.2.2.2.2.2.2.2.2.2.2.2.2.2.2.2.2.2.2.2.2.2.1, z.2.2.2.2.2.2.2.2.2.2.2.2.2.2.2.2.2.2.2.2.2.2.2.1, z.2.2.2.2.2.2.2.2.2.2.2.2.2.2.2.2.2.2.2.2.2.2.2.2.1, z.2.2.2.2.2.2.2.2.2.2.2.2.2.2.2.2.2.2.2.2.2.2.2.2.2.1, z.2.2.2.2.2.2.2.2.2.2.2.2.2.2.2.2.2.2.2.2.2.2.2.2.2.2.1, z.2.2.2.2.2.2.2.2.2.2.2.2.2.2.2.2.2.2.2.2.2.2.2.2.2.2.2.1, z.2.2.2.2.2.2.2.2.2.2.2.2.2.2.2.2.2.2.2.2.2.2.2.2.2.2.2.2.1, z.2.2.2.2.2.2.2.2.2.2.2.2.2.2.2.2.2.2.2.2.2.2.2.2.2.2.2.2.2.1, z.2.2.2.2.2.2.2.2.2.2.2.2.2.2.2.2.2.2.2.2.2.2.2.2.2.2.2.2.2.2)
def M_set_charge (z : MS) (y : Int64) : MS := (z.1, z.2.1, z.2.2.1, z.2.2.2.1, z.2.2.2.2.1, z.2.2.2.2.2.1, z.2.2.2.2.2.2.1, z.2.2.2.2.2.2.2.1, z.2.2.2.2.2.2.2.2.1, z.2.2.2.2.2.2.2.2.2.1, y, z.2.2.2.2.2.2.2.2.2.2.2.1, z.2.2.2.2.2.2.2.2.2.2.2.2.1, z.2.2.2.2.2.2.2.2.2.2.2.2.2.1, z.2.2.2.2.2.2.2.2.2.2.2.2.2.2.1, z.2.2.2.2.2.2.2.2.2.2.2.2.2.2.2.1, z.2.2.2.2.2.2.2.2.2.2.2.2.2.2.2.2.1, z.2.2.2.2.2.2.2.2.2.2.2.2.2.2.2.2.2.1, z.2.2.2.2.2.2.2.2.2.2.2.2.2.2.2.2.2.2.1, z.2.2.2.2.2.2.2.2.2.2.2.2.2.2.2.2.2.2.2.1, z.2.2.2.2.2.2.2.2.2.2.2.2.2.2.2.2.2.2.2.2.1, z.2.2.2.2.2.2.2.2.2.2.2.2.2.2.2.2.2.2.2.2.2.1, z.2.2.2.2.2.2.2.2.2.2.2.2.2.2.2.2.2.2.2.2.2.2.1, z.2.2.2.2.2.2.2.2.2.2.2.2.2.2.2.2.2.2.2.2.2.2.2.1, z.2.2.2.2.2.2.2.2.2.2.2.2.2.2.2.2.2.2.2.2.2.2.2.2.1, z.2.2.2.2.2.2.2.2.2.2.2.2.2.2.2.2.2.2.2.2.2.2.2.2.2.1, z.2.2.2.2.2.2.2.2.2.2.2.2.2.2.2.2.2.2.2.2.2.2.2.2.2.2.1, z.2.2.2.2.2.2.2.2.2.2.2.2.2.2.2.2.2.2.2.2.2.2.2.2.2.2.2.1, z.2.2.2.2.2.2.2.2.2.2.2.2.2.2.2.2.2.2.2.2.2.2.2.2.2.2.2.2.1, z.2.2.2.2.2.2.2.2.2.2.2.2.2.2.2.2.2.2.2.2.2.2.2.2.2.2.2.2.2.1, z.2.2.2.2.2.2.2.2.2.2.2.2.2.2.2.2.2.2.2.2.2.2.2.2.2.2.2.2.2.2)
def M_set_place (z : MS) (y : Int32) : MS := (z.1, z.2.1, z.2.2.1, z.2.2.2.1, z.2.2.2.2.1, z.2.2.2.2.2.1, z.2.2.2.2.2.2.1, z.2.2.2.2.2.2.2.1, z.2.2.2.2.2.2.2.2.1, z.2.2.2.2.2.2.2.2.2.1, z.2.2.2.2.2.2.2.2.2.2.1, y, z.2.2.2.2.2.2.2.2.2.2.2.2.1, z.2.2.2.2.2.2.2.2.2.2.2.2.2.1, z.2.2.2.2.2.2.2.2.2.2.2.2.2.2.1, z.2.2.2.2.2.2.2.2.2.2.2.2.2.2.2.1, z.2.2.2.2.2.2.2.2.2.2.2.2.2.2.2.2.1, z.2.2.2.2.2.2.2.2.2.2.2.2.2.2.2.2.2.1, z.2.2.2.2.2.2.2.2.2.2.2.2.2.2.2.2.2.2.1, z.2.2.2.2.2.2.2.2.2.2.2.2.2.2.2.2.2.2.2.1, z.2.2.2.2.2.2.2.2.2.2.2.2.2.2.2.2.2.2.2.2.1, z.2.2.2.2.2.2.2.2.2.2.2.2.2.2.2.2.2.2.2.2.2.1, z.2.2.2.2.2.2.2.2.2.2.2.2.2.2.2.2.2.2.2.2.2.2.1, z.2.2.2.2.2.2.2.2.2.2.2.2.2.2.2.2.2.2.2.2.2.2.2.1, z.2.2.2.2.2.2.2.2.2.2.2.2.2.2.2.2.2.2.2.2.2.2.2.2.1, z.2.2.2.2.2.2.2.2.2.2.2.2.2.2.2.2.2.2.2.2.2.2.2.2.2.1, z.2.2.2.2.2.2.2.2.2.2.2.2.2.2.2.2.2.2.2.2.2.2.2.2.2.2.1, z.2.2.2.2.2.2.2.2.2.2.2.2.2.2.2.2.2.2.2.2.2.2.2.2.2.2.2.1, z.2.2.2.2.2.2.2.2.2.2.2.2.2.2.2.2.2.2.2.2.2.2.2.2.2.2.2.2.1, z.2.2.2.2.2.2.2.2.2.2.2.2.2.2.2.2.2.2.2.2.2.2.2.2.2.2.2.2.2.1, z.2.2.2.2.2.2.2.2.2.2.2.2.2.2.2.2.2.2.2.2.2.2.2.2.2.2.2.2.2.2)
def M_set_gas (z : MS) (y : Int32) : MS := (z.1, z.2.1, z.2.2.1, z.2.2.2.1, z.2.2.2.2.1, z.2.2.2.2.2.1, z.2.2.2.2.2.2.1, z.2.2.2.2.2.2.2.1, z.2.2.2.2.2.2.2.2.1, z.2.2.2.2.2.2.2.2.2.1, z.2.2.2.2.2.2.2.2.2.2.1, z.2.2.2.2.2.2.2.2.2.2.2.1, y, z.2.2.2.2.2.2.2.2.2.2.2.2.2.1, z.2.2.2.2.2.2.2.2.2.2.2.2.2.2.1, z.2.2.2.2.2.2.2.2.2.2.2.2.2.2.2.1, z.2.2.2.2.2.2.2.2.2.2.2.2.2.2.2.2.1, z.2.2.2.2.2.2.2.2.2.2.2.2.2.2.2.2.2.1, z.2.2.2.2.2.2.2.2.2.2.2.2.2.2.2.2.2.2.1, z.2.2.2.2.2.2.2.2.2.2.2.2.2.2.2.2.2.2.2.1, z.2.2.2.2.2.2.2.2.2.2.2.2.2.2.2.2.2.2.2.2.1, z.2.2.2.2.2.2.2.2.2.2.2.2.2.2.2.2.2.2.2.2.2.1, z.2.2.2.2.2.2.2.2.2.2.2.2.2.2.2.2.2.2.2.2.2.2.1, z.2.2.2.2.2.2.2.2.2.2.2.2.2.2.2.2.2.2.2.2.2.2.2.1, z.2.2.2.2.2.2.2.2.2.2.2.2.2.2.2.2.2.2.2.2.2.2.2.2.1, z.2.2.2.2.2.2.2.2.2.2.2.2.2.2.2.2.2.2.2.2.2.2.2.2.2.1, z.2.2.2.2.2.2.2.2.2.2.2.2.2.2.2.2.2.2.2.2.2.2.2.2.2.2.1, z.2.2.2.2.2.2.2.2.2.2.2.2.2.2.2.2.2.2.2.2.2.2.2.2.2.2.2.1, z.2.2.2.2.2.2.2.2.2.2.2.2.2.2.2.2.2.2.2.2.2.2.2.2.2.2.2.2.1, z.2.2.2.2.2.2.2.2.2.2.2.2.2.2.2.2.2.2.2.2.2.2.2.2.2.2.2.2.2.1, z.2.2.2.2.2.2.2.2.2.2.2.2.2.2.2.2.2.2.2.2.2.2.2.2.2.2.2.2.2.2)
def M_set_liquid (z : MS) (y : Int32) : MS := (z.1, z.2.1, z.2.2.1, z.2.2.2.1, z.2.2.2.2.1, z.2.2.2.2.2.1, z.2.2.2.2.2.2.1, z.2.2.2.2.2.2.2.1, z.2.2.2.2.2.2.2.2.1, z.2.2.2.2.2.2.2.2.2.1, z.2.2.2.2.2.2.2.2.2.2.1, z.2.2.2.2.2.2.2.2.2.2.2.1, z.2.2.2.2.2.2.2.2.2.2.2.2.1, y, z.2.2.2.2.2.2.2.2.2.2.2.2.2.2.1, z.2.2.2.2.2.2.2.2.2.2.2.2.2.2.2.1, z.2.2.2.2.2.2.2.2.2.2.2.2.2.2.2.2.1, z.2.2.2.2.2.2.2.2.2.2.2.2.2.2.2.2.2.1, z.2.2.2.2.2.2.2.2.2.2.2.2.2.2.2.2.2.2.1, z.2.2.2.2.2.2.2.2.2.2.2.2.2.2.2.2.2.2.2.1, z.2.2.2.2.2.2.2.2.2.2.2.2.2.2.2.2.2.2.2.2.1, z.2.2.2.2.2.2.2.2.2.2.2.2.2.2.2.2.2.2.2.2.2.1, z.2.2.2.2.2.2.2.2.2.2.2.2.2.2.2.2.2.2.2.2.2.2.1, z.2.2.2.2.2.2.2.2.2.2.2.2.2.2.2.2.2.2.2.2.2.2.2.1, z.2.2.2.2.2.2.2.2.2.2.2.2.2.2.2.2.2.2.2.2.2.2.2.2.1, z.2.2.2.2.2.2.2.2.2.2.2.2.2.2.2.2.2.2.2.2.2.2.2.2.2.1, z.2.2.2.2.2.2.2.2.2.2.2.2.2.2.2.2.2.2.2.2.2.2.2.2.2.2.1, z.2.2.2.2.2.2.2.2.2.2.2.2.2.2.2.2.2.2.2.2.2.2.2.2.2.2.2.1, z.2.2.2.2.2.2.2.2.2.2.2.2.2.2.2.2.2.2.2.2.2.2.2.2.2.2.2.2.1, z.2.2.2.2.2.2.2.2.2.2.2.2.2.2.2.2.2.2.2.2.2.2.2.2.2.2.2.2.2.1, z.2.2.2.2.2.2.2.2.2.2.2.2.2.2.2.2.2.2.2.2.2.2.2.2.2.2.2.2.2.2)
def M_set_minutes (z : MS) (y : Int32) : MS := (z.1, z.2.1, z.2.2.1, z.2.2.2.1, z.2.2.2.2.1, z.2.2.2.2.2.1, z.2.2.2.2.2.2.1, z.2.2.2.2.2.2.2.1, z.2.2.2.2.2.2.2.2.1, z.2.2.2.2.2.2.2.2.2.1, z.2.2.2.2.2.2.2.2.2.2.1, z.2.2.2.2.2.2.2.2.2.2.2.1, z.2.2.2.2.2.2.2.2.2.2.2.2.1, z.2.2.2.2.2.2.2.2.2.2.2.2.2.1, y, z.2.2.2.2.2.2.2.2.2.2.2.2.2.2.2.1, z.2.2.2.2.2.2.2.2.2.2.2.2.2.2.2.2.1, z.2.2.2.2.2.2.2.2.2.2.2.2.2.2.2.2.2.1, z.2.2.2.2.2.2.2.2.2.2.2.2.2.2.2.2.2.2.1, z.2.2.2.2.2.2.2.2.2.2.2.2.2.2.2.2.2.2.2.1, z.2.2.2.2.2.2.2.2.2.2.2.2.2.2.2.2.2.2.2.2.1, z.2.2.2.2.2.2.2.2.2.2.2.2.2.2.2.2.2.2.2.2.2.1, z.2.2.2.2.2.2.2.2.2.2.2.2.2.2.2.2.2.2.2.2.2.2.1, z.2.2.2.2.2.2.2.2.2.2.2.2.2.2.2.2.2.2.2.2.2.2.2.1, z.2.2.2.2.2.2.2.2.2.2.2.2.2.2.2.2.2.2.2.2.2.2.2.2.1, z.2.2.2.2.2.2.2.2.2.2.2.2.2.2.2.2.2.2.2.2.2.2.2.2.2.1, z.2.2.2.2.2.2.2.2.2.2.2.2.2.2.2.2.2.2.2.2.2.2.2.2.2.2.1, z.2.2.2.2.2.2.2.2.2.2.2.2.2.2.2.2.2.2.2.2.2.2.2.2.2.2.2.1, z.2.2.2.2.2.2.2.2.2.2.2.2.2.2.2.2.2.2.2.2.2.2.2.2.2.2.2.2.1, z.2.2.2.2.2.2.2.2.2.2.2.2.2.2.2.2.2.2.2.2.2.2.2.2.2.2.2.2.2.1, z.2.2.2.2.2.2.2.2.2.2.2.2.2.2.2.2.2.2.2.2.2.2.2.2.2.2.2.2.2.2)
def M_set_vented (z : MS) (y : Int64) : MS := (z.1, z.2.1, z.2.2.1, z.2.2.2.1, z.2.2.2.2.1, z.2.2.2.2.2.1, z.2.2.2.2.2.2.1, z.2.2.2.2.2.2.2.1, z.2.2.2.2.2.2.2.2.1, z.2.2.2.2.2.2.2.2.2.1, z.2.2.2.2.2.2.2.2.2.2.1, z.2.2.2.2.2.2.2.2.2.2.2.1, z.2.2.2.2.2.2.2.2.2.2.2.2.1, z.2.2.2.2.2.2.2.2.2.2.2.2.2.1, z.2.2.2.2.2.2.2.2.2.2.2.2.2.2.1, y, z.2.2.2.2.2.2.2.2.2.2.2.2.2.2.2.2.1, z.2.2.2.2.2.2.2.2.2.2.2.2.2.2.2.2.2.1, z.2.2.2.2.2.2.2.2.2.2.2.2.2.2.2.2.2.2.1, z.2.2.2.2.2.2.2.2.2.2.2.2.2.2.2.2.2.2.2.1, z.2.2.2.2.2.2.2.2.2.2.2.2.2.2.2.2.2.2.2.2.1, z.2.2.2.2.2.2.2.2.2.2.2.2.2.2.2.2.2.2.2.2.2.1, z.2.2.2.2.2.2.2.2.2.2.2.2.2.2.2.2.2.2.2.2.2.2.1, z.2.2.2.2.2.2.2.2.2.2.2.2.2.2.2.2.2.2.2.2.2.2.2.1, z.2.2.2.2.2.2.2.2.2.2.2.2.2.2.2.2.2.2.2.2.2.2.2.2.1, z.2.2.2.2.2.2.2.2.2.2.2.2.2.2.2.2.2.2.2.2.2.2.2.2.2.1, z.2.2.2.2.2.2.2.2.2.2.2.2.2.2.2.2.2.2.2.2.2.2.2.2.2.2.1, z.2.2.2.2.2.2.2.2.2.2.2.2.2.2.2.2.2.2.2.2.2.2.2.2.2.2.2.1, z.2.2.2.2.2.2.2.2.2.2.2.2.2.2.2.2.2.2.2.2.2.2.2.2.2.2.2.2.1, z.2.2.2.2.2.2.2.2.2.2.2.2.2.2.2.2.2.2.2.2.2.2.2.2.2.2.2.2.2.1, z.2.2.2.2.2.2.2.2.2.2.2.2.2.2.2.2.2.2.2.2.2.2.2.2.2.2.2.2.2.2)
def M_set_lost (z : MS) (y : Int64) : MS := (z.1, z.2.1, z.2.2.1, z.2.2.2.1, z.2.2.2.2.1, z.2.2.2.2.2.1, z.2.2.2.2.2.2.1, z.2.2.2.2.2.2.2.1, z.2.2.2.2.2.2.2.2.1, z.2.2.2.2.2.2.2.2.2.1, z.2.2.2.2.2.2.2.2.2.2.1, z.2.2.2.2.2.2.2.2.2.2.2.1, z.2.2.2.2.2.2.2.2.2.2.2.2.1, z.2.2.2.2.2.2.2.2.2.2.2.2.2.1, z.2.2.2.2.2.2.2.2.2.2.2.2.2.2.1, z.2.2.2.2.2.2.2.2.2.2.2.2.2.2.2.1, y, z.2.2.2.2.2.2.2.2.2.2.2.2.2.2.2.2.2.1, z.2.2.2.2.2.2.2.2.2.2.2.2.2.2.2.2.2.2.1, z.2.2.2.2.2.2.2.2.2.2.2.2.2.2.2.2.2.2.2.1, z.2.2.2.2.2.2.2.2.2.2.2.2.2.2.2.2.2.2.2.2.1, z.2.2.2.2.2.2.2.2.2.2.2.2.2.2.2.2.2.2.2.2.2.1, z.2.2.2.2.2.2.2.2.2.2.2.2.2.2.2.2.2.2.2.2.2.2.1, z.2.2.2.2.2.2.2.2.2.2.2.2.2.2.2.2.2.2.2.2.2.2.2.1, z.2.2.2.2.2.2.2.2.2.2.2.2.2.2.2.2.2.2.2.2.2.2.2.2.1, z.2.2.2.2.2.2.2.2.2.2.2.2.2.2.2.2.2.2.2.2.2.2.2.2.2.1, z.2.2.2.2.2.2.2.2.2.2.2.2.2.2.2.2.2.2.2.2.2.2.2.2.2.2.1, z.2.2.2.2.2.2.2.2.2.2.2.2.2.2.2.2.2.2.2.2.2.2.2.2.2.2.2.1, z.2.2.2.2.2.2.2.2.2.2.2.2.2.2.2.2.2.2.2.2.2.2.2.2.2.2.2.2.1, z.2.2.2.2.2.2.2.2.2.2.2.2.2.2.2.2.2.2.2.2.2.2.2.2.2.2.2.2.2.1, z.2.2.2.2.2.2.2.2.2.2.2.2.2.2.2.2.2.2.2.2.2.2.2.2.2.2.2.2.2.2)
def M_set_pumped (z : MS) (y : Int32) : MS := (z.1, z.2.1, z.2.2.1, z.2.2.2.1, z.2.2.2.2.1, z.2.2.2.2.2.1, z.2.2.2.2.2.2.1, z.2.2.2.2.2.2.2.1, z.2.2.2.2.2.2.2.2.1, z.2.2.2.2.2.2.2.2.2.1, z.2.2.2.2.2.2.2.2.2.2.1, z.2.2.2.2.2.2.2.2.2.2.2.1, z.2.2.2.2.2.2.2.2.2.2.2.2.1, z.2.2.2.2.2.2.2.2.2.2.2.2.2.1, z.2.2.2.2.2.2.2.2.2.2.2.2.2.2.1, z.2.2.2.2.2.2.2.2.2.2.2.2.2.2.2.1, z.2.2.2.2.2.2.2.2.2.2.2.2.2.2.2.2.1, y, z.2.2.2.2.2.2.2.2.2.2.2.2.2.2.2.2.2.2.1, z.2.2.2.2.2.2.2.2.2.2.2.2.2.2.2.2.2.2.2.1, z.2.2.2.2.2.2.2.2.2.2.2.2.2.2.2.2.2.2.2.2.1, z.2.2.2.2.2.2.2.2.2.2.2.2.2.2.2.2.2.2.2.2.2.1, z.2.2.2.2.2.2.2.2.2.2.2.2.2.2.2.2.2.2.2.2.2.2.1, z.2.2.2.2.2.2.2.2.2.2.2.2.2.2.2.2.2.2.2.2.2.2.2.1, z.2.2.2.2.2.2.2.2.2.2.2.2.2.2.2.2.2.2.2.2.2.2.2.2.1, z.2.2.2.2.2.2.2.2.2.2.2.2.2.2.2.2.2.2.2.2.2.2.2.2.2.1, z.2.2.2.2.2.2.2.2.2.2.2.2.2.2.2.2.2.2.2.2.2.2.2.2.2.2.1, z.2.2.2.2.2.2.2.2.2.2.2.2.2.2.2.2.2.2.2.2.2.2.2.2.2.2.2.1, z.2.2.2.2.2.2.2.2.2.2.2.2.2.2.2.2.2.2.2.2.2.2.2.2.2.2.2.2.1, z.2.2.2.2.2.2.2.2.2.2.2.2.2.2.2.2.2.2.2.2.2.2.2.2.2.2.2.2.2.1, z.2.2.2.2.2.2.2.2.2.2.2.2.2.2.2.2.2.2.2.2.2.2.2.2.2.2.2.2.2.2)
def M_set_pumpedWeight (z : MS) (y : Int32) : MS := (z.1, z.2.1, z.2.2.1, z.2.2.2.1, z.2.2.2.2.1, z.2.2.2.2.2.1, z.2.2.2.2.2.2.1, z.2.2.2.2.2.2.2.1, z.2.2.2.2.2.2.2.2.1, z.2.2.2.2.2.2.2.2.2.1, z.2.2.2.2.2.2.2.2.2.2.1, z.2.2.2.2.2.2.2.2.2.2.2.1, z.2.2.2.2.2.2.2.2.2.2.2.2.1, z.2.2.2.2.2.2.2.2.2.2.2.2.2.1, z.2.2.2.2.2.2.2.2.2.2.2.2.2.2.1, z.2.2.2.2.2.2.2.2.2.2.2.2.2.2.2.1, z.2.2.2.2.2.2.2.2.2.2.2.2.2.2.2.2.1, z.2.2.2.2.2.2.2.2.2.2.2.2.2.2.2.2.2.1, y, z.2.2.2.2.2.2.2.2.2.2.2.2.2.2.2.2.2.2.2.1, z.2.2.2.2.2.2.2.2.2.2.2.2.2.2.2.2.2.2.2.2.1, z.2.2.2.2.2.2.2.2.2.2.2.2.2.2.2.2.2.2.2.2.2.1, z.2.2.2.2.2.2.2.2.2.2.2.2.2.2.2.2.2.2.2.2.2.2.1, z.2.2.2.2.2.2.2.2.2.2.2.2.2.2.2.2.2.2.2.2.2.2.2.1, z.2.2.2.2.2.2.2.2.2.2.2.2.2.2.2.2.2.2.2.2.2.2.2.2.1, z.2.2.2.2.2.2.2.2.2.2.2.2.2.2.2.2.2.2.2.2.2.2.2.2.2.1, z.2.2.2.2.2.2.2.2.2.2.2.2.2.2.2.2.2.2.2.2.2.2.2.2.2.2.1, z.2.2.2.2.2.2.2.2.2.2.2.2.2.2.2.2.2.2.2.2.2.2.2.2.2.2.2.1, z.2.2.2.2.2.2.2.2.2.2.2.2.2.2.2.2.2.2.2.2.2.2.2.2.2.2.2.2.1, z.2.2.2.2.2.2.2.2.2.2.2.2.2.2.2.2.2.2.2.2.2.2.2.2.2.2.2.2.2.1, z.2.2.2.2.2.2.2.2.2.2.2.2.2.2.2.2.2.2.2.2.2.2.2.2.2.2.2.2.2.2)
def M_set_valve (z : MS) (y : Int32) : MS := (z.1, z.2.1, z.2.2.1, z.2.2.2.1, z.2.2.2.2.1, z.2.2.2.2.2.1, z.2.2.2.2.2.2.1, z.2.2.2.2.2.2.2.1, z.2.2.2.2.2.2.2.2.1, z.2.2.2.2.2.2.2.2.2.1, z.2.2.2.2.2.2.2.2.2.2.1, z.2.2.2.2.2.2.2.2.2.2.2.1, z.2.2.2.2.2.2.2.2.2.2.2.2.1, z.2.2.2.2.2.2.2.2.2.2.2.2.2.1, z.2.2.2.2.2.2.2.2.2.2.2.2.2.2.1, z.2.2.2.2.2.2.2.2.2.2.2.2.2.2.2.1, z.2.2.2.2.2.2.2.2.2.2.2.2.2.2.2.2.1, z.2.2.2.2.2.2.2.2.2.2.2.2.2.2.2.2.2.1, z.2.2.2.2.2.2.2.2.2.2.2.2.2.2.2.2.2.2.1, y, z.2.2.2.2.2.2.2.2.2.2.2.2.2.2.2.2.2.2.2.2.1, z.2.2.2.2.2.2.2.2.2.2.2.2.2.2.2.2.2.2.2.2.2.1, z.2.2.2.2.2.2.2.2.2.2.2.2.2.2.2.2.2.2.2.2.2.2.1, z.2.2.2.2.2.2.2.2.2.2.2.2.2.2.2.2.2.2.2.2.2.2.2.1, z.2.2.2.2.2.2.2.2.2.2.2.2.2.2.2.2.2.2.2.2.2.2.2.2.1, z.2.2.2.2.2.2.2.2.2.2.2.2.2.2.2.2.2.2.2.2.2.2.2.2.2.1, z.2.2.2.2.2.2.2.2.2.2.2.2.2.2.2.2.2.2.2.2.2.2.2.2.2.2.1, z.2.2.2.2.2.2.2.2.2.2.2.2.2.2.2.2.2.2.2.2.2.2.2.2.2.2.2.1, z.2.2.2.2.2.2.2.2.2.2.2.2.2.2.2.2.2.2.2.2.2.2.2.2.2.2.2.2.1, z.2.2.2.2.2.2.2.2.2.2.2.2.2.2.2.2.2.2.2.2.2.2.2.2.2.2.2.2.2.1, z.2.2.2.2.2.2.2.2.2.2.2.2.2.2.2.2.2.2.2.2.2.2.2.2.2.2.2.2.2.2)
def M_set_brokenAfter (z : MS) (y : Int32) : MS := (z.1, z.2.1, z.2.2.1, z.2.2.2.1, z.2.2.2.2.1, z.2.2.2.2.2.1, z.2.2.2.2.2.2.1, z.2.2.2.2.2.2.2.1, z.2.2.2.2.2.2.2.2.1, z.2.2.2.2.2.2.2.2.2.1, z.2.2.2.2.2.2.2.2.2.2.1, z.2.2.2.2.2.2.2.2.2.2.2.1, z.2.2.2.2.2.2.2.2.2.2.2.2.1, z.2.2.2.2.2.2.2.2.2.2.2.2.2.1, z.2.2.2.2.2.2.2.2.2.2.2.2.2.2.1, z.2.2.2.2.2.2.2.2.2.2.2.2.2.2.2.1, z.2.2.2.2.2.2.2.2.2.2.2.2.2.2.2.2.1, z.2.2.2.2.2.2.2.2.2.2.2.2.2.2.2.2.2.1, z.2.2.2.2.2.2.2.2.2.2.2.2.2.2.2.2.2.2.1, z.2.2.2.2.2.2.2.2.2.2.2.2.2.2.2.2.2.2.2.1, y, z.2.2.2.2.2.2.2.2.2.2.2.2.2.2.2.2.2.2.2.2.2.1, z.2.2.2.2.2.2.2.2.2.2.2.2.2.2.2.2.2.2.2.2.2.2.1, z.2.2.2.2.2.2.2.2.2.2.2.2.2.2.2.2.2.2.2.2.2.2.2.1, z.2.2.2.2.2.2.2.2.2.2.2.2.2.2.2.2.2.2.2.2.2.2.2.2.1, z.2.2.2.2.2.2.2.2.2.2.2.2.2.2.2.2.2.2.2.2.2.2.2.2.2.1, z.2.2.2.2.2.2.2.2.2.2.2.2.2.2.2.2.2.2.2.2.2.2.2.2.2.2.1, z.2.2.2.2.2.2.2.2.2.2.2.2.2.2.2.2.2.2.2.2.2.2.2.2.2.2.2.1, z.2.2.2.2.2.2.2.2.2.2.2.2.2.2.2.2.2.2.2.2.2.2.2.2.2.2.2.2.1, z.2.2.2.2.2.2.2.2.2.2.2.2.2.2.2.2.2.2.2.2.2.2.2.2.2.2.2.2.2.1, z.2.2.2.2.2.2.2.2.2.2.2.2.2.2.2.2.2.2.2.2.2.2.2.2.2.2.2.2.2.2)
def M_set_cement (z : MS) (y : Int32) : MS := (z.1, z.2.1, z.2.2.1, z.2.2.2.1, z.2.2.2.2.1, z.2.2.2.2.2.1, z.2.2.2.2.2.2.1, z.2.2.2.2.2.2.2.1, z.2.2.2.2.2.2.2.2.1, z.2.2.2.2.2.2.2.2.2.1, z.2.2.2.2.2.2.2.2.2.2.1, z.2.2.2.2.2.2.2.2.2.2.2.1, z.2.2.2.2.2.2.2.2.2.2.2.2.1, z.2.2.2.2.2.2.2.2.2.2.2.2.2.1, z.2.2.2.2.2.2.2.2.2.2.2.2.2.2.1, z.2.2.2.2.2.2.2.2.2.2.2.2.2.2.2.1, z.2.2.2.2.2.2.2.2.2.2.2.2.2.2.2.2.1, z.2.2.2.2.2.2.2.2.2.2.2.2.2.2.2.2.2.1, z.2.2.2.2.2.2.2.2.2.2.2.2.2.2.2.2.2.2.1, z.2.2.2.2.2.2.2.2.2.2.2.2.2.2.2.2.2.2.2.1, z.2.2.2.2.2.2.2.2.2.2.2.2.2.2.2.2.2.2.2.2.1, y, z.2.2.2.2.2.2.2.2.2.2.2.2.2.2.2.2.2.2.2.2.2.2.1, z.2.2.2.2.2.2.2.2.2.2.2.2.2.2.2.2.2.2.2.2.2.2.2.1, z.2.2.2.2.2.2.2.2.2.2.2.2.2.2.2.2.2.2.2.2.2.2.2.2.1, z.2.2.2.2.2.2.2.2.2.2.2.2.2.2.2.2.2.2.2.2.2.2.2.2.2.1, z.2.2.2.2.2.2.2.2.2.2.2.2.2.2.2.2.2.2.2.2.2.2.2.2.2.2.1, z.2.2.2.2.2.2.2.2.2.2.2.2.2.2.2.2.2.2.2.2.2.2.2.2.2.2.2.1, z.2.2.2.2.2.2.2.2.2.2.2.2.2.2.2.2.2.2.2.2.2.2.2.2.2.2.2.2.1, z.2.2.2.2.2.2.2.2.2.2.2.2.2.2.2.2.2.2.2.2.2.2.2.2.2.2.2.2.2.1, z.2.2.2.2.2.2.2.2.2.2.2.2.2.2.2.2.2.2.2.2.2.2.2.2.2.2.2.2.2.2)
def M_set_casedAfter (z : MS) (y : Int32) : MS := (z.1, z.2.1, z.2.2.1, z.2.2.2.1, z.2.2.2.2.1, z.2.2.2.2.2.1, z.2.2.2.2.2.2.1, z.2.2.2.2.2.2.2.1, z.2.2.2.2.2.2.2.2.1, z.2.2.2.2.2.2.2.2.2.1, z.2.2.2.2.2.2.2.2.2.2.1, z.2.2.2.2.2.2.2.2.2.2.2.1, z.2.2.2.2.2.2.2.2.2.2.2.2.1, z.2.2.2.2.2.2.2.2.2.2.2.2.2.1, z.2.2.2.2.2.2.2.2.2.2.2.2.2.2.1, z.2.2.2.2.2.2.2.2.2.2.2.2.2.2.2.1, z.2.2.2.2.2.2.2.2.2.2.2.2.2.2.2.2.1, z.2.2.2.2.2.2.2.2.2.2.2.2.2.2.2.2.2.1, z.2.2.2.2.2.2.2.2.2.2.2.2.2.2.2.2.2.2.1, z.2.2.2.2.2.2.2.2.2.2.2.2.2.2.2.2.2.2.2.1, z.2.2.2.2.2.2.2.2.2.2.2.2.2.2.2.2.2.2.2.2.1, z.2.2.2.2.2.2.2.2.2.2.2.2.2.2.2.2.2.2.2.2.2.1, y, z.2.2.2.2.2.2.2.2.2.2.2.2.2.2.2.2.2.2.2.2.2.2.2.1, z.2.2.2.2.2.2.2.2.2.2.2.2.2.2.2.2.2.2.2.2.2.2.2.2.1, z.2.2.2.2.2.2.2.2.2.2.2.2.2.2.2.2.2.2.2.2.2.2.2.2.2.1, z.2.2.2.2.2.2.2.2.2.2.2.2.2.2.2.2.2.2.2.2.2.2.2.2.2.2.1, z.2.2.2.2.2.2.2.2.2.2.2.2.2.2.2.2.2.2.2.2.2.2.2.2.2.2.2.1, z.2.2.2.2.2.2.2.2.2.2.2.2.2.2.2.2.2.2.2.2.2.2.2.2.2.2.2.2.1, z.2.2.2.2.2.2.2.2.2.2.2.2.2.2.2.2.2.2.2.2.2.2.2.2.2.2.2.2.2.1, z.2.2.2.2.2.2.2.2.2.2.2.2.2.2.2.2.2.2.2.2.2.2.2.2.2.2.2.2.2.2)
def M_set_flowed (z : MS) (y : Int32) : MS := (z.1, z.2.1, z.2.2.1, z.2.2.2.1, z.2.2.2.2.1, z.2.2.2.2.2.1, z.2.2.2.2.2.2.1, z.2.2.2.2.2.2.2.1, z.2.2.2.2.2.2.2.2.1, z.2.2.2.2.2.2.2.2.2.1, z.2.2.2.2.2.2.2.2.2.2.1, z.2.2.2.2.2.2.2.2.2.2.2.1, z.2.2.2.2.2.2.2.2.2.2.2.2.1, z.2.2.2.2.2.2.2.2.2.2.2.2.2.1, z.2.2.2.2.2.2.2.2.2.2.2.2.2.2.1, z.2.2.2.2.2.2.2.2.2.2.2.2.2.2.2.1, z.2.2.2.2.2.2.2.2.2.2.2.2.2.2.2.2.1, z.2.2.2.2.2.2.2.2.2.2.2.2.2.2.2.2.2.1, z.2.2.2.2.2.2.2.2.2.2.2.2.2.2.2.2.2.2.1, z.2.2.2.2.2.2.2.2.2.2.2.2.2.2.2.2.2.2.2.1, z.2.2.2.2.2.2.2.2.2.2.2.2.2.2.2.2.2.2.2.2.1, z.2.2.2.2.2.2.2.2.2.2.2.2.2.2.2.2.2.2.2.2.2.1, z.2.2.2.2.2.2.2.2.2.2.2.2.2.2.2.2.2.2.2.2.2.2.1, y, z.2.2.2.2.2.2.2.2.2.2.2.2.2.2.2.2.2.2.2.2.2.2.2.2.1, z.2.2.2.2.2.2.2.2.2.2.2.2.2.2.2.2.2.2.2.2.2.2.2.2.2.1, z.2.2.2.2.2.2.2.2.2.2.2.2.2.2.2.2.2.2.2.2.2.2.2.2.2.2.1, z.2.2.2.2.2.2.2.2.2.2.2.2.2.2.2.2.2.2.2.2.2.2.2.2.2.2.2.1, z.2.2.2.2.2.2.2.2.2.2.2.2.2.2.2.2.2.2.2.2.2.2.2.2.2.2.2.2.1, z.2.2.2.2.2.2.2.2.2.2.2.2.2.2.2.2.2.2.2.2.2.2.2.2.2.2.2.2.2.1, z.2.2.2.2.2.2.2.2.2.2.2.2.2.2.2.2.2.2.2.2.2.2.2.2.2.2.2.2.2.2)
def M_set_kept (z : MS) (y : (Nat → Int64)) : MS := (z.1, z.2.1, z.2.2.1, z.2.2.2.1, z.2.2.2.2.1, z.2.2.2.2.2.1, z.2.2.2.2.2.2.1, z.2.2.2.2.2.2.2.1, z.2.2.2.2.2.2.2.2.1, z.2.2.2.2.2.2.2.2.2.1, z.2.2.2.2.2.2.2.2.2.2.1, z.2.2.2.2.2.2.2.2.2.2.2.1, z.2.2.2.2.2.2.2.2.2.2.2.2.1, z.2.2.2.2.2.2.2.2.2.2.2.2.2.1, z.2.2.2.2.2.2.2.2.2.2.2.2.2.2.1, z.2.2.2.2.2.2.2.2.2.2.2.2.2.2.2.1, z.2.2.2.2.2.2.2.2.2.2.2.2.2.2.2.2.1, z.2.2.2.2.2.2.2.2.2.2.2.2.2.2.2.2.2.1, z.2.2.2.2.2.2.2.2.2.2.2.2.2.2.2.2.2.2.1, z.2.2.2.2.2.2.2.2.2.2.2.2.2.2.2.2.2.2.2.1, z.2.2.2.2.2.2.2.2.2.2.2.2.2.2.2.2.2.2.2.2.1, z.2.2.2.2.2.2.2.2.2.2.2.2.2.2.2.2.2.2.2.2.2.1, z.2.2.2.2.2.2.2.2.2.2.2.2.2.2.2.2.2.2.2.2.2.2.1, z.2.2.2.2.2.2.2.2.2.2.2.2.2.2.2.2.2.2.2.2.2.2.2.1, y, z.2.2.2.2.2.2.2.2.2.2.2.2.2.2.2.2.2.2.2.2.2.2.2.2.2.1, z.2.2.2.2.2.2.2.2.2.2.2.2.2.2.2.2.2.2.2.2.2.2.2.2.2.2.1, z.2.2.2.2.2.2.2.2.2.2.2.2.2.2.2.2.2.2.2.2.2.2.2.2.2.2.2.1, z.2.2.2.2.2.2.2.2.2.2.2.2.2.2.2.2.2.2.2.2.2.2.2.2.2.2.2.2.1, z.2.2.2.2.2.2.2.2.2.2.2.2.2.2.2.2.2.2.2.2.2.2.2.2.2.2.2.2.2.1, z.2.2.2.2.2.2.2.2.2.2.2.2.2.2.2.2.2.2.2.2.2.2.2.2.2.2.2.2.2.2)
def M_set_tests (z : MS) (y : Int32) : MS := (z.1, z.2.1, z.2.2.1, z.2.2.2.1, z.2.2.2.2.1, z.2.2.2.2.2.1, z.2.2.2.2.2.2.1, z.2.2.2.2.2.2.2.1, z.2.2.2.2.2.2.2.2.1, z.2.2.2.2.2.2.2.2.2.1, z.2.2.2.2.2.2.2.2.2.2.1, z.2.2.2.2.2.2.2.2.2.2.2.1, z.2.2.2.2.2.2.2.2.2.2.2.2.1, z.2.2.2.2.2.2.2.2.2.2.2.2.2.1, z.2.2.2.2.2.2.2.2.2.2.2.2.2.2.1, z.2.2.2.2.2.2.2.2.2.2.2.2.2.2.2.1, z.2.2.2.2.2.2.2.2.2.2.2.2.2.2.2.2.1, z.2.2.2.2.2.2.2.2.2.2.2.2.2.2.2.2.2.1, z.2.2.2.2.2.2.2.2.2.2.2.2.2.2.2.2.2.2.1, z.2.2.2.2.2.2.2.2.2.2.2.2.2.2.2.2.2.2.2.1, z.2.2.2.2.2.2.2.2.2.2.2.2.2.2.2.2.2.2.2.2.1, z.2.2.2.2.2.2.2.2.2.2.2.2.2.2.2.2.2.2.2.2.2.1, z.2.2.2.2.2.2.2.2.2.2.2.2.2.2.2.2.2.2.2.2.2.2.1, z.2.2.2.2.2.2.2.2.2.2.2.2.2.2.2.2.2.2.2.2.2.2.2.1, z.2.2.2.2.2.2.2.2.2.2.2.2.2.2.2.2.2.2.2.2.2.2.2.2.1, y, z.2.2.2.2.2.2.2.2.2.2.2.2.2.2.2.2.2.2.2.2.2.2.2.2.2.2.1, z.2.2.2.2.2.2.2.2.2.2.2.2.2.2.2.2.2.2.2.2.2.2.2.2.2.2.2.1, z.2.2.2.2.2.2.2.2.2.2.2.2.2.2.2.2.2.2.2.2.2.2.2.2.2.2.2.2.1, z.2.2.2.2.2.2.2.2.2.2.2.2.2.2.2.2.2.2.2.2.2.2.2.2.2.2.2.2.2.1, z.2.2.2.2.2.2.2.2.2.2.2.2.2.2.2.2.2.2.2.2.2.2.2.2.2.2.2.2.2.2)
def M_set_tested (z : MS) (y : (Nat → Int32)) : MS := (z.1, z.2.1, z.2.2.1, z.2.2.2.1, z.2.2.2.2.1, z.2.2.2.2.2.1, z.2.2.2.2.2.2.1, z.2.2.2.2.2.2.2.1, z.2.2.2.2.2.2.2.2.1, z.2.2.2.2.2.2.2.2.2.1, z.2.2.2.2.2.2.2.2.2.2.1, z.2.2.2.2.2.2.2.2.2.2.2.1, z.2.2.2.2.2.2.2.2.2.2.2.2.1, z.2.2.2.2.2.2.2.2.2.2.2.2.2.1, z.2.2.2.2.2.2.2.2.2.2.2.2.2.2.1, z.2.2.2.2.2.2.2.2.2.2.2.2.2.2.2.1, z.2.2.2.2.2.2.2.2.2.2.2.2.2.2.2.2.1, z.2.2.2.2.2.2.2.2.2.2.2.2.2.2.2.2.2.1, z.2.2.2.2.2.2.2.2.2.2.2.2.2.2.2.2.2.2.1, z.2.2.2.2.2.2.2.2.2.2.2.2.2.2.2.2.2.2.2.1, z.2.2.2.2.2.2.2.2.2.2.2.2.2.2.2.2.2.2.2.2.1, z.2.2.2.2.2.2.2.2.2.2.2.2.2.2.2.2.2.2.2.2.2.1, z.2.2.2.2.2.2.2.2.2.2.2.2.2.2.2.2.2.2.2.2.2.2.1, z.2.2.2.2.2.2.2.2.2.2.2.2.2.2.2.2.2.2.2.2.2.2.2.1, z.2.2.2.2.2.2.2.2.2.2.2.2.2.2.2.2.2.2.2.2.2.2.2.2.1, z.2.2.2.2.2.2.2.2.2.2.2.2.2.2.2.2.2.2.2.2.2.2.2.2.2.1, y, z.2.2.2.2.2.2.2.2.2.2.2.2.2.2.2.2.2.2.2.2.2.2.2.2.2.2.2.1, z.2.2.2.2.2.2.2.2.2.2.2.2.2.2.2.2.2.2.2.2.2.2.2.2.2.2.2.2.1, z.2.2.2.2.2.2.2.2.2.2.2.2.2.2.2.2.2.2.2.2.2.2.2.2.2.2.2.2.2.1, z.2.2.2.2.2.2.2.2.2.2.2.2.2.2.2.2.2.2.2.2.2.2.2.2.2.2.2.2.2.2)
def M_set_by (z : MS) (y : (Nat → Int32)) : MS := (z.1, z.2.1, z.2.2.1, z.2.2.2.1, z.2.2.2.2.1, z.2.2.2.2.2.1, z.2.2.2.2.2.2.1, z.2.2.2.2.2.2.2.1, z.2.2.2.2.2.2.2.2.1, z.2.2.2.2.2.2.2.2.2.1, z.2.2.2.2.2.2.2.2.2.2.1, z.2.2.2.2.2.2.2.2.2.2.2.1, z.2.2.2.2.2.2.2.2.2.2.2.2.1, z.2.2.2.2.2.2.2.2.2.2.2.2.2.1, z.2.2.2.2.2.2.2.2.2.2.2.2.2.2.1, z.2.2.2.2.2.2.2.2.2.2.2.2.2.2.2.1, z.2.2.2.2.2.2.2.2.2.2.2.2.2.2.2.2.1, z.2.2.2.2.2.2.2.2.2.2.2.2.2.2.2.2.2.1, z.2.2.2.2.2.2.2.2.2.2.2.2.2.2.2.2.2.2.1, z.2.2.2.2.2.2.2.2.2.2.2.2.2.2.2.2.2.2.2.1, z.2.2.2.2.2.2.2.2.2.2.2.2.2.2.2.2.2.2.2.2.1, z.2.2.2.2.2.2.2.2.2.2.2.2.2.2.2.2.2.2.2.2.2.1, z.2.2.2.2.2.2.2.2.2.2.2.2.2.2.2.2.2.2.2.2.2.2.1, z.2.2.2.2.2.2.2.2.2.2.2.2.2.2.2.2.2.2.2.2.2.2.2.1, z.2.2.2.2.2.2.2.2.2.2.2.2.2.2.2.2.2.2.2.2.2.2.2.2.1, z.2.2.2.2.2.2.2.2.2.2.2.2.2.2.2.2.2.2.2.2.2.2.2.2.2.1, z.2.2.2.2.2.2.2.2.2.2.2.2.2.2.2.2.2.2.2.2.2.2.2.2.2.2.1, y, z.2.2.2.2.2.2.2.2.2.2.2.2.2.2.2.2.2.2.2.2.2.2.2.2.2.2.2.2.1, z.2.2.2.2.2.2.2.2.2.2.2.2.2.2.2.2.2.2.2.2.2.2.2.2.2.2.2.2.2.1, z.2.2.2.2.2.2.2.2.2.2.2.2.2.2.2.2.2.2.2.2.2.2.2.2.2.2.2.2.2.2)
def M_set_isPassed (z : MS) (y : (Nat → Int32)) : MS := (z.1, z.2.1, z.2.2.1, z.2.2.2.1, z.2.2.2.2.1, z.2.2.2.2.2.1, z.2.2.2.2.2.2.1, z.2.2.2.2.2.2.2.1, z.2.2.2.2.2.2.2.2.1, z.2.2.2.2.2.2.2.2.2.1, z.2.2.2.2.2.2.2.2.2.2.1, z.2.2.2.2.2.2.2.2.2.2.2.1, z.2.2.2.2.2.2.2.2.2.2.2.2.1, z.2.2.2.2.2.2.2.2.2.2.2.2.2.1, z.2.2.2.2.2.2.2.2.2.2.2.2.2.2.1, z.2.2.2.2.2.2.2.2.2.2.2.2.2.2.2.1, z.2.2.2.2.2.2.2.2.2.2.2.2.2.2.2.2.1, z.2.2.2.2.2.2.2.2.2.2.2.2.2.2.2.2.2.1, z.2.2.2.2.2.2.2.2.2.2.2.2.2.2.2.2.2.2.1, z.2.2.2.2.2.2.2.2.2.2.2.2.2.2.2.2.2.2.2.1, z.2.2.2.2.2.2.2.2.2.2.2.2.2.2.2.2.2.2.2.2.1, z.2.2.2.2.2.2.2.2.2.2.2.2.2.2.2.2.2.2.2.2.2.1, z.2.2.2.2.2.2.2.2.2.2.2.2.2.2.2.2.2.2.2.2.2.2.1, z.2.2.2.2.2.2.2.2.2.2.2.2.2.2.2.2.2.2.2.2.2.2.2.1, z.2.2.2.2.2.2.2.2.2.2.2.2.2.2.2.2.2.2.2.2.2.2.2.2.1, z.2.2.2.2.2.2.2.2.2.2.2.2.2.2.2.2.2.2.2.2.2.2.2.2.2.1, z.2.2.2.2.2.2.2.2.2.2.2.2.2.2.2.2.2.2.2.2.2.2.2.2.2.2.1, z.2.2.2.2.2.2.2.2.2.2.2.2.2.2.2.2.2.2.2.2.2.2.2.2.2.2.2.1, y, z.2.2.2.2.2.2.2.2.2.2.2.2.2.2.2.2.2.2.2.2.2.2.2.2.2.2.2.2.2.1, z.2.2.2.2.2.2.2.2.2.2.2.2.2.2.2.2.2.2.2.2.2.2.2.2.2.2.2.2.2.2)
def M_set_testedAt (z : MS) (y : (Nat → Int32)) : MS := (z.1, z.2.1, z.2.2.1, z.2.2.2.1, z.2.2.2.2.1, z.2.2.2.2.2.1, z.2.2.2.2.2.2.1, z.2.2.2.2.2.2.2.1, z.2.2.2.2.2.2.2.2.1, z.2.2.2.2.2.2.2.2.2.1, z.2.2.2.2.2.2.2.2.2.2.1, z.2.2.2.2.2.2.2.2.2.2.2.1, z.2.2.2.2.2.2.2.2.2.2.2.2.1, z.2.2.2.2.2.2.2.2.2.2.2.2.2.1, z.2.2.2.2.2.2.2.2.2.2.2.2.2.2.1, z.2.2.2.2.2.2.2.2.2.2.2.2.2.2.2.1, z.2.2.2.2.2.2.2.2.2.2.2.2.2.2.2.2.1, z.2.2.2.2.2.2.2.2.2.2.2.2.2.2.2.2.2.1, z.2.2.2.2.2.2.2.2.2.2.2.2.2.2.2.2.2.2.1, z.2.2.2.2.2.2.2.2.2.2.2.2.2.2.2.2.2.2.2.1, z.2.2.2.2.2.2.2.2.2.2.2.2.2.2.2.2.2.2.2.2.1, z.2.2.2.2.2.2.2.2.2.2.2.2.2.2.2.2.2.2.2.2.2.1, z.2.2.2.2.2.2.2.2.2.2.2.2.2.2.2.2.2.2.2.2.2.2.1, z.2.2.2.2.2.2.2.2.2.2.2.2.2.2.2.2.2.2.2.2.2.2.2.1, z.2.2.2.2.2.2.2.2.2.2.2.2.2.2.2.2.2.2.2.2.2.2.2.2.1, z.2.2.2.2.2.2.2.2.2.2.2.2.2.2.2.2.2.2.2.2.2.2.2.2.2.1, z.2.2.2.2.2.2.2.2.2.2.2.2.2.2.2.2.2.2.2.2.2.2.2.2.2.2.1, z.2.2.2.2.2.2.2.2.2.2.2.2.2.2.2.2.2.2.2.2.2.2.2.2.2.2.2.1, z.2.2.2.2.2.2.2.2.2.2.2.2.2.2.2.2.2.2.2.2.2.2.2.2.2.2.2.2.1, y, z.2.2.2.2.2.2.2.2.2.2.2.2.2.2.2.2.2.2.2.2.2.2.2.2.2.2.2.2.2.2)
def M_set_stops (z : MS) (y : (Nat → Int32)) : MS := (z.1, z.2.1, z.2.2.1, z.2.2.2.1, z.2.2.2.2.1, z.2.2.2.2.2.1, z.2.2.2.2.2.2.1, z.2.2.2.2.2.2.2.1, z.2.2.2.2.2.2.2.2.1, z.2.2.2.2.2.2.2.2.2.1, z.2.2.2.2.2.2.2.2.2.2.1, z.2.2.2.2.2.2.2.2.2.2.2.1, z.2.2.2.2.2.2.2.2.2.2.2.2.1, z.2.2.2.2.2.2.2.2.2.2.2.2.2.1, z.2.2.2.2.2.2.2.2.2.2.2.2.2.2.1, z.2.2.2.2.2.2.2.2.2.2.2.2.2.2.2.1, z.2.2.2.2.2.2.2.2.2.2.2.2.2.2.2.2.1, z.2.2.2.2.2.2.2.2.2.2.2.2.2.2.2.2.2.1, z.2.2.2.2.2.2.2.2.2.2.2.2.2.2.2.2.2.2.1, z.2.2.2.2.2.2.2.2.2.2.2.2.2.2.2.2.2.2.2.1, z.2.2.2.2.2.2.2.2.2.2.2.2.2.2.2.2.2.2.2.2.1, z.2.2.2.2.2.2.2.2.2.2.2.2.2.2.2.2.2.2.2.2.2.1, z.2.2.2.2.2.2.2.2.2.2.2.2.2.2.2.2.2.2.2.2.2.2.1, z.2.2.2.2.2.2.2.2.2.2.2.2.2.2.2.2.2.2.2.2.2.2.2.1, z.2.2.2.2.2.2.2.2.2.2.2.2.2.2.2.2.2.2.2.2.2.2.2.2.1, z.2.2.2.2.2.2.2.2.2.2.2.2.2.2.2.2.2.2.2.2.2.2.2.2.2.1, z.2.2.2.2.2.2.2.2.2.2.2.2.2.2.2.2.2.2.2.2.2.2.2.2.2.2.1, z.2.2.2.2.2.2.2.2.2.2.2.2.2.2.2.2.2.2.2.2.2.2.2.2.2.2.2.1, z.2.2.2.2.2.2.2.2.2.2.2.2.2.2.2.2.2.2.2.2.2.2.2.2.2.2.2.2.1, z.2.2.2.2.2.2.2.2.2.2.2.2.2.2.2.2.2.2.2.2.2.2.2.2.2.2.2.2.2.1, y)
theorem M_thrown_set_thrown (z : MS) (y : Int32) : M_thrown (M_set_thrown z y) = y := rfl
theorem M_thrown_set_pore (z : MS) (y : (Nat → Int32)) : M_thrown (M_set_pore z y) = M_thrown z := rfl
theorem M_thrown_set_breaks (z : MS) (y : (Nat → Int32)) : M_thrown (M_set_breaks z y) = M_thrown z := rfl
theorem M_thrown_set_rate (z : MS) (y : (Nat → Int32)) : M_thrown (M_set_rate z y) = M_thrown z := rfl
theorem M_thrown_set_bearsGas (z : MS) (y : (Nat → Int32)) : M_thrown (M_set_bearsGas z y) = M_thrown z := rfl
theorem M_thrown_set_depth (z : MS) (y : Int32) : M_thrown (M_set_depth z y) = M_thrown z := rfl
theorem M_thrown_set_shoe (z : MS) (y : Int32) : M_thrown (M_set_shoe z y) = M_thrown z := rfl
theorem M_thrown_set_weight (z : MS) (y : Int32) : M_thrown (M_set_weight z y) = M_thrown z := rfl
theorem M_thrown_set_isClosed (z : MS) (y : Int32) : M_thrown (M_set_isClosed z y) = M_thrown z := rfl
theorem M_thrown_set_choke (z : MS) (y : Int32) : M_thrown (M_set_choke z y) = M_thrown z := rfl
theorem M_thrown_set_charge (z : MS) (y : Int64) : M_thrown (M_set_charge z y) = M_thrown z := rfl
theorem M_thrown_set_place (z : MS) (y : Int32) : M_thrown (M_set_place z y) = M_thrown z := rfl
theorem M_thrown_set_gas (z : MS) (y : Int32) : M_thrown (M_set_gas z y) = M_thrown z := rfl
theorem M_thrown_set_liquid (z : MS) (y : Int32) : M_thrown (M_set_liquid z y) = M_thrown z := rfl
theorem M_thrown_set_minutes (z : MS) (y : Int32) : M_thrown (M_set_minutes z y) = M_thrown z := rfl
theorem M_thrown_set_vented (z : MS) (y : Int64) : M_thrown (M_set_vented z y) = M_thrown z := rfl
theorem M_thrown_set_lost (z : MS) (y : Int64) : M_thrown (M_set_lost z y) = M_thrown z := rfl
theorem M_thrown_set_pumped (z : MS) (y : Int32) : M_thrown (M_set_pumped z y) = M_thrown z := rfl
theorem M_thrown_set_pumpedWeight (z : MS) (y : Int32) : M_thrown (M_set_pumpedWeight z y) = M_thrown z := rfl
theorem M_thrown_set_valve (z : MS) (y : Int32) : M_thrown (M_set_valve z y) = M_thrown z := rfl
theorem M_thrown_set_brokenAfter (z : MS) (y : Int32) : M_thrown (M_set_brokenAfter z y) = M_thrown z := rfl
theorem M_thrown_set_cement (z : MS) (y : Int32) : M_thrown (M_set_cement z y) = M_thrown z := rfl
theorem M_thrown_set_casedAfter (z : MS) (y : Int32) : M_thrown (M_set_casedAfter z y) = M_thrown z := rfl
theorem M_thrown_set_flowed (z : MS) (y : Int32) : M_thrown (M_set_flowed z y) = M_thrown z := rfl
theorem M_thrown_set_kept (z : MS) (y : (Nat → Int64)) : M_thrown (M_set_kept z y) = M_thrown z := rfl
theorem M_thrown_set_tests (z : MS) (y : Int32) : M_thrown (M_set_tests z y) = M_thrown z := rfl
theorem M_thrown_set_tested (z : MS) (y : (Nat → Int32)) : M_thrown (M_set_tested z y) = M_thrown z := rfl
theorem M_thrown_set_by (z : MS) (y : (Nat → Int32)) : M_thrown (M_set_by z y) = M_thrown z := rfl
theorem M_thrown_set_isPassed (z : MS) (y : (Nat → Int32)) : M_thrown (M_set_isPassed z y) = M_thrown z := rfl
theorem M_thrown_set_testedAt (z : MS) (y : (Nat → Int32)) : M_thrown (M_set_testedAt z y) = M_thrown z := rfl
theorem M_thrown_set_stops (z : MS) (y : (Nat → Int32)) : M_thrown (M_set_stops z y) = M_thrown z := rfl
theorem M_pore_set_thrown (z : MS) (y : Int32) : M_pore (M_set_thrown z y) = M_pore z := rfl
theorem M_pore_set_pore (z : MS) (y : (Nat → Int32)) : M_pore (M_set_pore z y) = y := rfl
theorem M_pore_set_breaks (z : MS) (y : (Nat → Int32)) : M_pore (M_set_breaks z y) = M_pore z := rfl
theorem M_pore_set_rate (z : MS) (y : (Nat → Int32)) : M_pore (M_set_rate z y) = M_pore z := rfl
theorem M_pore_set_bearsGas (z : MS) (y : (Nat → Int32)) : M_pore (M_set_bearsGas z y) = M_pore z := rfl
theorem M_pore_set_depth (z : MS) (y : Int32) : M_pore (M_set_depth z y) = M_pore z := rfl
theorem M_pore_set_shoe (z : MS) (y : Int32) : M_pore (M_set_shoe z y) = M_pore z := rfl
theorem M_pore_set_weight (z : MS) (y : Int32) : M_pore (M_set_weight z y) = M_pore z := rfl
theorem M_pore_set_isClosed (z : MS) (y : Int32) : M_pore (M_set_isClosed z y) = M_pore z := rfl
theorem M_pore_set_choke (z : MS) (y : Int32) : M_pore (M_set_choke z y) = M_pore z := rfl
theorem M_pore_set_charge (z : MS) (y : Int64) : M_pore (M_set_charge z y) = M_pore z := rfl
theorem M_pore_set_place (z : MS) (y : Int32) : M_pore (M_set_place z y) = M_pore z := rfl
theorem M_pore_set_gas (z : MS) (y : Int32) : M_pore (M_set_gas z y) = M_pore z := rfl
theorem M_pore_set_liquid (z : MS) (y : Int32) : M_pore (M_set_liquid z y) = M_pore z := rfl
theorem M_pore_set_minutes (z : MS) (y : Int32) : M_pore (M_set_minutes z y) = M_pore z := rfl
theorem M_pore_set_vented (z : MS) (y : Int64) : M_pore (M_set_vented z y) = M_pore z := rfl
theorem M_pore_set_lost (z : MS) (y : Int64) : M_pore (M_set_lost z y) = M_pore z := rfl
theorem M_pore_set_pumped (z : MS) (y : Int32) : M_pore (M_set_pumped z y) = M_pore z := rfl
theorem M_pore_set_pumpedWeight (z : MS) (y : Int32) : M_pore (M_set_pumpedWeight z y) = M_pore z := rfl
theorem M_pore_set_valve (z : MS) (y : Int32) : M_pore (M_set_valve z y) = M_pore z := rfl
theorem M_pore_set_brokenAfter (z : MS) (y : Int32) : M_pore (M_set_brokenAfter z y) = M_pore z := rfl
theorem M_pore_set_cement (z : MS) (y : Int32) : M_pore (M_set_cement z y) = M_pore z := rfl
theorem M_pore_set_casedAfter (z : MS) (y : Int32) : M_pore (M_set_casedAfter z y) = M_pore z := rfl
theorem M_pore_set_flowed (z : MS) (y : Int32) : M_pore (M_set_flowed z y) = M_pore z := rfl
theorem M_pore_set_kept (z : MS) (y : (Nat → Int64)) : M_pore (M_set_kept z y) = M_pore z := rfl
theorem M_pore_set_tests (z : MS) (y : Int32) : M_pore (M_set_tests z y) = M_pore z := rfl
theorem M_pore_set_tested (z : MS) (y : (Nat → Int32)) : M_pore (M_set_tested z y) = M_pore z := rfl
theorem M_pore_set_by (z : MS) (y : (Nat → Int32)) : M_pore (M_set_by z y) = M_pore z := rfl
theorem M_pore_set_isPassed (z : MS) (y : (Nat → Int32)) : M_pore (M_set_isPassed z y) = M_pore z := rfl
theorem M_pore_set_testedAt (z : MS) (y : (Nat → Int32)) : M_pore (M_set_testedAt z y) = M_pore z := rfl
theorem M_pore_set_stops (z : MS) (y : (Nat → Int32)) : M_pore (M_set_stops z y) = M_pore z := rfl
theorem M_breaks_set_thrown (z : MS) (y : Int32) : M_breaks (M_set_thrown z y) = M_breaks z := rfl
theorem M_breaks_set_pore (z : MS) (y : (Nat → Int32)) : M_breaks (M_set_pore z y) = M_breaks z := rfl
theorem M_breaks_set_breaks (z : MS) (y : (Nat → Int32)) : M_breaks (M_set_breaks z y) = y := rfl
theorem M_breaks_set_rate (z : MS) (y : (Nat → Int32)) : M_breaks (M_set_rate z y) = M_breaks z := rfl
theorem M_breaks_set_bearsGas (z : MS) (y : (Nat → Int32)) : M_breaks (M_set_bearsGas z y) = M_breaks z := rfl
theorem M_breaks_set_depth (z : MS) (y : Int32) : M_breaks (M_set_depth z y) = M_breaks z := rfl
theorem M_breaks_set_shoe (z : MS) (y : Int32) : M_breaks (M_set_shoe z y) = M_breaks z := rfl
theorem M_breaks_set_weight (z : MS) (y : Int32) : M_breaks (M_set_weight z y) = M_breaks z := rfl
theorem M_breaks_set_isClosed (z : MS) (y : Int32) : M_breaks (M_set_isClosed z y) = M_breaks z := rfl
theorem M_breaks_set_choke (z : MS) (y : Int32) : M_breaks (M_set_choke z y) = M_breaks z := rfl
theorem M_breaks_set_charge (z : MS) (y : Int64) : M_breaks (M_set_charge z y) = M_breaks z := rfl
theorem M_breaks_set_place (z : MS) (y : Int32) : M_breaks (M_set_place z y) = M_breaks z := rfl
theorem M_breaks_set_gas (z : MS) (y : Int32) : M_breaks (M_set_gas z y) = M_breaks z := rfl
theorem M_breaks_set_liquid (z : MS) (y : Int32) : M_breaks (M_set_liquid z y) = M_breaks z := rfl
theorem M_breaks_set_minutes (z : MS) (y : Int32) : M_breaks (M_set_minutes z y) = M_breaks z := rfl
theorem M_breaks_set_vented (z : MS) (y : Int64) : M_breaks (M_set_vented z y) = M_breaks z := rfl
theorem M_breaks_set_lost (z : MS) (y : Int64) : M_breaks (M_set_lost z y) = M_breaks z := rfl
theorem M_breaks_set_pumped (z : MS) (y : Int32) : M_breaks (M_set_pumped z y) = M_breaks z := rfl
theorem M_breaks_set_pumpedWeight (z : MS) (y : Int32) : M_breaks (M_set_pumpedWeight z y) = M_breaks z := rfl
theorem M_breaks_set_valve (z : MS) (y : Int32) : M_breaks (M_set_valve z y) = M_breaks z := rfl
theorem M_breaks_set_brokenAfter (z : MS) (y : Int32) : M_breaks (M_set_brokenAfter z y) = M_breaks z := rfl
theorem M_breaks_set_cement (z : MS) (y : Int32) : M_breaks (M_set_cement z y) = M_breaks z := rfl
theorem M_breaks_set_casedAfter (z : MS) (y : Int32) : M_breaks (M_set_casedAfter z y) = M_breaks z := rfl
theorem M_breaks_set_flowed (z : MS) (y : Int32) : M_breaks (M_set_flowed z y) = M_breaks z := rfl
theorem M_breaks_set_kept (z : MS) (y : (Nat → Int64)) : M_breaks (M_set_kept z y) = M_breaks z := rfl
theorem M_breaks_set_tests (z : MS) (y : Int32) : M_breaks (M_set_tests z y) = M_breaks z := rfl
theorem M_breaks_set_tested (z : MS) (y : (Nat → Int32)) : M_breaks (M_set_tested z y) = M_breaks z := rfl
theorem M_breaks_set_by (z : MS) (y : (Nat → Int32)) : M_breaks (M_set_by z y) = M_breaks z := rfl
theorem M_breaks_set_isPassed (z : MS) (y : (Nat → Int32)) : M_breaks (M_set_isPassed z y) = M_breaks z := rfl
theorem M_breaks_set_testedAt (z : MS) (y : (Nat → Int32)) : M_breaks (M_set_testedAt z y) = M_breaks z := rfl
theorem M_breaks_set_stops (z : MS) (y : (Nat → Int32)) : M_breaks (M_set_stops z y) = M_breaks z := rfl
theorem M_rate_set_thrown (z : MS) (y : Int32) : M_rate (M_set_thrown z y) = M_rate z := rfl
theorem M_rate_set_pore (z : MS) (y : (Nat → Int32)) : M_rate (M_set_pore z y) = M_rate z := rfl
theorem M_rate_set_breaks (z : MS) (y : (Nat → Int32)) : M_rate (M_set_breaks z y) = M_rate z := rfl
theorem M_rate_set_rate (z : MS) (y : (Nat → Int32)) : M_rate (M_set_rate z y) = y := rfl
theorem M_rate_set_bearsGas (z : MS) (y : (Nat → Int32)) : M_rate (M_set_bearsGas z y) = M_rate z := rfl
theorem M_rate_set_depth (z : MS) (y : Int32) : M_rate (M_set_depth z y) = M_rate z := rfl
theorem M_rate_set_shoe (z : MS) (y : Int32) : M_rate (M_set_shoe z y) = M_rate z := rfl
theorem M_rate_set_weight (z : MS) (y : Int32) : M_rate (M_set_weight z y) = M_rate z := rfl
theorem M_rate_set_isClosed (z : MS) (y : Int32) : M_rate (M_set_isClosed z y) = M_rate z := rfl
theorem M_rate_set_choke (z : MS) (y : Int32) : M_rate (M_set_choke z y) = M_rate z := rfl
theorem M_rate_set_charge (z : MS) (y : Int64) : M_rate (M_set_charge z y) = M_rate z := rfl
theorem M_rate_set_place (z : MS) (y : Int32) : M_rate (M_set_place z y) = M_rate z := rfl
theorem M_rate_set_gas (z : MS) (y : Int32) : M_rate (M_set_gas z y) = M_rate z := rfl
theorem M_rate_set_liquid (z : MS) (y : Int32) : M_rate (M_set_liquid z y) = M_rate z := rfl
theorem M_rate_set_minutes (z : MS) (y : Int32) : M_rate (M_set_minutes z y) = M_rate z := rfl
theorem M_rate_set_vented (z : MS) (y : Int64) : M_rate (M_set_vented z y) = M_rate z := rfl
theorem M_rate_set_lost (z : MS) (y : Int64) : M_rate (M_set_lost z y) = M_rate z := rfl
theorem M_rate_set_pumped (z : MS) (y : Int32) : M_rate (M_set_pumped z y) = M_rate z := rfl
theorem M_rate_set_pumpedWeight (z : MS) (y : Int32) : M_rate (M_set_pumpedWeight z y) = M_rate z := rfl
theorem M_rate_set_valve (z : MS) (y : Int32) : M_rate (M_set_valve z y) = M_rate z := rfl
theorem M_rate_set_brokenAfter (z : MS) (y : Int32) : M_rate (M_set_brokenAfter z y) = M_rate z := rfl
theorem M_rate_set_cement (z : MS) (y : Int32) : M_rate (M_set_cement z y) = M_rate z := rfl
theorem M_rate_set_casedAfter (z : MS) (y : Int32) : M_rate (M_set_casedAfter z y) = M_rate z := rfl
theorem M_rate_set_flowed (z : MS) (y : Int32) : M_rate (M_set_flowed z y) = M_rate z := rfl
theorem M_rate_set_kept (z : MS) (y : (Nat → Int64)) : M_rate (M_set_kept z y) = M_rate z := rfl
theorem M_rate_set_tests (z : MS) (y : Int32) : M_rate (M_set_tests z y) = M_rate z := rfl
theorem M_rate_set_tested (z : MS) (y : (Nat → Int32)) : M_rate (M_set_tested z y) = M_rate z := rfl
theorem M_rate_set_by (z : MS) (y : (Nat → Int32)) : M_rate (M_set_by z y) = M_rate z := rfl
theorem M_rate_set_isPassed (z : MS) (y : (Nat → Int32)) : M_rate (M_set_isPassed z y) = M_rate z := rfl
theorem M_rate_set_testedAt (z : MS) (y : (Nat → Int32)) : M_rate (M_set_testedAt z y) = M_rate z := rfl
theorem M_rate_set_stops (z : MS) (y : (Nat → Int32)) : M_rate (M_set_stops z y) = M_rate z := rfl
theorem M_bearsGas_set_thrown (z : MS) (y : Int32) : M_bearsGas (M_set_thrown z y) = M_bearsGas z := rfl
theorem M_bearsGas_set_pore (z : MS) (y : (Nat → Int32)) : M_bearsGas (M_set_pore z y) = M_bearsGas z := rfl
theorem M_bearsGas_set_breaks (z : MS) (y : (Nat → Int32)) : M_bearsGas (M_set_breaks z y) = M_bearsGas z := rfl
theorem M_bearsGas_set_rate (z : MS) (y : (Nat → Int32)) : M_bearsGas (M_set_rate z y) = M_bearsGas z := rfl
theorem M_bearsGas_set_bearsGas (z : MS) (y : (Nat → Int32)) : M_bearsGas (M_set_bearsGas z y) = y := rfl
theorem M_bearsGas_set_depth (z : MS) (y : Int32) : M_bearsGas (M_set_depth z y) = M_bearsGas z := rfl
theorem M_bearsGas_set_shoe (z : MS) (y : Int32) : M_bearsGas (M_set_shoe z y) = M_bearsGas z := rfl
theorem M_bearsGas_set_weight (z : MS) (y : Int32) : M_bearsGas (M_set_weight z y) = M_bearsGas z := rfl
theorem M_bearsGas_set_isClosed (z : MS) (y : Int32) : M_bearsGas (M_set_isClosed z y) = M_bearsGas z := rfl
theorem M_bearsGas_set_choke (z : MS) (y : Int32) : M_bearsGas (M_set_choke z y) = M_bearsGas z := rfl
theorem M_bearsGas_set_charge (z : MS) (y : Int64) : M_bearsGas (M_set_charge z y) = M_bearsGas z := rfl
theorem M_bearsGas_set_place (z : MS) (y : Int32) : M_bearsGas (M_set_place z y) = M_bearsGas z := rfl
theorem M_bearsGas_set_gas (z : MS) (y : Int32) : M_bearsGas (M_set_gas z y) = M_bearsGas z := rfl
theorem M_bearsGas_set_liquid (z : MS) (y : Int32) : M_bearsGas (M_set_liquid z y) = M_bearsGas z := rfl
theorem M_bearsGas_set_minutes (z : MS) (y : Int32) : M_bearsGas (M_set_minutes z y) = M_bearsGas z := rfl
theorem M_bearsGas_set_vented (z : MS) (y : Int64) : M_bearsGas (M_set_vented z y) = M_bearsGas z := rfl
theorem M_bearsGas_set_lost (z : MS) (y : Int64) : M_bearsGas (M_set_lost z y) = M_bearsGas z := rfl
theorem M_bearsGas_set_pumped (z : MS) (y : Int32) : M_bearsGas (M_set_pumped z y) = M_bearsGas z := rfl
theorem M_bearsGas_set_pumpedWeight (z : MS) (y : Int32) : M_bearsGas (M_set_pumpedWeight z y) = M_bearsGas z := rfl
theorem M_bearsGas_set_valve (z : MS) (y : Int32) : M_bearsGas (M_set_valve z y) = M_bearsGas z := rfl
theorem M_bearsGas_set_brokenAfter (z : MS) (y : Int32) : M_bearsGas (M_set_brokenAfter z y) = M_bearsGas z := rfl
theorem M_bearsGas_set_cement (z : MS) (y : Int32) : M_bearsGas (M_set_cement z y) = M_bearsGas z := rfl
theorem M_bearsGas_set_casedAfter (z : MS) (y : Int32) : M_bearsGas (M_set_casedAfter z y) = M_bearsGas z := rfl
theorem M_bearsGas_set_flowed (z : MS) (y : Int32) : M_bearsGas (M_set_flowed z y) = M_bearsGas z := rfl
theorem M_bearsGas_set_kept (z : MS) (y : (Nat → Int64)) : M_bearsGas (M_set_kept z y) = M_bearsGas z := rfl
theorem M_bearsGas_set_tests (z : MS) (y : Int32) : M_bearsGas (M_set_tests z y) = M_bearsGas z := rfl
theorem M_bearsGas_set_tested (z : MS) (y : (Nat → Int32)) : M_bearsGas (M_set_tested z y) = M_bearsGas z := rfl
theorem M_bearsGas_set_by (z : MS) (y : (Nat → Int32)) : M_bearsGas (M_set_by z y) = M_bearsGas z := rfl
theorem M_bearsGas_set_isPassed (z : MS) (y : (Nat → Int32)) : M_bearsGas (M_set_isPassed z y) = M_bearsGas z := rfl
theorem M_bearsGas_set_testedAt (z : MS) (y : (Nat → Int32)) : M_bearsGas (M_set_testedAt z y) = M_bearsGas z := rfl
theorem M_bearsGas_set_stops (z : MS) (y : (Nat → Int32)) : M_bearsGas (M_set_stops z y) = M_bearsGas z := rfl
theorem M_depth_set_thrown (z : MS) (y : Int32) : M_depth (M_set_thrown z y) = M_depth z := rfl
theorem M_depth_set_pore (z : MS) (y : (Nat → Int32)) : M_depth (M_set_pore z y) = M_depth z := rfl
theorem M_depth_set_breaks (z : MS) (y : (Nat → Int32)) : M_depth (M_set_breaks z y) = M_depth z := rfl
theorem M_depth_set_rate (z : MS) (y : (Nat → Int32)) : M_depth (M_set_rate z y) = M_depth z := rfl
theorem M_depth_set_bearsGas (z : MS) (y : (Nat → Int32)) : M_depth (M_set_bearsGas z y) = M_depth z := rfl
theorem M_depth_set_depth (z : MS) (y : Int32) : M_depth (M_set_depth z y) = y := rfl
theorem M_depth_set_shoe (z : MS) (y : Int32) : M_depth (M_set_shoe z y) = M_depth z := rfl
theorem M_depth_set_weight (z : MS) (y : Int32) : M_depth (M_set_weight z y) = M_depth z := rfl
theorem M_depth_set_isClosed (z : MS) (y : Int32) : M_depth (M_set_isClosed z y) = M_depth z := rfl
theorem M_depth_set_choke (z : MS) (y : Int32) : M_depth (M_set_choke z y) = M_depth z := rfl
theorem M_depth_set_charge (z : MS) (y : Int64) : M_depth (M_set_charge z y) = M_depth z := rfl
theorem M_depth_set_place (z : MS) (y : Int32) : M_depth (M_set_place z y) = M_depth z := rfl
theorem M_depth_set_gas (z : MS) (y : Int32) : M_depth (M_set_gas z y) = M_depth z := rfl
theorem M_depth_set_liquid (z : MS) (y : Int32) : M_depth (M_set_liquid z y) = M_depth z := rfl
theorem M_depth_set_minutes (z : MS) (y : Int32) : M_depth (M_set_minutes z y) = M_depth z := rfl
theorem M_depth_set_vented (z : MS) (y : Int64) : M_depth (M_set_vented z y) = M_depth z := rfl
theorem M_depth_set_lost (z : MS) (y : Int64) : M_depth (M_set_lost z y) = M_depth z := rfl
theorem M_depth_set_pumped (z : MS) (y : Int32) : M_depth (M_set_pumped z y) = M_depth z := rfl
theorem M_depth_set_pumpedWeight (z : MS) (y : Int32) : M_depth (M_set_pumpedWeight z y) = M_depth z := rfl
theorem M_depth_set_valve (z : MS) (y : Int32) : M_depth (M_set_valve z y) = M_depth z := rfl
theorem M_depth_set_brokenAfter (z : MS) (y : Int32) : M_depth (M_set_brokenAfter z y) = M_depth z := rfl
theorem M_depth_set_cement (z : MS) (y : Int32) : M_depth (M_set_cement z y) = M_depth z := rfl
theorem M_depth_set_casedAfter (z : MS) (y : Int32) : M_depth (M_set_casedAfter z y) = M_depth z := rfl
theorem M_depth_set_flowed (z : MS) (y : Int32) : M_depth (M_set_flowed z y) = M_depth z := rfl
theorem M_depth_set_kept (z : MS) (y : (Nat → Int64)) : M_depth (M_set_kept z y) = M_depth z := rfl
theorem M_depth_set_tests (z : MS) (y : Int32) : M_depth (M_set_tests z y) = M_depth z := rfl
theorem M_depth_set_tested (z : MS) (y : (Nat → Int32)) : M_depth (M_set_tested z y) = M_depth z := rfl
theorem M_depth_set_by (z : MS) (y : (Nat → Int32)) : M_depth (M_set_by z y) = M_depth z := rfl
theorem M_depth_set_isPassed (z : MS) (y : (Nat → Int32)) : M_depth (M_set_isPassed z y) = M_depth z := rfl
theorem M_depth_set_testedAt (z : MS) (y : (Nat → Int32)) : M_depth (M_set_testedAt z y) = M_depth z := rfl
theorem M_depth_set_stops (z : MS) (y : (Nat → Int32)) : M_depth (M_set_stops z y) = M_depth z := rfl
theorem M_shoe_set_thrown (z : MS) (y : Int32) : M_shoe (M_set_thrown z y) = M_shoe z := rfl
theorem M_shoe_set_pore (z : MS) (y : (Nat → Int32)) : M_shoe (M_set_pore z y) = M_shoe z := rfl
theorem M_shoe_set_breaks (z : MS) (y : (Nat → Int32)) : M_shoe (M_set_breaks z y) = M_shoe z := rfl
theorem M_shoe_set_rate (z : MS) (y : (Nat → Int32)) : M_shoe (M_set_rate z y) = M_shoe z := rfl
theorem M_shoe_set_bearsGas (z : MS) (y : (Nat → Int32)) : M_shoe (M_set_bearsGas z y) = M_shoe z := rfl
theorem M_shoe_set_depth (z : MS) (y : Int32) : M_shoe (M_set_depth z y) = M_shoe z := rfl
theorem M_shoe_set_shoe (z : MS) (y : Int32) : M_shoe (M_set_shoe z y) = y := rfl
theorem M_shoe_set_weight (z : MS) (y : Int32) : M_shoe (M_set_weight z y) = M_shoe z := rfl
theorem M_shoe_set_isClosed (z : MS) (y : Int32) : M_shoe (M_set_isClosed z y) = M_shoe z := rfl
theorem M_shoe_set_choke (z : MS) (y : Int32) : M_shoe (M_set_choke z y) = M_shoe z := rfl
theorem M_shoe_set_charge (z : MS) (y : Int64) : M_shoe (M_set_charge z y) = M_shoe z := rfl
theorem M_shoe_set_place (z : MS) (y : Int32) : M_shoe (M_set_place z y) = M_shoe z := rfl
theorem M_shoe_set_gas (z : MS) (y : Int32) : M_shoe (M_set_gas z y) = M_shoe z := rfl
theorem M_shoe_set_liquid (z : MS) (y : Int32) : M_shoe (M_set_liquid z y) = M_shoe z := rfl
theorem M_shoe_set_minutes (z : MS) (y : Int32) : M_shoe (M_set_minutes z y) = M_shoe z := rfl
theorem M_shoe_set_vented (z : MS) (y : Int64) : M_shoe (M_set_vented z y) = M_shoe z := rfl
theorem M_shoe_set_lost (z : MS) (y : Int64) : M_shoe (M_set_lost z y) = M_shoe z := rfl
theorem M_shoe_set_pumped (z : MS) (y : Int32) : M_shoe (M_set_pumped z y) = M_shoe z := rfl
theorem M_shoe_set_pumpedWeight (z : MS) (y : Int32) : M_shoe (M_set_pumpedWeight z y) = M_shoe z := rfl
theorem M_shoe_set_valve (z : MS) (y : Int32) : M_shoe (M_set_valve z y) = M_shoe z := rfl
theorem M_shoe_set_brokenAfter (z : MS) (y : Int32) : M_shoe (M_set_brokenAfter z y) = M_shoe z := rfl
theorem M_shoe_set_cement (z : MS) (y : Int32) : M_shoe (M_set_cement z y) = M_shoe z := rfl
theorem M_shoe_set_casedAfter (z : MS) (y : Int32) : M_shoe (M_set_casedAfter z y) = M_shoe z := rfl
theorem M_shoe_set_flowed (z : MS) (y : Int32) : M_shoe (M_set_flowed z y) = M_shoe z := rfl
theorem M_shoe_set_kept (z : MS) (y : (Nat → Int64)) : M_shoe (M_set_kept z y) = M_shoe z := rfl
theorem M_shoe_set_tests (z : MS) (y : Int32) : M_shoe (M_set_tests z y) = M_shoe z := rfl
theorem M_shoe_set_tested (z : MS) (y : (Nat → Int32)) : M_shoe (M_set_tested z y) = M_shoe z := rfl
theorem M_shoe_set_by (z : MS) (y : (Nat → Int32)) : M_shoe (M_set_by z y) = M_shoe z := rfl
theorem M_shoe_set_isPassed (z : MS) (y : (Nat → Int32)) : M_shoe (M_set_isPassed z y) = M_shoe z := rfl
theorem M_shoe_set_testedAt (z : MS) (y : (Nat → Int32)) : M_shoe (M_set_testedAt z y) = M_shoe z := rfl
theorem M_shoe_set_stops (z : MS) (y : (Nat → Int32)) : M_shoe (M_set_stops z y) = M_shoe z := rfl
theorem M_weight_set_thrown (z : MS) (y : Int32) : M_weight (M_set_thrown z y) = M_weight z := rfl
theorem M_weight_set_pore (z : MS) (y : (Nat → Int32)) : M_weight (M_set_pore z y) = M_weight z := rfl
theorem M_weight_set_breaks (z : MS) (y : (Nat → Int32)) : M_weight (M_set_breaks z y) = M_weight z := rfl
theorem M_weight_set_rate (z : MS) (y : (Nat → Int32)) : M_weight (M_set_rate z y) = M_weight z := rfl
theorem M_weight_set_bearsGas (z : MS) (y : (Nat → Int32)) : M_weight (M_set_bearsGas z y) = M_weight z := rfl
theorem M_weight_set_depth (z : MS) (y : Int32) : M_weight (M_set_depth z y) = M_weight z := rfl
theorem M_weight_set_shoe (z : MS) (y : Int32) : M_weight (M_set_shoe z y) = M_weight z := rfl
theorem M_weight_set_weight (z : MS) (y : Int32) : M_weight (M_set_weight z y) = y := rfl
theorem M_weight_set_isClosed (z : MS) (y : Int32) : M_weight (M_set_isClosed z y) = M_weight z := rfl
theorem M_weight_set_choke (z : MS) (y : Int32) : M_weight (M_set_choke z y) = M_weight z := rfl
theorem M_weight_set_charge (z : MS) (y : Int64) : M_weight (M_set_charge z y) = M_weight z := rfl
theorem M_weight_set_place (z : MS) (y : Int32) : M_weight (M_set_place z y) = M_weight z := rfl
theorem M_weight_set_gas (z : MS) (y : Int32) : M_weight (M_set_gas z y) = M_weight z := rfl
theorem M_weight_set_liquid (z : MS) (y : Int32) : M_weight (M_set_liquid z y) = M_weight z := rfl
theorem M_weight_set_minutes (z : MS) (y : Int32) : M_weight (M_set_minutes z y) = M_weight z := rfl
theorem M_weight_set_vented (z : MS) (y : Int64) : M_weight (M_set_vented z y) = M_weight z := rfl
theorem M_weight_set_lost (z : MS) (y : Int64) : M_weight (M_set_lost z y) = M_weight z := rfl
theorem M_weight_set_pumped (z : MS) (y : Int32) : M_weight (M_set_pumped z y) = M_weight z := rfl
theorem M_weight_set_pumpedWeight (z : MS) (y : Int32) : M_weight (M_set_pumpedWeight z y) = M_weight z := rfl
theorem M_weight_set_valve (z : MS) (y : Int32) : M_weight (M_set_valve z y) = M_weight z := rfl
theorem M_weight_set_brokenAfter (z : MS) (y : Int32) : M_weight (M_set_brokenAfter z y) = M_weight z := rfl
theorem M_weight_set_cement (z : MS) (y : Int32) : M_weight (M_set_cement z y) = M_weight z := rfl
theorem M_weight_set_casedAfter (z : MS) (y : Int32) : M_weight (M_set_casedAfter z y) = M_weight z := rfl
theorem M_weight_set_flowed (z : MS) (y : Int32) : M_weight (M_set_flowed z y) = M_weight z := rfl
theorem M_weight_set_kept (z : MS) (y : (Nat → Int64)) : M_weight (M_set_kept z y) = M_weight z := rfl
theorem M_weight_set_tests (z : MS) (y : Int32) : M_weight (M_set_tests z y) = M_weight z := rfl
theorem M_weight_set_tested (z : MS) (y : (Nat → Int32)) : M_weight (M_set_tested z y) = M_weight z := rfl
theorem M_weight_set_by (z : MS) (y : (Nat → Int32)) : M_weight (M_set_by z y) = M_weight z := rfl
theorem M_weight_set_isPassed (z : MS) (y : (Nat → Int32)) : M_weight (M_set_isPassed z y) = M_weight z := rfl
theorem M_weight_set_testedAt (z : MS) (y : (Nat → Int32)) : M_weight (M_set_testedAt z y) = M_weight z := rfl
theorem M_weight_set_stops (z : MS) (y : (Nat → Int32)) : M_weight (M_set_stops z y) = M_weight z := rfl
theorem M_isClosed_set_thrown (z : MS) (y : Int32) : M_isClosed (M_set_thrown z y) = M_isClosed z := rfl
theorem M_isClosed_set_pore (z : MS) (y : (Nat → Int32)) : M_isClosed (M_set_pore z y) = M_isClosed z := rfl
theorem M_isClosed_set_breaks (z : MS) (y : (Nat → Int32)) : M_isClosed (M_set_breaks z y) = M_isClosed z := rfl
theorem M_isClosed_set_rate (z : MS) (y : (Nat → Int32)) : M_isClosed (M_set_rate z y) = M_isClosed z := rfl
theorem M_isClosed_set_bearsGas (z : MS) (y : (Nat → Int32)) : M_isClosed (M_set_bearsGas z y) = M_isClosed z := rfl
theorem M_isClosed_set_depth (z : MS) (y : Int32) : M_isClosed (M_set_depth z y) = M_isClosed z := rfl
theorem M_isClosed_set_shoe (z : MS) (y : Int32) : M_isClosed (M_set_shoe z y) = M_isClosed z := rfl
theorem M_isClosed_set_weight (z : MS) (y : Int32) : M_isClosed (M_set_weight z y) = M_isClosed z := rfl
theorem M_isClosed_set_isClosed (z : MS) (y : Int32) : M_isClosed (M_set_isClosed z y) = y := rfl
theorem M_isClosed_set_choke (z : MS) (y : Int32) : M_isClosed (M_set_choke z y) = M_isClosed z := rfl
theorem M_isClosed_set_charge (z : MS) (y : Int64) : M_isClosed (M_set_charge z y) = M_isClosed z := rfl
theorem M_isClosed_set_place (z : MS) (y : Int32) : M_isClosed (M_set_place z y) = M_isClosed z := rfl
theorem M_isClosed_set_gas (z : MS) (y : Int32) : M_isClosed (M_set_gas z y) = M_isClosed z := rfl
theorem M_isClosed_set_liquid (z : MS) (y : Int32) : M_isClosed (M_set_liquid z y) = M_isClosed z := rfl
theorem M_isClosed_set_minutes (z : MS) (y : Int32) : M_isClosed (M_set_minutes z y) = M_isClosed z := rfl
theorem M_isClosed_set_vented (z : MS) (y : Int64) : M_isClosed (M_set_vented z y) = M_isClosed z := rfl
theorem M_isClosed_set_lost (z : MS) (y : Int64) : M_isClosed (M_set_lost z y) = M_isClosed z := rfl
theorem M_isClosed_set_pumped (z : MS) (y : Int32) : M_isClosed (M_set_pumped z y) = M_isClosed z := rfl
theorem M_isClosed_set_pumpedWeight (z : MS) (y : Int32) : M_isClosed (M_set_pumpedWeight z y) = M_isClosed z := rfl
theorem M_isClosed_set_valve (z : MS) (y : Int32) : M_isClosed (M_set_valve z y) = M_isClosed z := rfl
theorem M_isClosed_set_brokenAfter (z : MS) (y : Int32) : M_isClosed (M_set_brokenAfter z y) = M_isClosed z := rfl
theorem M_isClosed_set_cement (z : MS) (y : Int32) : M_isClosed (M_set_cement z y) = M_isClosed z := rfl
theorem M_isClosed_set_casedAfter (z : MS) (y : Int32) : M_isClosed (M_set_casedAfter z y) = M_isClosed z := rfl
theorem M_isClosed_set_flowed (z : MS) (y : Int32) : M_isClosed (M_set_flowed z y) = M_isClosed z := rfl
theorem M_isClosed_set_kept (z : MS) (y : (Nat → Int64)) : M_isClosed (M_set_kept z y) = M_isClosed z := rfl
theorem M_isClosed_set_tests (z : MS) (y : Int32) : M_isClosed (M_set_tests z y) = M_isClosed z := rfl
theorem M_isClosed_set_tested (z : MS) (y : (Nat → Int32)) : M_isClosed (M_set_tested z y) = M_isClosed z := rfl
theorem M_isClosed_set_by (z : MS) (y : (Nat → Int32)) : M_isClosed (M_set_by z y) = M_isClosed z := rfl
theorem M_isClosed_set_isPassed (z : MS) (y : (Nat → Int32)) : M_isClosed (M_set_isPassed z y) = M_isClosed z := rfl
theorem M_isClosed_set_testedAt (z : MS) (y : (Nat → Int32)) : M_isClosed (M_set_testedAt z y) = M_isClosed z := rfl
theorem M_isClosed_set_stops (z : MS) (y : (Nat → Int32)) : M_isClosed (M_set_stops z y) = M_isClosed z := rfl
theorem M_choke_set_thrown (z : MS) (y : Int32) : M_choke (M_set_thrown z y) = M_choke z := rfl
theorem M_choke_set_pore (z : MS) (y : (Nat → Int32)) : M_choke (M_set_pore z y) = M_choke z := rfl
theorem M_choke_set_breaks (z : MS) (y : (Nat → Int32)) : M_choke (M_set_breaks z y) = M_choke z := rfl
theorem M_choke_set_rate (z : MS) (y : (Nat → Int32)) : M_choke (M_set_rate z y) = M_choke z := rfl
theorem M_choke_set_bearsGas (z : MS) (y : (Nat → Int32)) : M_choke (M_set_bearsGas z y) = M_choke z := rfl
theorem M_choke_set_depth (z : MS) (y : Int32) : M_choke (M_set_depth z y) = M_choke z := rfl
theorem M_choke_set_shoe (z : MS) (y : Int32) : M_choke (M_set_shoe z y) = M_choke z := rfl
theorem M_choke_set_weight (z : MS) (y : Int32) : M_choke (M_set_weight z y) = M_choke z := rfl
theorem M_choke_set_isClosed (z : MS) (y : Int32) : M_choke (M_set_isClosed z y) = M_choke z := rfl
theorem M_choke_set_choke (z : MS) (y : Int32) : M_choke (M_set_choke z y) = y := rfl
theorem M_choke_set_charge (z : MS) (y : Int64) : M_choke (M_set_charge z y) = M_choke z := rfl
theorem M_choke_set_place (z : MS) (y : Int32) : M_choke (M_set_place z y) = M_choke z := rfl
theorem M_choke_set_gas (z : MS) (y : Int32) : M_choke (M_set_gas z y) = M_choke z := rfl
theorem M_choke_set_liquid (z : MS) (y : Int32) : M_choke (M_set_liquid z y) = M_choke z := rfl
theorem M_choke_set_minutes (z : MS) (y : Int32) : M_choke (M_set_minutes z y) = M_choke z := rfl
theorem M_choke_set_vented (z : MS) (y : Int64) : M_choke (M_set_vented z y) = M_choke z := rfl
theorem M_choke_set_lost (z : MS) (y : Int64) : M_choke (M_set_lost z y) = M_choke z := rfl
theorem M_choke_set_pumped (z : MS) (y : Int32) : M_choke (M_set_pumped z y) = M_choke z := rfl
theorem M_choke_set_pumpedWeight (z : MS) (y : Int32) : M_choke (M_set_pumpedWeight z y) = M_choke z := rfl
theorem M_choke_set_valve (z : MS) (y : Int32) : M_choke (M_set_valve z y) = M_choke z := rfl
theorem M_choke_set_brokenAfter (z : MS) (y : Int32) : M_choke (M_set_brokenAfter z y) = M_choke z := rfl
theorem M_choke_set_cement (z : MS) (y : Int32) : M_choke (M_set_cement z y) = M_choke z := rfl
theorem M_choke_set_casedAfter (z : MS) (y : Int32) : M_choke (M_set_casedAfter z y) = M_choke z := rfl
theorem M_choke_set_flowed (z : MS) (y : Int32) : M_choke (M_set_flowed z y) = M_choke z := rfl
theorem M_choke_set_kept (z : MS) (y : (Nat → Int64)) : M_choke (M_set_kept z y) = M_choke z := rfl
theorem M_choke_set_tests (z : MS) (y : Int32) : M_choke (M_set_tests z y) = M_choke z := rfl
theorem M_choke_set_tested (z : MS) (y : (Nat → Int32)) : M_choke (M_set_tested z y) = M_choke z := rfl
theorem M_choke_set_by (z : MS) (y : (Nat → Int32)) : M_choke (M_set_by z y) = M_choke z := rfl
theorem M_choke_set_isPassed (z : MS) (y : (Nat → Int32)) : M_choke (M_set_isPassed z y) = M_choke z := rfl
theorem M_choke_set_testedAt (z : MS) (y : (Nat → Int32)) : M_choke (M_set_testedAt z y) = M_choke z := rfl
theorem M_choke_set_stops (z : MS) (y : (Nat → Int32)) : M_choke (M_set_stops z y) = M_choke z := rfl
theorem M_charge_set_thrown (z : MS) (y : Int32) : M_charge (M_set_thrown z y) = M_charge z := rfl
theorem M_charge_set_pore (z : MS) (y : (Nat → Int32)) : M_charge (M_set_pore z y) = M_charge z := rfl
theorem M_charge_set_breaks (z : MS) (y : (Nat → Int32)) : M_charge (M_set_breaks z y) = M_charge z := rfl
theorem M_charge_set_rate (z : MS) (y : (Nat → Int32)) : M_charge (M_set_rate z y) = M_charge z := rfl
theorem M_charge_set_bearsGas (z : MS) (y : (Nat → Int32)) : M_charge (M_set_bearsGas z y) = M_charge z := rfl
theorem M_charge_set_depth (z : MS) (y : Int32) : M_charge (M_set_depth z y) = M_charge z := rfl
theorem M_charge_set_shoe (z : MS) (y : Int32) : M_charge (M_set_shoe z y) = M_charge z := rfl
theorem M_charge_set_weight (z : MS) (y : Int32) : M_charge (M_set_weight z y) = M_charge z := rfl
theorem M_charge_set_isClosed (z : MS) (y : Int32) : M_charge (M_set_isClosed z y) = M_charge z := rfl
theorem M_charge_set_choke (z : MS) (y : Int32) : M_charge (M_set_choke z y) = M_charge z := rfl
theorem M_charge_set_charge (z : MS) (y : Int64) : M_charge (M_set_charge z y) = y := rfl
theorem M_charge_set_place (z : MS) (y : Int32) : M_charge (M_set_place z y) = M_charge z := rfl
theorem M_charge_set_gas (z : MS) (y : Int32) : M_charge (M_set_gas z y) = M_charge z := rfl
theorem M_charge_set_liquid (z : MS) (y : Int32) : M_charge (M_set_liquid z y) = M_charge z := rfl
theorem M_charge_set_minutes (z : MS) (y : Int32) : M_charge (M_set_minutes z y) = M_charge z := rfl
theorem M_charge_set_vented (z : MS) (y : Int64) : M_charge (M_set_vented z y) = M_charge z := rfl
theorem M_charge_set_lost (z : MS) (y : Int64) : M_charge (M_set_lost z y) = M_charge z := rfl
theorem M_charge_set_pumped (z : MS) (y : Int32) : M_charge (M_set_pumped z y) = M_charge z := rfl
theorem M_charge_set_pumpedWeight (z : MS) (y : Int32) : M_charge (M_set_pumpedWeight z y) = M_charge z := rfl
theorem M_charge_set_valve (z : MS) (y : Int32) : M_charge (M_set_valve z y) = M_charge z := rfl
theorem M_charge_set_brokenAfter (z : MS) (y : Int32) : M_charge (M_set_brokenAfter z y) = M_charge z := rfl
theorem M_charge_set_cement (z : MS) (y : Int32) : M_charge (M_set_cement z y) = M_charge z := rfl
theorem M_charge_set_casedAfter (z : MS) (y : Int32) : M_charge (M_set_casedAfter z y) = M_charge z := rfl
theorem M_charge_set_flowed (z : MS) (y : Int32) : M_charge (M_set_flowed z y) = M_charge z := rfl
theorem M_charge_set_kept (z : MS) (y : (Nat → Int64)) : M_charge (M_set_kept z y) = M_charge z := rfl
theorem M_charge_set_tests (z : MS) (y : Int32) : M_charge (M_set_tests z y) = M_charge z := rfl
theorem M_charge_set_tested (z : MS) (y : (Nat → Int32)) : M_charge (M_set_tested z y) = M_charge z := rfl
theorem M_charge_set_by (z : MS) (y : (Nat → Int32)) : M_charge (M_set_by z y) = M_charge z := rfl
theorem M_charge_set_isPassed (z : MS) (y : (Nat → Int32)) : M_charge (M_set_isPassed z y) = M_charge z := rfl
theorem M_charge_set_testedAt (z : MS) (y : (Nat → Int32)) : M_charge (M_set_testedAt z y) = M_charge z := rfl
theorem M_charge_set_stops (z : MS) (y : (Nat → Int32)) : M_charge (M_set_stops z y) = M_charge z := rfl
theorem M_place_set_thrown (z : MS) (y : Int32) : M_place (M_set_thrown z y) = M_place z := rfl
theorem M_place_set_pore (z : MS) (y : (Nat → Int32)) : M_place (M_set_pore z y) = M_place z := rfl
theorem M_place_set_breaks (z : MS) (y : (Nat → Int32)) : M_place (M_set_breaks z y) = M_place z := rfl
theorem M_place_set_rate (z : MS) (y : (Nat → Int32)) : M_place (M_set_rate z y) = M_place z := rfl
theorem M_place_set_bearsGas (z : MS) (y : (Nat → Int32)) : M_place (M_set_bearsGas z y) = M_place z := rfl
theorem M_place_set_depth (z : MS) (y : Int32) : M_place (M_set_depth z y) = M_place z := rfl
theorem M_place_set_shoe (z : MS) (y : Int32) : M_place (M_set_shoe z y) = M_place z := rfl
theorem M_place_set_weight (z : MS) (y : Int32) : M_place (M_set_weight z y) = M_place z := rfl
theorem M_place_set_isClosed (z : MS) (y : Int32) : M_place (M_set_isClosed z y) = M_place z := rfl
theorem M_place_set_choke (z : MS) (y : Int32) : M_place (M_set_choke z y) = M_place z := rfl
theorem M_place_set_charge (z : MS) (y : Int64) : M_place (M_set_charge z y) = M_place z := rfl
theorem M_place_set_place (z : MS) (y : Int32) : M_place (M_set_place z y) = y := rfl
theorem M_place_set_gas (z : MS) (y : Int32) : M_place (M_set_gas z y) = M_place z := rfl
theorem M_place_set_liquid (z : MS) (y : Int32) : M_place (M_set_liquid z y) = M_place z := rfl
theorem M_place_set_minutes (z : MS) (y : Int32) : M_place (M_set_minutes z y) = M_place z := rfl
theorem M_place_set_vented (z : MS) (y : Int64) : M_place (M_set_vented z y) = M_place z := rfl
theorem M_place_set_lost (z : MS) (y : Int64) : M_place (M_set_lost z y) = M_place z := rfl
theorem M_place_set_pumped (z : MS) (y : Int32) : M_place (M_set_pumped z y) = M_place z := rfl
theorem M_place_set_pumpedWeight (z : MS) (y : Int32) : M_place (M_set_pumpedWeight z y) = M_place z := rfl
theorem M_place_set_valve (z : MS) (y : Int32) : M_place (M_set_valve z y) = M_place z := rfl
theorem M_place_set_brokenAfter (z : MS) (y : Int32) : M_place (M_set_brokenAfter z y) = M_place z := rfl
theorem M_place_set_cement (z : MS) (y : Int32) : M_place (M_set_cement z y) = M_place z := rfl
theorem M_place_set_casedAfter (z : MS) (y : Int32) : M_place (M_set_casedAfter z y) = M_place z := rfl
theorem M_place_set_flowed (z : MS) (y : Int32) : M_place (M_set_flowed z y) = M_place z := rfl
theorem M_place_set_kept (z : MS) (y : (Nat → Int64)) : M_place (M_set_kept z y) = M_place z := rfl
theorem M_place_set_tests (z : MS) (y : Int32) : M_place (M_set_tests z y) = M_place z := rfl
theorem M_place_set_tested (z : MS) (y : (Nat → Int32)) : M_place (M_set_tested z y) = M_place z := rfl
theorem M_place_set_by (z : MS) (y : (Nat → Int32)) : M_place (M_set_by z y) = M_place z := rfl
theorem M_place_set_isPassed (z : MS) (y : (Nat → Int32)) : M_place (M_set_isPassed z y) = M_place z := rfl
theorem M_place_set_testedAt (z : MS) (y : (Nat → Int32)) : M_place (M_set_testedAt z y) = M_place z := rfl
theorem M_place_set_stops (z : MS) (y : (Nat → Int32)) : M_place (M_set_stops z y) = M_place z := rfl
theorem M_gas_set_thrown (z : MS) (y : Int32) : M_gas (M_set_thrown z y) = M_gas z := rfl
theorem M_gas_set_pore (z : MS) (y : (Nat → Int32)) : M_gas (M_set_pore z y) = M_gas z := rfl
theorem M_gas_set_breaks (z : MS) (y : (Nat → Int32)) : M_gas (M_set_breaks z y) = M_gas z := rfl
theorem M_gas_set_rate (z : MS) (y : (Nat → Int32)) : M_gas (M_set_rate z y) = M_gas z := rfl
theorem M_gas_set_bearsGas (z : MS) (y : (Nat → Int32)) : M_gas (M_set_bearsGas z y) = M_gas z := rfl
theorem M_gas_set_depth (z : MS) (y : Int32) : M_gas (M_set_depth z y) = M_gas z := rfl
theorem M_gas_set_shoe (z : MS) (y : Int32) : M_gas (M_set_shoe z y) = M_gas z := rfl
theorem M_gas_set_weight (z : MS) (y : Int32) : M_gas (M_set_weight z y) = M_gas z := rfl
theorem M_gas_set_isClosed (z : MS) (y : Int32) : M_gas (M_set_isClosed z y) = M_gas z := rfl
theorem M_gas_set_choke (z : MS) (y : Int32) : M_gas (M_set_choke z y) = M_gas z := rfl
theorem M_gas_set_charge (z : MS) (y : Int64) : M_gas (M_set_charge z y) = M_gas z := rfl
theorem M_gas_set_place (z : MS) (y : Int32) : M_gas (M_set_place z y) = M_gas z := rfl
theorem M_gas_set_gas (z : MS) (y : Int32) : M_gas (M_set_gas z y) = y := rfl
theorem M_gas_set_liquid (z : MS) (y : Int32) : M_gas (M_set_liquid z y) = M_gas z := rfl
theorem M_gas_set_minutes (z : MS) (y : Int32) : M_gas (M_set_minutes z y) = M_gas z := rfl
theorem M_gas_set_vented (z : MS) (y : Int64) : M_gas (M_set_vented z y) = M_gas z := rfl
theorem M_gas_set_lost (z : MS) (y : Int64) : M_gas (M_set_lost z y) = M_gas z := rfl
theorem M_gas_set_pumped (z : MS) (y : Int32) : M_gas (M_set_pumped z y) = M_gas z := rfl
theorem M_gas_set_pumpedWeight (z : MS) (y : Int32) : M_gas (M_set_pumpedWeight z y) = M_gas z := rfl
theorem M_gas_set_valve (z : MS) (y : Int32) : M_gas (M_set_valve z y) = M_gas z := rfl
theorem M_gas_set_brokenAfter (z : MS) (y : Int32) : M_gas (M_set_brokenAfter z y) = M_gas z := rfl
theorem M_gas_set_cement (z : MS) (y : Int32) : M_gas (M_set_cement z y) = M_gas z := rfl
theorem M_gas_set_casedAfter (z : MS) (y : Int32) : M_gas (M_set_casedAfter z y) = M_gas z := rfl
theorem M_gas_set_flowed (z : MS) (y : Int32) : M_gas (M_set_flowed z y) = M_gas z := rfl
theorem M_gas_set_kept (z : MS) (y : (Nat → Int64)) : M_gas (M_set_kept z y) = M_gas z := rfl
theorem M_gas_set_tests (z : MS) (y : Int32) : M_gas (M_set_tests z y) = M_gas z := rfl
theorem M_gas_set_tested (z : MS) (y : (Nat → Int32)) : M_gas (M_set_tested z y) = M_gas z := rfl
theorem M_gas_set_by (z : MS) (y : (Nat → Int32)) : M_gas (M_set_by z y) = M_gas z := rfl
theorem M_gas_set_isPassed (z : MS) (y : (Nat → Int32)) : M_gas (M_set_isPassed z y) = M_gas z := rfl
theorem M_gas_set_testedAt (z : MS) (y : (Nat → Int32)) : M_gas (M_set_testedAt z y) = M_gas z := rfl
theorem M_gas_set_stops (z : MS) (y : (Nat → Int32)) : M_gas (M_set_stops z y) = M_gas z := rfl
theorem M_liquid_set_thrown (z : MS) (y : Int32) : M_liquid (M_set_thrown z y) = M_liquid z := rfl
theorem M_liquid_set_pore (z : MS) (y : (Nat → Int32)) : M_liquid (M_set_pore z y) = M_liquid z := rfl
theorem M_liquid_set_breaks (z : MS) (y : (Nat → Int32)) : M_liquid (M_set_breaks z y) = M_liquid z := rfl
theorem M_liquid_set_rate (z : MS) (y : (Nat → Int32)) : M_liquid (M_set_rate z y) = M_liquid z := rfl
theorem M_liquid_set_bearsGas (z : MS) (y : (Nat → Int32)) : M_liquid (M_set_bearsGas z y) = M_liquid z := rfl
theorem M_liquid_set_depth (z : MS) (y : Int32) : M_liquid (M_set_depth z y) = M_liquid z := rfl
theorem M_liquid_set_shoe (z : MS) (y : Int32) : M_liquid (M_set_shoe z y) = M_liquid z := rfl
theorem M_liquid_set_weight (z : MS) (y : Int32) : M_liquid (M_set_weight z y) = M_liquid z := rfl
theorem M_liquid_set_isClosed (z : MS) (y : Int32) : M_liquid (M_set_isClosed z y) = M_liquid z := rfl
theorem M_liquid_set_choke (z : MS) (y : Int32) : M_liquid (M_set_choke z y) = M_liquid z := rfl
theorem M_liquid_set_charge (z : MS) (y : Int64) : M_liquid (M_set_charge z y) = M_liquid z := rfl
theorem M_liquid_set_place (z : MS) (y : Int32) : M_liquid (M_set_place z y) = M_liquid z := rfl
theorem M_liquid_set_gas (z : MS) (y : Int32) : M_liquid (M_set_gas z y) = M_liquid z := rfl
theorem M_liquid_set_liquid (z : MS) (y : Int32) : M_liquid (M_set_liquid z y) = y := rfl
theorem M_liquid_set_minutes (z : MS) (y : Int32) : M_liquid (M_set_minutes z y) = M_liquid z := rfl
theorem M_liquid_set_vented (z : MS) (y : Int64) : M_liquid (M_set_vented z y) = M_liquid z := rfl
theorem M_liquid_set_lost (z : MS) (y : Int64) : M_liquid (M_set_lost z y) = M_liquid z := rfl
theorem M_liquid_set_pumped (z : MS) (y : Int32) : M_liquid (M_set_pumped z y) = M_liquid z := rfl
theorem M_liquid_set_pumpedWeight (z : MS) (y : Int32) : M_liquid (M_set_pumpedWeight z y) = M_liquid z := rfl
theorem M_liquid_set_valve (z : MS) (y : Int32) : M_liquid (M_set_valve z y) = M_liquid z := rfl
theorem M_liquid_set_brokenAfter (z : MS) (y : Int32) : M_liquid (M_set_brokenAfter z y) = M_liquid z := rfl
theorem M_liquid_set_cement (z : MS) (y : Int32) : M_liquid (M_set_cement z y) = M_liquid z := rfl
theorem M_liquid_set_casedAfter (z : MS) (y : Int32) : M_liquid (M_set_casedAfter z y) = M_liquid z := rfl
theorem M_liquid_set_flowed (z : MS) (y : Int32) : M_liquid (M_set_flowed z y) = M_liquid z := rfl
theorem M_liquid_set_kept (z : MS) (y : (Nat → Int64)) : M_liquid (M_set_kept z y) = M_liquid z := rfl
theorem M_liquid_set_tests (z : MS) (y : Int32) : M_liquid (M_set_tests z y) = M_liquid z := rfl
theorem M_liquid_set_tested (z : MS) (y : (Nat → Int32)) : M_liquid (M_set_tested z y) = M_liquid z := rfl
theorem M_liquid_set_by (z : MS) (y : (Nat → Int32)) : M_liquid (M_set_by z y) = M_liquid z := rfl
theorem M_liquid_set_isPassed (z : MS) (y : (Nat → Int32)) : M_liquid (M_set_isPassed z y) = M_liquid z := rfl
theorem M_liquid_set_testedAt (z : MS) (y : (Nat → Int32)) : M_liquid (M_set_testedAt z y) = M_liquid z := rfl
theorem M_liquid_set_stops (z : MS) (y : (Nat → Int32)) : M_liquid (M_set_stops z y) = M_liquid z := rfl
theorem M_minutes_set_thrown (z : MS) (y : Int32) : M_minutes (M_set_thrown z y) = M_minutes z := rfl
theorem M_minutes_set_pore (z : MS) (y : (Nat → Int32)) : M_minutes (M_set_pore z y) = M_minutes z := rfl
theorem M_minutes_set_breaks (z : MS) (y : (Nat → Int32)) : M_minutes (M_set_breaks z y) = M_minutes z := rfl
theorem M_minutes_set_rate (z : MS) (y : (Nat → Int32)) : M_minutes (M_set_rate z y) = M_minutes z := rfl
theorem M_minutes_set_bearsGas (z : MS) (y : (Nat → Int32)) : M_minutes (M_set_bearsGas z y) = M_minutes z := rfl
theorem M_minutes_set_depth (z : MS) (y : Int32) : M_minutes (M_set_depth z y) = M_minutes z := rfl
theorem M_minutes_set_shoe (z : MS) (y : Int32) : M_minutes (M_set_shoe z y) = M_minutes z := rfl
theorem M_minutes_set_weight (z : MS) (y : Int32) : M_minutes (M_set_weight z y) = M_minutes z := rfl
theorem M_minutes_set_isClosed (z : MS) (y : Int32) : M_minutes (M_set_isClosed z y) = M_minutes z := rfl
theorem M_minutes_set_choke (z : MS) (y : Int32) : M_minutes (M_set_choke z y) = M_minutes z := rfl
theorem M_minutes_set_charge (z : MS) (y : Int64) : M_minutes (M_set_charge z y) = M_minutes z := rfl
theorem M_minutes_set_place (z : MS) (y : Int32) : M_minutes (M_set_place z y) = M_minutes z := rfl
theorem M_minutes_set_gas (z : MS) (y : Int32) : M_minutes (M_set_gas z y) = M_minutes z := rfl
theorem M_minutes_set_liquid (z : MS) (y : Int32) : M_minutes (M_set_liquid z y) = M_minutes z := rfl
theorem M_minutes_set_minutes (z : MS) (y : Int32) : M_minutes (M_set_minutes z y) = y := rfl
theorem M_minutes_set_vented (z : MS) (y : Int64) : M_minutes (M_set_vented z y) = M_minutes z := rfl
theorem M_minutes_set_lost (z : MS) (y : Int64) : M_minutes (M_set_lost z y) = M_minutes z := rfl
theorem M_minutes_set_pumped (z : MS) (y : Int32) : M_minutes (M_set_pumped z y) = M_minutes z := rfl
theorem M_minutes_set_pumpedWeight (z : MS) (y : Int32) : M_minutes (M_set_pumpedWeight z y) = M_minutes z := rfl
theorem M_minutes_set_valve (z : MS) (y : Int32) : M_minutes (M_set_valve z y) = M_minutes z := rfl
theorem M_minutes_set_brokenAfter (z : MS) (y : Int32) : M_minutes (M_set_brokenAfter z y) = M_minutes z := rfl
theorem M_minutes_set_cement (z : MS) (y : Int32) : M_minutes (M_set_cement z y) = M_minutes z := rfl
theorem M_minutes_set_casedAfter (z : MS) (y : Int32) : M_minutes (M_set_casedAfter z y) = M_minutes z := rfl
theorem M_minutes_set_flowed (z : MS) (y : Int32) : M_minutes (M_set_flowed z y) = M_minutes z := rfl
theorem M_minutes_set_kept (z : MS) (y : (Nat → Int64)) : M_minutes (M_set_kept z y) = M_minutes z := rfl
theorem M_minutes_set_tests (z : MS) (y : Int32) : M_minutes (M_set_tests z y) = M_minutes z := rfl
theorem M_minutes_set_tested (z : MS) (y : (Nat → Int32)) : M_minutes (M_set_tested z y) = M_minutes z := rfl
theorem M_minutes_set_by (z : MS) (y : (Nat → Int32)) : M_minutes (M_set_by z y) = M_minutes z := rfl
theorem M_minutes_set_isPassed (z : MS) (y : (Nat → Int32)) : M_minutes (M_set_isPassed z y) = M_minutes z := rfl
theorem M_minutes_set_testedAt (z : MS) (y : (Nat → Int32)) : M_minutes (M_set_testedAt z y) = M_minutes z := rfl
theorem M_minutes_set_stops (z : MS) (y : (Nat → Int32)) : M_minutes (M_set_stops z y) = M_minutes z := rfl
theorem M_vented_set_thrown (z : MS) (y : Int32) : M_vented (M_set_thrown z y) = M_vented z := rfl
theorem M_vented_set_pore (z : MS) (y : (Nat → Int32)) : M_vented (M_set_pore z y) = M_vented z := rfl
theorem M_vented_set_breaks (z : MS) (y : (Nat → Int32)) : M_vented (M_set_breaks z y) = M_vented z := rfl
theorem M_vented_set_rate (z : MS) (y : (Nat → Int32)) : M_vented (M_set_rate z y) = M_vented z := rfl
theorem M_vented_set_bearsGas (z : MS) (y : (Nat → Int32)) : M_vented (M_set_bearsGas z y) = M_vented z := rfl
theorem M_vented_set_depth (z : MS) (y : Int32) : M_vented (M_set_depth z y) = M_vented z := rfl
theorem M_vented_set_shoe (z : MS) (y : Int32) : M_vented (M_set_shoe z y) = M_vented z := rfl
theorem M_vented_set_weight (z : MS) (y : Int32) : M_vented (M_set_weight z y) = M_vented z := rfl
theorem M_vented_set_isClosed (z : MS) (y : Int32) : M_vented (M_set_isClosed z y) = M_vented z := rfl
theorem M_vented_set_choke (z : MS) (y : Int32) : M_vented (M_set_choke z y) = M_vented z := rfl
theorem M_vented_set_charge (z : MS) (y : Int64) : M_vented (M_set_charge z y) = M_vented z := rfl
theorem M_vented_set_place (z : MS) (y : Int32) : M_vented (M_set_place z y) = M_vented z := rfl
theorem M_vented_set_gas (z : MS) (y : Int32) : M_vented (M_set_gas z y) = M_vented z := rfl
theorem M_vented_set_liquid (z : MS) (y : Int32) : M_vented (M_set_liquid z y) = M_vented z := rfl
theorem M_vented_set_minutes (z : MS) (y : Int32) : M_vented (M_set_minutes z y) = M_vented z := rfl
theorem M_vented_set_vented (z : MS) (y : Int64) : M_vented (M_set_vented z y) = y := rfl
theorem M_vented_set_lost (z : MS) (y : Int64) : M_vented (M_set_lost z y) = M_vented z := rfl
theorem M_vented_set_pumped (z : MS) (y : Int32) : M_vented (M_set_pumped z y) = M_vented z := rfl
theorem M_vented_set_pumpedWeight (z : MS) (y : Int32) : M_vented (M_set_pumpedWeight z y) = M_vented z := rfl
theorem M_vented_set_valve (z : MS) (y : Int32) : M_vented (M_set_valve z y) = M_vented z := rfl
theorem M_vented_set_brokenAfter (z : MS) (y : Int32) : M_vented (M_set_brokenAfter z y) = M_vented z := rfl
theorem M_vented_set_cement (z : MS) (y : Int32) : M_vented (M_set_cement z y) = M_vented z := rfl
theorem M_vented_set_casedAfter (z : MS) (y : Int32) : M_vented (M_set_casedAfter z y) = M_vented z := rfl
theorem M_vented_set_flowed (z : MS) (y : Int32) : M_vented (M_set_flowed z y) = M_vented z := rfl
theorem M_vented_set_kept (z : MS) (y : (Nat → Int64)) : M_vented (M_set_kept z y) = M_vented z := rfl
theorem M_vented_set_tests (z : MS) (y : Int32) : M_vented (M_set_tests z y) = M_vented z := rfl
theorem M_vented_set_tested (z : MS) (y : (Nat → Int32)) : M_vented (M_set_tested z y) = M_vented z := rfl
theorem M_vented_set_by (z : MS) (y : (Nat → Int32)) : M_vented (M_set_by z y) = M_vented z := rfl
theorem M_vented_set_isPassed (z : MS) (y : (Nat → Int32)) : M_vented (M_set_isPassed z y) = M_vented z := rfl
theorem M_vented_set_testedAt (z : MS) (y : (Nat → Int32)) : M_vented (M_set_testedAt z y) = M_vented z := rfl
theorem M_vented_set_stops (z : MS) (y : (Nat → Int32)) : M_vented (M_set_stops z y) = M_vented z := rfl
theorem M_lost_set_thrown (z : MS) (y : Int32) : M_lost (M_set_thrown z y) = M_lost z := rfl
theorem M_lost_set_pore (z : MS) (y : (Nat → Int32)) : M_lost (M_set_pore z y) = M_lost z := rfl
theorem M_lost_set_breaks (z : MS) (y : (Nat → Int32)) : M_lost (M_set_breaks z y) = M_lost z := rfl
theorem M_lost_set_rate (z : MS) (y : (Nat → Int32)) : M_lost (M_set_rate z y) = M_lost z := rfl
theorem M_lost_set_bearsGas (z : MS) (y : (Nat → Int32)) : M_lost (M_set_bearsGas z y) = M_lost z := rfl
theorem M_lost_set_depth (z : MS) (y : Int32) : M_lost (M_set_depth z y) = M_lost z := rfl
theorem M_lost_set_shoe (z : MS) (y : Int32) : M_lost (M_set_shoe z y) = M_lost z := rfl
theorem M_lost_set_weight (z : MS) (y : Int32) : M_lost (M_set_weight z y) = M_lost z := rfl
theorem M_lost_set_isClosed (z : MS) (y : Int32) : M_lost (M_set_isClosed z y) = M_lost z := rfl
theorem M_lost_set_choke (z : MS) (y : Int32) : M_lost (M_set_choke z y) = M_lost z := rfl
theorem M_lost_set_charge (z : MS) (y : Int64) : M_lost (M_set_charge z y) = M_lost z := rfl
theorem M_lost_set_place (z : MS) (y : Int32) : M_lost (M_set_place z y) = M_lost z := rfl
theorem M_lost_set_gas (z : MS) (y : Int32) : M_lost (M_set_gas z y) = M_lost z := rfl
theorem M_lost_set_liquid (z : MS) (y : Int32) : M_lost (M_set_liquid z y) = M_lost z := rfl
theorem M_lost_set_minutes (z : MS) (y : Int32) : M_lost (M_set_minutes z y) = M_lost z := rfl
theorem M_lost_set_vented (z : MS) (y : Int64) : M_lost (M_set_vented z y) = M_lost z := rfl
theorem M_lost_set_lost (z : MS) (y : Int64) : M_lost (M_set_lost z y) = y := rfl
theorem M_lost_set_pumped (z : MS) (y : Int32) : M_lost (M_set_pumped z y) = M_lost z := rfl
theorem M_lost_set_pumpedWeight (z : MS) (y : Int32) : M_lost (M_set_pumpedWeight z y) = M_lost z := rfl
theorem M_lost_set_valve (z : MS) (y : Int32) : M_lost (M_set_valve z y) = M_lost z := rfl
theorem M_lost_set_brokenAfter (z : MS) (y : Int32) : M_lost (M_set_brokenAfter z y) = M_lost z := rfl
theorem M_lost_set_cement (z : MS) (y : Int32) : M_lost (M_set_cement z y) = M_lost z := rfl
theorem M_lost_set_casedAfter (z : MS) (y : Int32) : M_lost (M_set_casedAfter z y) = M_lost z := rfl
theorem M_lost_set_flowed (z : MS) (y : Int32) : M_lost (M_set_flowed z y) = M_lost z := rfl
theorem M_lost_set_kept (z : MS) (y : (Nat → Int64)) : M_lost (M_set_kept z y) = M_lost z := rfl
theorem M_lost_set_tests (z : MS) (y : Int32) : M_lost (M_set_tests z y) = M_lost z := rfl
theorem M_lost_set_tested (z : MS) (y : (Nat → Int32)) : M_lost (M_set_tested z y) = M_lost z := rfl
theorem M_lost_set_by (z : MS) (y : (Nat → Int32)) : M_lost (M_set_by z y) = M_lost z := rfl
theorem M_lost_set_isPassed (z : MS) (y : (Nat → Int32)) : M_lost (M_set_isPassed z y) = M_lost z := rfl
theorem M_lost_set_testedAt (z : MS) (y : (Nat → Int32)) : M_lost (M_set_testedAt z y) = M_lost z := rfl
theorem M_lost_set_stops (z : MS) (y : (Nat → Int32)) : M_lost (M_set_stops z y) = M_lost z := rfl
theorem M_pumped_set_thrown (z : MS) (y : Int32) : M_pumped (M_set_thrown z y) = M_pumped z := rfl
theorem M_pumped_set_pore (z : MS) (y : (Nat → Int32)) : M_pumped (M_set_pore z y) = M_pumped z := rfl
theorem M_pumped_set_breaks (z : MS) (y : (Nat → Int32)) : M_pumped (M_set_breaks z y) = M_pumped z := rfl
theorem M_pumped_set_rate (z : MS) (y : (Nat → Int32)) : M_pumped (M_set_rate z y) = M_pumped z := rfl
theorem M_pumped_set_bearsGas (z : MS) (y : (Nat → Int32)) : M_pumped (M_set_bearsGas z y) = M_pumped z := rfl
theorem M_pumped_set_depth (z : MS) (y : Int32) : M_pumped (M_set_depth z y) = M_pumped z := rfl
theorem M_pumped_set_shoe (z : MS) (y : Int32) : M_pumped (M_set_shoe z y) = M_pumped z := rfl
theorem M_pumped_set_weight (z : MS) (y : Int32) : M_pumped (M_set_weight z y) = M_pumped z := rfl
theorem M_pumped_set_isClosed (z : MS) (y : Int32) : M_pumped (M_set_isClosed z y) = M_pumped z := rfl
theorem M_pumped_set_choke (z : MS) (y : Int32) : M_pumped (M_set_choke z y) = M_pumped z := rfl
theorem M_pumped_set_charge (z : MS) (y : Int64) : M_pumped (M_set_charge z y) = M_pumped z := rfl
theorem M_pumped_set_place (z : MS) (y : Int32) : M_pumped (M_set_place z y) = M_pumped z := rfl
theorem M_pumped_set_gas (z : MS) (y : Int32) : M_pumped (M_set_gas z y) = M_pumped z := rfl
theorem M_pumped_set_liquid (z : MS) (y : Int32) : M_pumped (M_set_liquid z y) = M_pumped z := rfl
theorem M_pumped_set_minutes (z : MS) (y : Int32) : M_pumped (M_set_minutes z y) = M_pumped z := rfl
theorem M_pumped_set_vented (z : MS) (y : Int64) : M_pumped (M_set_vented z y) = M_pumped z := rfl
theorem M_pumped_set_lost (z : MS) (y : Int64) : M_pumped (M_set_lost z y) = M_pumped z := rfl
theorem M_pumped_set_pumped (z : MS) (y : Int32) : M_pumped (M_set_pumped z y) = y := rfl
theorem M_pumped_set_pumpedWeight (z : MS) (y : Int32) : M_pumped (M_set_pumpedWeight z y) = M_pumped z := rfl
theorem M_pumped_set_valve (z : MS) (y : Int32) : M_pumped (M_set_valve z y) = M_pumped z := rfl
theorem M_pumped_set_brokenAfter (z : MS) (y : Int32) : M_pumped (M_set_brokenAfter z y) = M_pumped z := rfl
theorem M_pumped_set_cement (z : MS) (y : Int32) : M_pumped (M_set_cement z y) = M_pumped z := rfl
theorem M_pumped_set_casedAfter (z : MS) (y : Int32) : M_pumped (M_set_casedAfter z y) = M_pumped z := rfl
theorem M_pumped_set_flowed (z : MS) (y : Int32) : M_pumped (M_set_flowed z y) = M_pumped z := rfl
theorem M_pumped_set_kept (z : MS) (y : (Nat → Int64)) : M_pumped (M_set_kept z y) = M_pumped z := rfl
theorem M_pumped_set_tests (z : MS) (y : Int32) : M_pumped (M_set_tests z y) = M_pumped z := rfl
theorem M_pumped_set_tested (z : MS) (y : (Nat → Int32)) : M_pumped (M_set_tested z y) = M_pumped z := rfl
theorem M_pumped_set_by (z : MS) (y : (Nat → Int32)) : M_pumped (M_set_by z y) = M_pumped z := rfl
theorem M_pumped_set_isPassed (z : MS) (y : (Nat → Int32)) : M_pumped (M_set_isPassed z y) = M_pumped z := rfl
theorem M_pumped_set_testedAt (z : MS) (y : (Nat → Int32)) : M_pumped (M_set_testedAt z y) = M_pumped z := rfl
theorem M_pumped_set_stops (z : MS) (y : (Nat → Int32)) : M_pumped (M_set_stops z y) = M_pumped z := rfl
theorem M_pumpedWeight_set_thrown (z : MS) (y : Int32) : M_pumpedWeight (M_set_thrown z y) = M_pumpedWeight z := rfl
theorem M_pumpedWeight_set_pore (z : MS) (y : (Nat → Int32)) : M_pumpedWeight (M_set_pore z y) = M_pumpedWeight z := rfl
theorem M_pumpedWeight_set_breaks (z : MS) (y : (Nat → Int32)) : M_pumpedWeight (M_set_breaks z y) = M_pumpedWeight z := rfl
theorem M_pumpedWeight_set_rate (z : MS) (y : (Nat → Int32)) : M_pumpedWeight (M_set_rate z y) = M_pumpedWeight z := rfl
theorem M_pumpedWeight_set_bearsGas (z : MS) (y : (Nat → Int32)) : M_pumpedWeight (M_set_bearsGas z y) = M_pumpedWeight z := rfl
theorem M_pumpedWeight_set_depth (z : MS) (y : Int32) : M_pumpedWeight (M_set_depth z y) = M_pumpedWeight z := rfl
theorem M_pumpedWeight_set_shoe (z : MS) (y : Int32) : M_pumpedWeight (M_set_shoe z y) = M_pumpedWeight z := rfl
theorem M_pumpedWeight_set_weight (z : MS) (y : Int32) : M_pumpedWeight (M_set_weight z y) = M_pumpedWeight z := rfl
theorem M_pumpedWeight_set_isClosed (z : MS) (y : Int32) : M_pumpedWeight (M_set_isClosed z y) = M_pumpedWeight z := rfl
theorem M_pumpedWeight_set_choke (z : MS) (y : Int32) : M_pumpedWeight (M_set_choke z y) = M_pumpedWeight z := rfl
theorem M_pumpedWeight_set_charge (z : MS) (y : Int64) : M_pumpedWeight (M_set_charge z y) = M_pumpedWeight z := rfl
theorem M_pumpedWeight_set_place (z : MS) (y : Int32) : M_pumpedWeight (M_set_place z y) = M_pumpedWeight z := rfl
theorem M_pumpedWeight_set_gas (z : MS) (y : Int32) : M_pumpedWeight (M_set_gas z y) = M_pumpedWeight z := rfl
theorem M_pumpedWeight_set_liquid (z : MS) (y : Int32) : M_pumpedWeight (M_set_liquid z y) = M_pumpedWeight z := rfl
theorem M_pumpedWeight_set_minutes (z : MS) (y : Int32) : M_pumpedWeight (M_set_minutes z y) = M_pumpedWeight z := rfl
theorem M_pumpedWeight_set_vented (z : MS) (y : Int64) : M_pumpedWeight (M_set_vented z y) = M_pumpedWeight z := rfl
theorem M_pumpedWeight_set_lost (z : MS) (y : Int64) : M_pumpedWeight (M_set_lost z y) = M_pumpedWeight z := rfl
theorem M_pumpedWeight_set_pumped (z : MS) (y : Int32) : M_pumpedWeight (M_set_pumped z y) = M_pumpedWeight z := rfl
theorem M_pumpedWeight_set_pumpedWeight (z : MS) (y : Int32) : M_pumpedWeight (M_set_pumpedWeight z y) = y := rfl
theorem M_pumpedWeight_set_valve (z : MS) (y : Int32) : M_pumpedWeight (M_set_valve z y) = M_pumpedWeight z := rfl
theorem M_pumpedWeight_set_brokenAfter (z : MS) (y : Int32) : M_pumpedWeight (M_set_brokenAfter z y) = M_pumpedWeight z := rfl
theorem M_pumpedWeight_set_cement (z : MS) (y : Int32) : M_pumpedWeight (M_set_cement z y) = M_pumpedWeight z := rfl
theorem M_pumpedWeight_set_casedAfter (z : MS) (y : Int32) : M_pumpedWeight (M_set_casedAfter z y) = M_pumpedWeight z := rfl
theorem M_pumpedWeight_set_flowed (z : MS) (y : Int32) : M_pumpedWeight (M_set_flowed z y) = M_pumpedWeight z := rfl
theorem M_pumpedWeight_set_kept (z : MS) (y : (Nat → Int64)) : M_pumpedWeight (M_set_kept z y) = M_pumpedWeight z := rfl
theorem M_pumpedWeight_set_tests (z : MS) (y : Int32) : M_pumpedWeight (M_set_tests z y) = M_pumpedWeight z := rfl
theorem M_pumpedWeight_set_tested (z : MS) (y : (Nat → Int32)) : M_pumpedWeight (M_set_tested z y) = M_pumpedWeight z := rfl
theorem M_pumpedWeight_set_by (z : MS) (y : (Nat → Int32)) : M_pumpedWeight (M_set_by z y) = M_pumpedWeight z := rfl
theorem M_pumpedWeight_set_isPassed (z : MS) (y : (Nat → Int32)) : M_pumpedWeight (M_set_isPassed z y) = M_pumpedWeight z := rfl
theorem M_pumpedWeight_set_testedAt (z : MS) (y : (Nat → Int32)) : M_pumpedWeight (M_set_testedAt z y) = M_pumpedWeight z := rfl
theorem M_pumpedWeight_set_stops (z : MS) (y : (Nat → Int32)) : M_pumpedWeight (M_set_stops z y) = M_pumpedWeight z := rfl
theorem M_valve_set_thrown (z : MS) (y : Int32) : M_valve (M_set_thrown z y) = M_valve z := rfl
theorem M_valve_set_pore (z : MS) (y : (Nat → Int32)) : M_valve (M_set_pore z y) = M_valve z := rfl
theorem M_valve_set_breaks (z : MS) (y : (Nat → Int32)) : M_valve (M_set_breaks z y) = M_valve z := rfl
theorem M_valve_set_rate (z : MS) (y : (Nat → Int32)) : M_valve (M_set_rate z y) = M_valve z := rfl
theorem M_valve_set_bearsGas (z : MS) (y : (Nat → Int32)) : M_valve (M_set_bearsGas z y) = M_valve z := rfl
theorem M_valve_set_depth (z : MS) (y : Int32) : M_valve (M_set_depth z y) = M_valve z := rfl
theorem M_valve_set_shoe (z : MS) (y : Int32) : M_valve (M_set_shoe z y) = M_valve z := rfl
theorem M_valve_set_weight (z : MS) (y : Int32) : M_valve (M_set_weight z y) = M_valve z := rfl
theorem M_valve_set_isClosed (z : MS) (y : Int32) : M_valve (M_set_isClosed z y) = M_valve z := rfl
theorem M_valve_set_choke (z : MS) (y : Int32) : M_valve (M_set_choke z y) = M_valve z := rfl
theorem M_valve_set_charge (z : MS) (y : Int64) : M_valve (M_set_charge z y) = M_valve z := rfl
theorem M_valve_set_place (z : MS) (y : Int32) : M_valve (M_set_place z y) = M_valve z := rfl
theorem M_valve_set_gas (z : MS) (y : Int32) : M_valve (M_set_gas z y) = M_valve z := rfl
theorem M_valve_set_liquid (z : MS) (y : Int32) : M_valve (M_set_liquid z y) = M_valve z := rfl
theorem M_valve_set_minutes (z : MS) (y : Int32) : M_valve (M_set_minutes z y) = M_valve z := rfl
theorem M_valve_set_vented (z : MS) (y : Int64) : M_valve (M_set_vented z y) = M_valve z := rfl
theorem M_valve_set_lost (z : MS) (y : Int64) : M_valve (M_set_lost z y) = M_valve z := rfl
theorem M_valve_set_pumped (z : MS) (y : Int32) : M_valve (M_set_pumped z y) = M_valve z := rfl
theorem M_valve_set_pumpedWeight (z : MS) (y : Int32) : M_valve (M_set_pumpedWeight z y) = M_valve z := rfl
theorem M_valve_set_valve (z : MS) (y : Int32) : M_valve (M_set_valve z y) = y := rfl
theorem M_valve_set_brokenAfter (z : MS) (y : Int32) : M_valve (M_set_brokenAfter z y) = M_valve z := rfl
theorem M_valve_set_cement (z : MS) (y : Int32) : M_valve (M_set_cement z y) = M_valve z := rfl
theorem M_valve_set_casedAfter (z : MS) (y : Int32) : M_valve (M_set_casedAfter z y) = M_valve z := rfl
theorem M_valve_set_flowed (z : MS) (y : Int32) : M_valve (M_set_flowed z y) = M_valve z := rfl
theorem M_valve_set_kept (z : MS) (y : (Nat → Int64)) : M_valve (M_set_kept z y) = M_valve z := rfl
theorem M_valve_set_tests (z : MS) (y : Int32) : M_valve (M_set_tests z y) = M_valve z := rfl
theorem M_valve_set_tested (z : MS) (y : (Nat → Int32)) : M_valve (M_set_tested z y) = M_valve z := rfl
theorem M_valve_set_by (z : MS) (y : (Nat → Int32)) : M_valve (M_set_by z y) = M_valve z := rfl
theorem M_valve_set_isPassed (z : MS) (y : (Nat → Int32)) : M_valve (M_set_isPassed z y) = M_valve z := rfl
theorem M_valve_set_testedAt (z : MS) (y : (Nat → Int32)) : M_valve (M_set_testedAt z y) = M_valve z := rfl
theorem M_valve_set_stops (z : MS) (y : (Nat → Int32)) : M_valve (M_set_stops z y) = M_valve z := rfl
theorem M_brokenAfter_set_thrown (z : MS) (y : Int32) : M_brokenAfter (M_set_thrown z y) = M_brokenAfter z := rfl
theorem M_brokenAfter_set_pore (z : MS) (y : (Nat → Int32)) : M_brokenAfter (M_set_pore z y) = M_brokenAfter z := rfl
theorem M_brokenAfter_set_breaks (z : MS) (y : (Nat → Int32)) : M_brokenAfter (M_set_breaks z y) = M_brokenAfter z := rfl
theorem M_brokenAfter_set_rate (z : MS) (y : (Nat → Int32)) : M_brokenAfter (M_set_rate z y) = M_brokenAfter z := rfl
theorem M_brokenAfter_set_bearsGas (z : MS) (y : (Nat → Int32)) : M_brokenAfter (M_set_bearsGas z y) = M_brokenAfter z := rfl
theorem M_brokenAfter_set_depth (z : MS) (y : Int32) : M_brokenAfter (M_set_depth z y) = M_brokenAfter z := rfl
theorem M_brokenAfter_set_shoe (z : MS) (y : Int32) : M_brokenAfter (M_set_shoe z y) = M_brokenAfter z := rfl
theorem M_brokenAfter_set_weight (z : MS) (y : Int32) : M_brokenAfter (M_set_weight z y) = M_brokenAfter z := rfl
theorem M_brokenAfter_set_isClosed (z : MS) (y : Int32) : M_brokenAfter (M_set_isClosed z y) = M_brokenAfter z := rfl
theorem M_brokenAfter_set_choke (z : MS) (y : Int32) : M_brokenAfter (M_set_choke z y) = M_brokenAfter z := rfl
theorem M_brokenAfter_set_charge (z : MS) (y : Int64) : M_brokenAfter (M_set_charge z y) = M_brokenAfter z := rfl
theorem M_brokenAfter_set_place (z : MS) (y : Int32) : M_brokenAfter (M_set_place z y) = M_brokenAfter z := rfl
theorem M_brokenAfter_set_gas (z : MS) (y : Int32) : M_brokenAfter (M_set_gas z y) = M_brokenAfter z := rfl
theorem M_brokenAfter_set_liquid (z : MS) (y : Int32) : M_brokenAfter (M_set_liquid z y) = M_brokenAfter z := rfl
theorem M_brokenAfter_set_minutes (z : MS) (y : Int32) : M_brokenAfter (M_set_minutes z y) = M_brokenAfter z := rfl
theorem M_brokenAfter_set_vented (z : MS) (y : Int64) : M_brokenAfter (M_set_vented z y) = M_brokenAfter z := rfl
theorem M_brokenAfter_set_lost (z : MS) (y : Int64) : M_brokenAfter (M_set_lost z y) = M_brokenAfter z := rfl
theorem M_brokenAfter_set_pumped (z : MS) (y : Int32) : M_brokenAfter (M_set_pumped z y) = M_brokenAfter z := rfl
theorem M_brokenAfter_set_pumpedWeight (z : MS) (y : Int32) : M_brokenAfter (M_set_pumpedWeight z y) = M_brokenAfter z := rfl
theorem M_brokenAfter_set_valve (z : MS) (y : Int32) : M_brokenAfter (M_set_valve z y) = M_brokenAfter z := rfl
theorem M_brokenAfter_set_brokenAfter (z : MS) (y : Int32) : M_brokenAfter (M_set_brokenAfter z y) = y := rfl
theorem M_brokenAfter_set_cement (z : MS) (y : Int32) : M_brokenAfter (M_set_cement z y) = M_brokenAfter z := rfl
theorem M_brokenAfter_set_casedAfter (z : MS) (y : Int32) : M_brokenAfter (M_set_casedAfter z y) = M_brokenAfter z := rfl
theorem M_brokenAfter_set_flowed (z : MS) (y : Int32) : M_brokenAfter (M_set_flowed z y) = M_brokenAfter z := rfl
theorem M_brokenAfter_set_kept (z : MS) (y : (Nat → Int64)) : M_brokenAfter (M_set_kept z y) = M_brokenAfter z := rfl
theorem M_brokenAfter_set_tests (z : MS) (y : Int32) : M_brokenAfter (M_set_tests z y) = M_brokenAfter z := rfl
theorem M_brokenAfter_set_tested (z : MS) (y : (Nat → Int32)) : M_brokenAfter (M_set_tested z y) = M_brokenAfter z := rfl
theorem M_brokenAfter_set_by (z : MS) (y : (Nat → Int32)) : M_brokenAfter (M_set_by z y) = M_brokenAfter z := rfl
theorem M_brokenAfter_set_isPassed (z : MS) (y : (Nat → Int32)) : M_brokenAfter (M_set_isPassed z y) = M_brokenAfter z := rfl
theorem M_brokenAfter_set_testedAt (z : MS) (y : (Nat → Int32)) : M_brokenAfter (M_set_testedAt z y) = M_brokenAfter z := rfl
theorem M_brokenAfter_set_stops (z : MS) (y : (Nat → Int32)) : M_brokenAfter (M_set_stops z y) = M_brokenAfter z := rfl
theorem M_cement_set_thrown (z : MS) (y : Int32) : M_cement (M_set_thrown z y) = M_cement z := rfl
theorem M_cement_set_pore (z : MS) (y : (Nat → Int32)) : M_cement (M_set_pore z y) = M_cement z := rfl
theorem M_cement_set_breaks (z : MS) (y : (Nat → Int32)) : M_cement (M_set_breaks z y) = M_cement z := rfl
theorem M_cement_set_rate (z : MS) (y : (Nat → Int32)) : M_cement (M_set_rate z y) = M_cement z := rfl
theorem M_cement_set_bearsGas (z : MS) (y : (Nat → Int32)) : M_cement (M_set_bearsGas z y) = M_cement z := rfl
theorem M_cement_set_depth (z : MS) (y : Int32) : M_cement (M_set_depth z y) = M_cement z := rfl
theorem M_cement_set_shoe (z : MS) (y : Int32) : M_cement (M_set_shoe z y) = M_cement z := rfl
theorem M_cement_set_weight (z : MS) (y : Int32) : M_cement (M_set_weight z y) = M_cement z := rfl
theorem M_cement_set_isClosed (z : MS) (y : Int32) : M_cement (M_set_isClosed z y) = M_cement z := rfl
theorem M_cement_set_choke (z : MS) (y : Int32) : M_cement (M_set_choke z y) = M_cement z := rfl
theorem M_cement_set_charge (z : MS) (y : Int64) : M_cement (M_set_charge z y) = M_cement z := rfl
theorem M_cement_set_place (z : MS) (y : Int32) : M_cement (M_set_place z y) = M_cement z := rfl
theorem M_cement_set_gas (z : MS) (y : Int32) : M_cement (M_set_gas z y) = M_cement z := rfl
theorem M_cement_set_liquid (z : MS) (y : Int32) : M_cement (M_set_liquid z y) = M_cement z := rfl
theorem M_cement_set_minutes (z : MS) (y : Int32) : M_cement (M_set_minutes z y) = M_cement z := rfl
theorem M_cement_set_vented (z : MS) (y : Int64) : M_cement (M_set_vented z y) = M_cement z := rfl
theorem M_cement_set_lost (z : MS) (y : Int64) : M_cement (M_set_lost z y) = M_cement z := rfl
theorem M_cement_set_pumped (z : MS) (y : Int32) : M_cement (M_set_pumped z y) = M_cement z := rfl
theorem M_cement_set_pumpedWeight (z : MS) (y : Int32) : M_cement (M_set_pumpedWeight z y) = M_cement z := rfl
theorem M_cement_set_valve (z : MS) (y : Int32) : M_cement (M_set_valve z y) = M_cement z := rfl
theorem M_cement_set_brokenAfter (z : MS) (y : Int32) : M_cement (M_set_brokenAfter z y) = M_cement z := rfl
theorem M_cement_set_cement (z : MS) (y : Int32) : M_cement (M_set_cement z y) = y := rfl
theorem M_cement_set_casedAfter (z : MS) (y : Int32) : M_cement (M_set_casedAfter z y) = M_cement z := rfl
theorem M_cement_set_flowed (z : MS) (y : Int32) : M_cement (M_set_flowed z y) = M_cement z := rfl
theorem M_cement_set_kept (z : MS) (y : (Nat → Int64)) : M_cement (M_set_kept z y) = M_cement z := rfl
theorem M_cement_set_tests (z : MS) (y : Int32) : M_cement (M_set_tests z y) = M_cement z := rfl
theorem M_cement_set_tested (z : MS) (y : (Nat → Int32)) : M_cement (M_set_tested z y) = M_cement z := rfl
theorem M_cement_set_by (z : MS) (y : (Nat → Int32)) : M_cement (M_set_by z y) = M_cement z := rfl
theorem M_cement_set_isPassed (z : MS) (y : (Nat → Int32)) : M_cement (M_set_isPassed z y) = M_cement z := rfl
theorem M_cement_set_testedAt (z : MS) (y : (Nat → Int32)) : M_cement (M_set_testedAt z y) = M_cement z := rfl
theorem M_cement_set_stops (z : MS) (y : (Nat → Int32)) : M_cement (M_set_stops z y) = M_cement z := rfl
theorem M_casedAfter_set_thrown (z : MS) (y : Int32) : M_casedAfter (M_set_thrown z y) = M_casedAfter z := rfl
theorem M_casedAfter_set_pore (z : MS) (y : (Nat → Int32)) : M_casedAfter (M_set_pore z y) = M_casedAfter z := rfl
theorem M_casedAfter_set_breaks (z : MS) (y : (Nat → Int32)) : M_casedAfter (M_set_breaks z y) = M_casedAfter z := rfl
theorem M_casedAfter_set_rate (z : MS) (y : (Nat → Int32)) : M_casedAfter (M_set_rate z y) = M_casedAfter z := rfl
theorem M_casedAfter_set_bearsGas (z : MS) (y : (Nat → Int32)) : M_casedAfter (M_set_bearsGas z y) = M_casedAfter z := rfl
theorem M_casedAfter_set_depth (z : MS) (y : Int32) : M_casedAfter (M_set_depth z y) = M_casedAfter z := rfl
theorem M_casedAfter_set_shoe (z : MS) (y : Int32) : M_casedAfter (M_set_shoe z y) = M_casedAfter z := rfl
theorem M_casedAfter_set_weight (z : MS) (y : Int32) : M_casedAfter (M_set_weight z y) = M_casedAfter z := rfl
theorem M_casedAfter_set_isClosed (z : MS) (y : Int32) : M_casedAfter (M_set_isClosed z y) = M_casedAfter z := rfl
theorem M_casedAfter_set_choke (z : MS) (y : Int32) : M_casedAfter (M_set_choke z y) = M_casedAfter z := rfl
theorem M_casedAfter_set_charge (z : MS) (y : Int64) : M_casedAfter (M_set_charge z y) = M_casedAfter z := rfl
theorem M_casedAfter_set_place (z : MS) (y : Int32) : M_casedAfter (M_set_place z y) = M_casedAfter z := rfl
theorem M_casedAfter_set_gas (z : MS) (y : Int32) : M_casedAfter (M_set_gas z y) = M_casedAfter z := rfl
theorem M_casedAfter_set_liquid (z : MS) (y : Int32) : M_casedAfter (M_set_liquid z y) = M_casedAfter z := rfl
theorem M_casedAfter_set_minutes (z : MS) (y : Int32) : M_casedAfter (M_set_minutes z y) = M_casedAfter z := rfl
theorem M_casedAfter_set_vented (z : MS) (y : Int64) : M_casedAfter (M_set_vented z y) = M_casedAfter z := rfl
theorem M_casedAfter_set_lost (z : MS) (y : Int64) : M_casedAfter (M_set_lost z y) = M_casedAfter z := rfl
theorem M_casedAfter_set_pumped (z : MS) (y : Int32) : M_casedAfter (M_set_pumped z y) = M_casedAfter z := rfl
theorem M_casedAfter_set_pumpedWeight (z : MS) (y : Int32) : M_casedAfter (M_set_pumpedWeight z y) = M_casedAfter z := rfl
theorem M_casedAfter_set_valve (z : MS) (y : Int32) : M_casedAfter (M_set_valve z y) = M_casedAfter z := rfl
theorem M_casedAfter_set_brokenAfter (z : MS) (y : Int32) : M_casedAfter (M_set_brokenAfter z y) = M_casedAfter z := rfl
theorem M_casedAfter_set_cement (z : MS) (y : Int32) : M_casedAfter (M_set_cement z y) = M_casedAfter z := rfl
theorem M_casedAfter_set_casedAfter (z : MS) (y : Int32) : M_casedAfter (M_set_casedAfter z y) = y := rfl
theorem M_casedAfter_set_flowed (z : MS) (y : Int32) : M_casedAfter (M_set_flowed z y) = M_casedAfter z := rfl
theorem M_casedAfter_set_kept (z : MS) (y : (Nat → Int64)) : M_casedAfter (M_set_kept z y) = M_casedAfter z := rfl
theorem M_casedAfter_set_tests (z : MS) (y : Int32) : M_casedAfter (M_set_tests z y) = M_casedAfter z := rfl
theorem M_casedAfter_set_tested (z : MS) (y : (Nat → Int32)) : M_casedAfter (M_set_tested z y) = M_casedAfter z := rfl
theorem M_casedAfter_set_by (z : MS) (y : (Nat → Int32)) : M_casedAfter (M_set_by z y) = M_casedAfter z := rfl
theorem M_casedAfter_set_isPassed (z : MS) (y : (Nat → Int32)) : M_casedAfter (M_set_isPassed z y) = M_casedAfter z := rfl
theorem M_casedAfter_set_testedAt (z : MS) (y : (Nat → Int32)) : M_casedAfter (M_set_testedAt z y) = M_casedAfter z := rfl
theorem M_casedAfter_set_stops (z : MS) (y : (Nat → Int32)) : M_casedAfter (M_set_stops z y) = M_casedAfter z := rfl
theorem M_flowed_set_thrown (z : MS) (y : Int32) : M_flowed (M_set_thrown z y) = M_flowed z := rfl
theorem M_flowed_set_pore (z : MS) (y : (Nat → Int32)) : M_flowed (M_set_pore z y) = M_flowed z := rfl
theorem M_flowed_set_breaks (z : MS) (y : (Nat → Int32)) : M_flowed (M_set_breaks z y) = M_flowed z := rfl
theorem M_flowed_set_rate (z : MS) (y : (Nat → Int32)) : M_flowed (M_set_rate z y) = M_flowed z := rfl
theorem M_flowed_set_bearsGas (z : MS) (y : (Nat → Int32)) : M_flowed (M_set_bearsGas z y) = M_flowed z := rfl
theorem M_flowed_set_depth (z : MS) (y : Int32) : M_flowed (M_set_depth z y) = M_flowed z := rfl
theorem M_flowed_set_shoe (z : MS) (y : Int32) : M_flowed (M_set_shoe z y) = M_flowed z := rfl
theorem M_flowed_set_weight (z : MS) (y : Int32) : M_flowed (M_set_weight z y) = M_flowed z := rfl
theorem M_flowed_set_isClosed (z : MS) (y : Int32) : M_flowed (M_set_isClosed z y) = M_flowed z := rfl
theorem M_flowed_set_choke (z : MS) (y : Int32) : M_flowed (M_set_choke z y) = M_flowed z := rfl
theorem M_flowed_set_charge (z : MS) (y : Int64) : M_flowed (M_set_charge z y) = M_flowed z := rfl
theorem M_flowed_set_place (z : MS) (y : Int32) : M_flowed (M_set_place z y) = M_flowed z := rfl
theorem M_flowed_set_gas (z : MS) (y : Int32) : M_flowed (M_set_gas z y) = M_flowed z := rfl
theorem M_flowed_set_liquid (z : MS) (y : Int32) : M_flowed (M_set_liquid z y) = M_flowed z := rfl
theorem M_flowed_set_minutes (z : MS) (y : Int32) : M_flowed (M_set_minutes z y) = M_flowed z := rfl
theorem M_flowed_set_vented (z : MS) (y : Int64) : M_flowed (M_set_vented z y) = M_flowed z := rfl
theorem M_flowed_set_lost (z : MS) (y : Int64) : M_flowed (M_set_lost z y) = M_flowed z := rfl
theorem M_flowed_set_pumped (z : MS) (y : Int32) : M_flowed (M_set_pumped z y) = M_flowed z := rfl
theorem M_flowed_set_pumpedWeight (z : MS) (y : Int32) : M_flowed (M_set_pumpedWeight z y) = M_flowed z := rfl
theorem M_flowed_set_valve (z : MS) (y : Int32) : M_flowed (M_set_valve z y) = M_flowed z := rfl
theorem M_flowed_set_brokenAfter (z : MS) (y : Int32) : M_flowed (M_set_brokenAfter z y) = M_flowed z := rfl
theorem M_flowed_set_cement (z : MS) (y : Int32) : M_flowed (M_set_cement z y) = M_flowed z := rfl
theorem M_flowed_set_casedAfter (z : MS) (y : Int32) : M_flowed (M_set_casedAfter z y) = M_flowed z := rfl
theorem M_flowed_set_flowed (z : MS) (y : Int32) : M_flowed (M_set_flowed z y) = y := rfl
theorem M_flowed_set_kept (z : MS) (y : (Nat → Int64)) : M_flowed (M_set_kept z y) = M_flowed z := rfl
theorem M_flowed_set_tests (z : MS) (y : Int32) : M_flowed (M_set_tests z y) = M_flowed z := rfl
theorem M_flowed_set_tested (z : MS) (y : (Nat → Int32)) : M_flowed (M_set_tested z y) = M_flowed z := rfl
theorem M_flowed_set_by (z : MS) (y : (Nat → Int32)) : M_flowed (M_set_by z y) = M_flowed z := rfl
theorem M_flowed_set_isPassed (z : MS) (y : (Nat → Int32)) : M_flowed (M_set_isPassed z y) = M_flowed z := rfl
theorem M_flowed_set_testedAt (z : MS) (y : (Nat → Int32)) : M_flowed (M_set_testedAt z y) = M_flowed z := rfl
theorem M_flowed_set_stops (z : MS) (y : (Nat → Int32)) : M_flowed (M_set_stops z y) = M_flowed z := rfl
theorem M_kept_set_thrown (z : MS) (y : Int32) : M_kept (M_set_thrown z y) = M_kept z := rfl
theorem M_kept_set_pore (z : MS) (y : (Nat → Int32)) : M_kept (M_set_pore z y) = M_kept z := rfl
theorem M_kept_set_breaks (z : MS) (y : (Nat → Int32)) : M_kept (M_set_breaks z y) = M_kept z := rfl
theorem M_kept_set_rate (z : MS) (y : (Nat → Int32)) : M_kept (M_set_rate z y) = M_kept z := rfl
theorem M_kept_set_bearsGas (z : MS) (y : (Nat → Int32)) : M_kept (M_set_bearsGas z y) = M_kept z := rfl
theorem M_kept_set_depth (z : MS) (y : Int32) : M_kept (M_set_depth z y) = M_kept z := rfl
theorem M_kept_set_shoe (z : MS) (y : Int32) : M_kept (M_set_shoe z y) = M_kept z := rfl
theorem M_kept_set_weight (z : MS) (y : Int32) : M_kept (M_set_weight z y) = M_kept z := rfl
theorem M_kept_set_isClosed (z : MS) (y : Int32) : M_kept (M_set_isClosed z y) = M_kept z := rfl
theorem M_kept_set_choke (z : MS) (y : Int32) : M_kept (M_set_choke z y) = M_kept z := rfl
theorem M_kept_set_charge (z : MS) (y : Int64) : M_kept (M_set_charge z y) = M_kept z := rfl
theorem M_kept_set_place (z : MS) (y : Int32) : M_kept (M_set_place z y) = M_kept z := rfl
theorem M_kept_set_gas (z : MS) (y : Int32) : M_kept (M_set_gas z y) = M_kept z := rfl
theorem M_kept_set_liquid (z : MS) (y : Int32) : M_kept (M_set_liquid z y) = M_kept z := rfl
theorem M_kept_set_minutes (z : MS) (y : Int32) : M_kept (M_set_minutes z y) = M_kept z := rfl
theorem M_kept_set_vented (z : MS) (y : Int64) : M_kept (M_set_vented z y) = M_kept z := rfl
theorem M_kept_set_lost (z : MS) (y : Int64) : M_kept (M_set_lost z y) = M_kept z := rfl
theorem M_kept_set_pumped (z : MS) (y : Int32) : M_kept (M_set_pumped z y) = M_kept z := rfl
theorem M_kept_set_pumpedWeight (z : MS) (y : Int32) : M_kept (M_set_pumpedWeight z y) = M_kept z := rfl
theorem M_kept_set_valve (z : MS) (y : Int32) : M_kept (M_set_valve z y) = M_kept z := rfl
theorem M_kept_set_brokenAfter (z : MS) (y : Int32) : M_kept (M_set_brokenAfter z y) = M_kept z := rfl
theorem M_kept_set_cement (z : MS) (y : Int32) : M_kept (M_set_cement z y) = M_kept z := rfl
theorem M_kept_set_casedAfter (z : MS) (y : Int32) : M_kept (M_set_casedAfter z y) = M_kept z := rfl
theorem M_kept_set_flowed (z : MS) (y : Int32) : M_kept (M_set_flowed z y) = M_kept z := rfl
theorem M_kept_set_kept (z : MS) (y : (Nat → Int64)) : M_kept (M_set_kept z y) = y := rfl
theorem M_kept_set_tests (z : MS) (y : Int32) : M_kept (M_set_tests z y) = M_kept z := rfl
theorem M_kept_set_tested (z : MS) (y : (Nat → Int32)) : M_kept (M_set_tested z y) = M_kept z := rfl
theorem M_kept_set_by (z : MS) (y : (Nat → Int32)) : M_kept (M_set_by z y) = M_kept z := rfl
theorem M_kept_set_isPassed (z : MS) (y : (Nat → Int32)) : M_kept (M_set_isPassed z y) = M_kept z := rfl
theorem M_kept_set_testedAt (z : MS) (y : (Nat → Int32)) : M_kept (M_set_testedAt z y) = M_kept z := rfl
theorem M_kept_set_stops (z : MS) (y : (Nat → Int32)) : M_kept (M_set_stops z y) = M_kept z := rfl
theorem M_tests_set_thrown (z : MS) (y : Int32) : M_tests (M_set_thrown z y) = M_tests z := rfl
theorem M_tests_set_pore (z : MS) (y : (Nat → Int32)) : M_tests (M_set_pore z y) = M_tests z := rfl
theorem M_tests_set_breaks (z : MS) (y : (Nat → Int32)) : M_tests (M_set_breaks z y) = M_tests z := rfl
theorem M_tests_set_rate (z : MS) (y : (Nat → Int32)) : M_tests (M_set_rate z y) = M_tests z := rfl
theorem M_tests_set_bearsGas (z : MS) (y : (Nat → Int32)) : M_tests (M_set_bearsGas z y) = M_tests z := rfl
theorem M_tests_set_depth (z : MS) (y : Int32) : M_tests (M_set_depth z y) = M_tests z := rfl
theorem M_tests_set_shoe (z : MS) (y : Int32) : M_tests (M_set_shoe z y) = M_tests z := rfl
theorem M_tests_set_weight (z : MS) (y : Int32) : M_tests (M_set_weight z y) = M_tests z := rfl
theorem M_tests_set_isClosed (z : MS) (y : Int32) : M_tests (M_set_isClosed z y) = M_tests z := rfl
theorem M_tests_set_choke (z : MS) (y : Int32) : M_tests (M_set_choke z y) = M_tests z := rfl
theorem M_tests_set_charge (z : MS) (y : Int64) : M_tests (M_set_charge z y) = M_tests z := rfl
theorem M_tests_set_place (z : MS) (y : Int32) : M_tests (M_set_place z y) = M_tests z := rfl
theorem M_tests_set_gas (z : MS) (y : Int32) : M_tests (M_set_gas z y) = M_tests z := rfl
theorem M_tests_set_liquid (z : MS) (y : Int32) : M_tests (M_set_liquid z y) = M_tests z := rfl
theorem M_tests_set_minutes (z : MS) (y : Int32) : M_tests (M_set_minutes z y) = M_tests z := rfl
theorem M_tests_set_vented (z : MS) (y : Int64) : M_tests (M_set_vented z y) = M_tests z := rfl
theorem M_tests_set_lost (z : MS) (y : Int64) : M_tests (M_set_lost z y) = M_tests z := rfl
theorem M_tests_set_pumped (z : MS) (y : Int32) : M_tests (M_set_pumped z y) = M_tests z := rfl
theorem M_tests_set_pumpedWeight (z : MS) (y : Int32) : M_tests (M_set_pumpedWeight z y) = M_tests z := rfl
theorem M_tests_set_valve (z : MS) (y : Int32) : M_tests (M_set_valve z y) = M_tests z := rfl
theorem M_tests_set_brokenAfter (z : MS) (y : Int32) : M_tests (M_set_brokenAfter z y) = M_tests z := rfl
theorem M_tests_set_cement (z : MS) (y : Int32) : M_tests (M_set_cement z y) = M_tests z := rfl
theorem M_tests_set_casedAfter (z : MS) (y : Int32) : M_tests (M_set_casedAfter z y) = M_tests z := rfl
theorem M_tests_set_flowed (z : MS) (y : Int32) : M_tests (M_set_flowed z y) = M_tests z := rfl
theorem M_tests_set_kept (z : MS) (y : (Nat → Int64)) : M_tests (M_set_kept z y) = M_tests z := rfl
theorem M_tests_set_tests (z : MS) (y : Int32) : M_tests (M_set_tests z y) = y := rfl
theorem M_tests_set_tested (z : MS) (y : (Nat → Int32)) : M_tests (M_set_tested z y) = M_tests z := rfl
theorem M_tests_set_by (z : MS) (y : (Nat → Int32)) : M_tests (M_set_by z y) = M_tests z := rfl
theorem M_tests_set_isPassed (z : MS) (y : (Nat → Int32)) : M_tests (M_set_isPassed z y) = M_tests z := rfl
theorem M_tests_set_testedAt (z : MS) (y : (Nat → Int32)) : M_tests (M_set_testedAt z y) = M_tests z := rfl
theorem M_tests_set_stops (z : MS) (y : (Nat → Int32)) : M_tests (M_set_stops z y) = M_tests z := rfl
theorem M_tested_set_thrown (z : MS) (y : Int32) : M_tested (M_set_thrown z y) = M_tested z := rfl
theorem M_tested_set_pore (z : MS) (y : (Nat → Int32)) : M_tested (M_set_pore z y) = M_tested z := rfl
theorem M_tested_set_breaks (z : MS) (y : (Nat → Int32)) : M_tested (M_set_breaks z y) = M_tested z := rfl
theorem M_tested_set_rate (z : MS) (y : (Nat → Int32)) : M_tested (M_set_rate z y) = M_tested z := rfl
theorem M_tested_set_bearsGas (z : MS) (y : (Nat → Int32)) : M_tested (M_set_bearsGas z y) = M_tested z := rfl
theorem M_tested_set_depth (z : MS) (y : Int32) : M_tested (M_set_depth z y) = M_tested z := rfl
theorem M_tested_set_shoe (z : MS) (y : Int32) : M_tested (M_set_shoe z y) = M_tested z := rfl
theorem M_tested_set_weight (z : MS) (y : Int32) : M_tested (M_set_weight z y) = M_tested z := rfl
theorem M_tested_set_isClosed (z : MS) (y : Int32) : M_tested (M_set_isClosed z y) = M_tested z := rfl
theorem M_tested_set_choke (z : MS) (y : Int32) : M_tested (M_set_choke z y) = M_tested z := rfl
theorem M_tested_set_charge (z : MS) (y : Int64) : M_tested (M_set_charge z y) = M_tested z := rfl
theorem M_tested_set_place (z : MS) (y : Int32) : M_tested (M_set_place z y) = M_tested z := rfl
theorem M_tested_set_gas (z : MS) (y : Int32) : M_tested (M_set_gas z y) = M_tested z := rfl
theorem M_tested_set_liquid (z : MS) (y : Int32) : M_tested (M_set_liquid z y) = M_tested z := rfl
theorem M_tested_set_minutes (z : MS) (y : Int32) : M_tested (M_set_minutes z y) = M_tested z := rfl
theorem M_tested_set_vented (z : MS) (y : Int64) : M_tested (M_set_vented z y) = M_tested z := rfl
theorem M_tested_set_lost (z : MS) (y : Int64) : M_tested (M_set_lost z y) = M_tested z := rfl
theorem M_tested_set_pumped (z : MS) (y : Int32) : M_tested (M_set_pumped z y) = M_tested z := rfl
theorem M_tested_set_pumpedWeight (z : MS) (y : Int32) : M_tested (M_set_pumpedWeight z y) = M_tested z := rfl
theorem M_tested_set_valve (z : MS) (y : Int32) : M_tested (M_set_valve z y) = M_tested z := rfl
theorem M_tested_set_brokenAfter (z : MS) (y : Int32) : M_tested (M_set_brokenAfter z y) = M_tested z := rfl
theorem M_tested_set_cement (z : MS) (y : Int32) : M_tested (M_set_cement z y) = M_tested z := rfl
theorem M_tested_set_casedAfter (z : MS) (y : Int32) : M_tested (M_set_casedAfter z y) = M_tested z := rfl
theorem M_tested_set_flowed (z : MS) (y : Int32) : M_tested (M_set_flowed z y) = M_tested z := rfl
theorem M_tested_set_kept (z : MS) (y : (Nat → Int64)) : M_tested (M_set_kept z y) = M_tested z := rfl
theorem M_tested_set_tests (z : MS) (y : Int32) : M_tested (M_set_tests z y) = M_tested z := rfl
theorem M_tested_set_tested (z : MS) (y : (Nat → Int32)) : M_tested (M_set_tested z y) = y := rfl
theorem M_tested_set_by (z : MS) (y : (Nat → Int32)) : M_tested (M_set_by z y) = M_tested z := rfl
theorem M_tested_set_isPassed (z : MS) (y : (Nat → Int32)) : M_tested (M_set_isPassed z y) = M_tested z := rfl
theorem M_tested_set_testedAt (z : MS) (y : (Nat → Int32)) : M_tested (M_set_testedAt z y) = M_tested z := rfl
theorem M_tested_set_stops (z : MS) (y : (Nat → Int32)) : M_tested (M_set_stops z y) = M_tested z := rfl
theorem M_by_set_thrown (z : MS) (y : Int32) : M_by (M_set_thrown z y) = M_by z := rfl
theorem M_by_set_pore (z : MS) (y : (Nat → Int32)) : M_by (M_set_pore z y) = M_by z := rfl
theorem M_by_set_breaks (z : MS) (y : (Nat → Int32)) : M_by (M_set_breaks z y) = M_by z := rfl
theorem M_by_set_rate (z : MS) (y : (Nat → Int32)) : M_by (M_set_rate z y) = M_by z := rfl
theorem M_by_set_bearsGas (z : MS) (y : (Nat → Int32)) : M_by (M_set_bearsGas z y) = M_by z := rfl
theorem M_by_set_depth (z : MS) (y : Int32) : M_by (M_set_depth z y) = M_by z := rfl
theorem M_by_set_shoe (z : MS) (y : Int32) : M_by (M_set_shoe z y) = M_by z := rfl
theorem M_by_set_weight (z : MS) (y : Int32) : M_by (M_set_weight z y) = M_by z := rfl
theorem M_by_set_isClosed (z : MS) (y : Int32) : M_by (M_set_isClosed z y) = M_by z := rfl
theorem M_by_set_choke (z : MS) (y : Int32) : M_by (M_set_choke z y) = M_by z := rfl
theorem M_by_set_charge (z : MS) (y : Int64) : M_by (M_set_charge z y) = M_by z := rfl
theorem M_by_set_place (z : MS) (y : Int32) : M_by (M_set_place z y) = M_by z := rfl
theorem M_by_set_gas (z : MS) (y : Int32) : M_by (M_set_gas z y) = M_by z := rfl
theorem M_by_set_liquid (z : MS) (y : Int32) : M_by (M_set_liquid z y) = M_by z := rfl
theorem M_by_set_minutes (z : MS) (y : Int32) : M_by (M_set_minutes z y) = M_by z := rfl
theorem M_by_set_vented (z : MS) (y : Int64) : M_by (M_set_vented z y) = M_by z := rfl
theorem M_by_set_lost (z : MS) (y : Int64) : M_by (M_set_lost z y) = M_by z := rfl
theorem M_by_set_pumped (z : MS) (y : Int32) : M_by (M_set_pumped z y) = M_by z := rfl
theorem M_by_set_pumpedWeight (z : MS) (y : Int32) : M_by (M_set_pumpedWeight z y) = M_by z := rfl
theorem M_by_set_valve (z : MS) (y : Int32) : M_by (M_set_valve z y) = M_by z := rfl
theorem M_by_set_brokenAfter (z : MS) (y : Int32) : M_by (M_set_brokenAfter z y) = M_by z := rfl
theorem M_by_set_cement (z : MS) (y : Int32) : M_by (M_set_cement z y) = M_by z := rfl
theorem M_by_set_casedAfter (z : MS) (y : Int32) : M_by (M_set_casedAfter z y) = M_by z := rfl
theorem M_by_set_flowed (z : MS) (y : Int32) : M_by (M_set_flowed z y) = M_by z := rfl
theorem M_by_set_kept (z : MS) (y : (Nat → Int64)) : M_by (M_set_kept z y) = M_by z := rfl
theorem M_by_set_tests (z : MS) (y : Int32) : M_by (M_set_tests z y) = M_by z := rfl
theorem M_by_set_tested (z : MS) (y : (Nat → Int32)) : M_by (M_set_tested z y) = M_by z := rfl
theorem M_by_set_by (z : MS) (y : (Nat → Int32)) : M_by (M_set_by z y) = y := rfl
theorem M_by_set_isPassed (z : MS) (y : (Nat → Int32)) : M_by (M_set_isPassed z y) = M_by z := rfl
theorem M_by_set_testedAt (z : MS) (y : (Nat → Int32)) : M_by (M_set_testedAt z y) = M_by z := rfl
theorem M_by_set_stops (z : MS) (y : (Nat → Int32)) : M_by (M_set_stops z y) = M_by z := rfl
theorem M_isPassed_set_thrown (z : MS) (y : Int32) : M_isPassed (M_set_thrown z y) = M_isPassed z := rfl
theorem M_isPassed_set_pore (z : MS) (y : (Nat → Int32)) : M_isPassed (M_set_pore z y) = M_isPassed z := rfl
theorem M_isPassed_set_breaks (z : MS) (y : (Nat → Int32)) : M_isPassed (M_set_breaks z y) = M_isPassed z := rfl
theorem M_isPassed_set_rate (z : MS) (y : (Nat → Int32)) : M_isPassed (M_set_rate z y) = M_isPassed z := rfl
theorem M_isPassed_set_bearsGas (z : MS) (y : (Nat → Int32)) : M_isPassed (M_set_bearsGas z y) = M_isPassed z := rfl
theorem M_isPassed_set_depth (z : MS) (y : Int32) : M_isPassed (M_set_depth z y) = M_isPassed z := rfl
theorem M_isPassed_set_shoe (z : MS) (y : Int32) : M_isPassed (M_set_shoe z y) = M_isPassed z := rfl
theorem M_isPassed_set_weight (z : MS) (y : Int32) : M_isPassed (M_set_weight z y) = M_isPassed z := rfl
theorem M_isPassed_set_isClosed (z : MS) (y : Int32) : M_isPassed (M_set_isClosed z y) = M_isPassed z := rfl
theorem M_isPassed_set_choke (z : MS) (y : Int32) : M_isPassed (M_set_choke z y) = M_isPassed z := rfl
theorem M_isPassed_set_charge (z : MS) (y : Int64) : M_isPassed (M_set_charge z y) = M_isPassed z := rfl
theorem M_isPassed_set_place (z : MS) (y : Int32) : M_isPassed (M_set_place z y) = M_isPassed z := rfl
theorem M_isPassed_set_gas (z : MS) (y : Int32) : M_isPassed (M_set_gas z y) = M_isPassed z := rfl
theorem M_isPassed_set_liquid (z : MS) (y : Int32) : M_isPassed (M_set_liquid z y) = M_isPassed z := rfl
theorem M_isPassed_set_minutes (z : MS) (y : Int32) : M_isPassed (M_set_minutes z y) = M_isPassed z := rfl
theorem M_isPassed_set_vented (z : MS) (y : Int64) : M_isPassed (M_set_vented z y) = M_isPassed z := rfl
theorem M_isPassed_set_lost (z : MS) (y : Int64) : M_isPassed (M_set_lost z y) = M_isPassed z := rfl
theorem M_isPassed_set_pumped (z : MS) (y : Int32) : M_isPassed (M_set_pumped z y) = M_isPassed z := rfl
theorem M_isPassed_set_pumpedWeight (z : MS) (y : Int32) : M_isPassed (M_set_pumpedWeight z y) = M_isPassed z := rfl
theorem M_isPassed_set_valve (z : MS) (y : Int32) : M_isPassed (M_set_valve z y) = M_isPassed z := rfl
theorem M_isPassed_set_brokenAfter (z : MS) (y : Int32) : M_isPassed (M_set_brokenAfter z y) = M_isPassed z := rfl
theorem M_isPassed_set_cement (z : MS) (y : Int32) : M_isPassed (M_set_cement z y) = M_isPassed z := rfl
theorem M_isPassed_set_casedAfter (z : MS) (y : Int32) : M_isPassed (M_set_casedAfter z y) = M_isPassed z := rfl
theorem M_isPassed_set_flowed (z : MS) (y : Int32) : M_isPassed (M_set_flowed z y) = M_isPassed z := rfl
theorem M_isPassed_set_kept (z : MS) (y : (Nat → Int64)) : M_isPassed (M_set_kept z y) = M_isPassed z := rfl
theorem M_isPassed_set_tests (z : MS) (y : Int32) : M_isPassed (M_set_tests z y) = M_isPassed z := rfl
theorem M_isPassed_set_tested (z : MS) (y : (Nat → Int32)) : M_isPassed (M_set_tested z y) = M_isPassed z := rfl
theorem M_isPassed_set_by (z : MS) (y : (Nat → Int32)) : M_isPassed (M_set_by z y) = M_isPassed z := rfl
theorem M_isPassed_set_isPassed (z : MS) (y : (Nat → Int32)) : M_isPassed (M_set_isPassed z y) = y := rfl
theorem M_isPassed_set_testedAt (z : MS) (y : (Nat → Int32)) : M_isPassed (M_set_testedAt z y) = M_isPassed z := rfl
theorem M_isPassed_set_stops (z : MS) (y : (Nat → Int32)) : M_isPassed (M_set_stops z y) = M_isPassed z := rfl
theorem M_testedAt_set_thrown (z : MS) (y : Int32) : M_testedAt (M_set_thrown z y) = M_testedAt z := rfl
theorem M_testedAt_set_pore (z : MS) (y : (Nat → Int32)) : M_testedAt (M_set_pore z y) = M_testedAt z := rfl
theorem M_testedAt_set_breaks (z : MS) (y : (Nat → Int32)) : M_testedAt (M_set_breaks z y) = M_testedAt z := rfl
theorem M_testedAt_set_rate (z : MS) (y : (Nat → Int32)) : M_testedAt (M_set_rate z y) = M_testedAt z := rfl
theorem M_testedAt_set_bearsGas (z : MS) (y : (Nat → Int32)) : M_testedAt (M_set_bearsGas z y) = M_testedAt z := rfl
theorem M_testedAt_set_depth (z : MS) (y : Int32) : M_testedAt (M_set_depth z y) = M_testedAt z := rfl
theorem M_testedAt_set_shoe (z : MS) (y : Int32) : M_testedAt (M_set_shoe z y) = M_testedAt z := rfl
theorem M_testedAt_set_weight (z : MS) (y : Int32) : M_testedAt (M_set_weight z y) = M_testedAt z := rfl
theorem M_testedAt_set_isClosed (z : MS) (y : Int32) : M_testedAt (M_set_isClosed z y) = M_testedAt z := rfl
theorem M_testedAt_set_choke (z : MS) (y : Int32) : M_testedAt (M_set_choke z y) = M_testedAt z := rfl
theorem M_testedAt_set_charge (z : MS) (y : Int64) : M_testedAt (M_set_charge z y) = M_testedAt z := rfl
theorem M_testedAt_set_place (z : MS) (y : Int32) : M_testedAt (M_set_place z y) = M_testedAt z := rfl
theorem M_testedAt_set_gas (z : MS) (y : Int32) : M_testedAt (M_set_gas z y) = M_testedAt z := rfl
theorem M_testedAt_set_liquid (z : MS) (y : Int32) : M_testedAt (M_set_liquid z y) = M_testedAt z := rfl
theorem M_testedAt_set_minutes (z : MS) (y : Int32) : M_testedAt (M_set_minutes z y) = M_testedAt z := rfl
theorem M_testedAt_set_vented (z : MS) (y : Int64) : M_testedAt (M_set_vented z y) = M_testedAt z := rfl
theorem M_testedAt_set_lost (z : MS) (y : Int64) : M_testedAt (M_set_lost z y) = M_testedAt z := rfl
theorem M_testedAt_set_pumped (z : MS) (y : Int32) : M_testedAt (M_set_pumped z y) = M_testedAt z := rfl
theorem M_testedAt_set_pumpedWeight (z : MS) (y : Int32) : M_testedAt (M_set_pumpedWeight z y) = M_testedAt z := rfl
theorem M_testedAt_set_valve (z : MS) (y : Int32) : M_testedAt (M_set_valve z y) = M_testedAt z := rfl
theorem M_testedAt_set_brokenAfter (z : MS) (y : Int32) : M_testedAt (M_set_brokenAfter z y) = M_testedAt z := rfl
theorem M_testedAt_set_cement (z : MS) (y : Int32) : M_testedAt (M_set_cement z y) = M_testedAt z := rfl
theorem M_testedAt_set_casedAfter (z : MS) (y : Int32) : M_testedAt (M_set_casedAfter z y) = M_testedAt z := rfl
theorem M_testedAt_set_flowed (z : MS) (y : Int32) : M_testedAt (M_set_flowed z y) = M_testedAt z := rfl
theorem M_testedAt_set_kept (z : MS) (y : (Nat → Int64)) : M_testedAt (M_set_kept z y) = M_testedAt z := rfl
theorem M_testedAt_set_tests (z : MS) (y : Int32) : M_testedAt (M_set_tests z y) = M_testedAt z := rfl
theorem M_testedAt_set_tested (z : MS) (y : (Nat → Int32)) : M_testedAt (M_set_tested z y) = M_testedAt z := rfl
theorem M_testedAt_set_by (z : MS) (y : (Nat → Int32)) : M_testedAt (M_set_by z y) = M_testedAt z := rfl
theorem M_testedAt_set_isPassed (z : MS) (y : (Nat → Int32)) : M_testedAt (M_set_isPassed z y) = M_testedAt z := rfl
theorem M_testedAt_set_testedAt (z : MS) (y : (Nat → Int32)) : M_testedAt (M_set_testedAt z y) = y := rfl
theorem M_testedAt_set_stops (z : MS) (y : (Nat → Int32)) : M_testedAt (M_set_stops z y) = M_testedAt z := rfl
theorem M_stops_set_thrown (z : MS) (y : Int32) : M_stops (M_set_thrown z y) = M_stops z := rfl
theorem M_stops_set_pore (z : MS) (y : (Nat → Int32)) : M_stops (M_set_pore z y) = M_stops z := rfl
theorem M_stops_set_breaks (z : MS) (y : (Nat → Int32)) : M_stops (M_set_breaks z y) = M_stops z := rfl
theorem M_stops_set_rate (z : MS) (y : (Nat → Int32)) : M_stops (M_set_rate z y) = M_stops z := rfl
theorem M_stops_set_bearsGas (z : MS) (y : (Nat → Int32)) : M_stops (M_set_bearsGas z y) = M_stops z := rfl
theorem M_stops_set_depth (z : MS) (y : Int32) : M_stops (M_set_depth z y) = M_stops z := rfl
theorem M_stops_set_shoe (z : MS) (y : Int32) : M_stops (M_set_shoe z y) = M_stops z := rfl
theorem M_stops_set_weight (z : MS) (y : Int32) : M_stops (M_set_weight z y) = M_stops z := rfl
theorem M_stops_set_isClosed (z : MS) (y : Int32) : M_stops (M_set_isClosed z y) = M_stops z := rfl
theorem M_stops_set_choke (z : MS) (y : Int32) : M_stops (M_set_choke z y) = M_stops z := rfl
theorem M_stops_set_charge (z : MS) (y : Int64) : M_stops (M_set_charge z y) = M_stops z := rfl
theorem M_stops_set_place (z : MS) (y : Int32) : M_stops (M_set_place z y) = M_stops z := rfl
theorem M_stops_set_gas (z : MS) (y : Int32) : M_stops (M_set_gas z y) = M_stops z := rfl
theorem M_stops_set_liquid (z : MS) (y : Int32) : M_stops (M_set_liquid z y) = M_stops z := rfl
theorem M_stops_set_minutes (z : MS) (y : Int32) : M_stops (M_set_minutes z y) = M_stops z := rfl
theorem M_stops_set_vented (z : MS) (y : Int64) : M_stops (M_set_vented z y) = M_stops z := rfl
theorem M_stops_set_lost (z : MS) (y : Int64) : M_stops (M_set_lost z y) = M_stops z := rfl
theorem M_stops_set_pumped (z : MS) (y : Int32) : M_stops (M_set_pumped z y) = M_stops z := rfl
theorem M_stops_set_pumpedWeight (z : MS) (y : Int32) : M_stops (M_set_pumpedWeight z y) = M_stops z := rfl
theorem M_stops_set_valve (z : MS) (y : Int32) : M_stops (M_set_valve z y) = M_stops z := rfl
theorem M_stops_set_brokenAfter (z : MS) (y : Int32) : M_stops (M_set_brokenAfter z y) = M_stops z := rfl
theorem M_stops_set_cement (z : MS) (y : Int32) : M_stops (M_set_cement z y) = M_stops z := rfl
theorem M_stops_set_casedAfter (z : MS) (y : Int32) : M_stops (M_set_casedAfter z y) = M_stops z := rfl
theorem M_stops_set_flowed (z : MS) (y : Int32) : M_stops (M_set_flowed z y) = M_stops z := rfl
theorem M_stops_set_kept (z : MS) (y : (Nat → Int64)) : M_stops (M_set_kept z y) = M_stops z := rfl
theorem M_stops_set_tests (z : MS) (y : Int32) : M_stops (M_set_tests z y) = M_stops z := rfl
theorem M_stops_set_tested (z : MS) (y : (Nat → Int32)) : M_stops (M_set_tested z y) = M_stops z := rfl
theorem M_stops_set_by (z : MS) (y : (Nat → Int32)) : M_stops (M_set_by z y) = M_stops z := rfl
theorem M_stops_set_isPassed (z : MS) (y : (Nat → Int32)) : M_stops (M_set_isPassed z y) = M_stops z := rfl
theorem M_stops_set_testedAt (z : MS) (y : (Nat → Int32)) : M_stops (M_set_testedAt z y) = M_stops z := rfl
theorem M_stops_set_stops (z : MS) (y : (Nat → Int32)) : M_stops (M_set_stops z y) = y := rfl
def aI (q : Nat → ClassId) (a n : Nat) (f : Nat → Int32) : Nat × va_E := (a, .inl (q 0, n, .inl f))
def aZ (q : Nat → ClassId) (a n : Nat) (f : Nat → Int32) : Nat × va_E := (a, .inl (q 1, n, .inl f))
def aJ (q : Nat → ClassId) (a n : Nat) (f : Nat → Int64) : Nat × va_E := (a, .inl (q 2, n, .inr (.inl f)))
def oR (k : Nat → Nat) : Nat × va_E := (k 0, .inr (0, [.ref (k 1), .ref (k 2), .ref (k 3), .ref (k 4), .ref (k 5)]))
def oT (k : Nat → Nat) (z : TS) : Nat × va_E := (k 0, .inr (1, [.ref (k 1), .ref (k 2), .ref (k 3), .ref (k 4), .int (T_count z), .int (T_latestOfValve z), .int (T_latestOfCement z)]))
def oW (h rr : Nat) (z : WS) : Nat × va_E := (h, .inr (2, [.ref rr, .int (W_depth z), .int (W_shoe z), .int (W_weight z), .int (W_isClosed z), .int (W_choke z), .int (W_valveStrength z), .int (W_hasBrokenSinceTest z), .long (W_charge z), .int (W_place z), .int (W_gas z), .int (W_liquid z), .long (W_vented z), .int (W_lost z), .int (W_minutes z)]))
def oX (h rr hw ht tt : Nat) (z : XS) : Nat × va_E := (h, .inr (3, [.ref rr, .ref hw, .ref ht, .ref tt, .int (X_stops z), .int (X_pumped z), .int (X_latestPumpedWeight z), .int (X_cement z)]))
def oM (k : Nat → Nat) (z : MS) : Nat × va_E := (k 0, .inr (4, [.int (M_thrown z), .ref (k 1), .ref (k 2), .ref (k 3), .ref (k 4), .int (M_depth z), .int (M_shoe z), .int (M_weight z), .int (M_isClosed z), .int (M_choke z), .long (M_charge z), .int (M_place z), .int (M_gas z), .int (M_liquid z), .int (M_minutes z), .long (M_vented z), .long (M_lost z), .int (M_pumped z), .int (M_pumpedWeight z), .int (M_valve z), .int (M_brokenAfter z), .int (M_cement z), .int (M_casedAfter z), .int (M_flowed z), .ref (k 5), .int (M_tests z), .ref (k 6), .ref (k 7), .ref (k 8), .ref (k 9), .ref (k 10)]))
def cRock (k : Nat → Nat) (q : Nat → ClassId) (r : RS) : va_W := [oR k, aI q (k 1) 50 (R_pores r), aI q (k 2) 50 (R_breaks r), aI q (k 3) 50 (R_rates r), aI q (k 4) 50 (R_gases r), aI q (k 5) 50 (R_pieces r)]
def cTests (k : Nat → Nat) (q : Nat → ClassId) (t : TS) : va_W := [oT k t, aI q (k 1) 60 (T_whats t), aI q (k 2) 60 (T_pressures t), aI q (k 3) 60 (T_passes t), aI q (k 4) 60 (T_minutes t)]
def cWell (h : Nat) (kr : Nat → Nat) (q : Nat → ClassId) (w : WS) (r : RS) : va_W := oW h (kr 0) w :: cRock kr q r
def cTwo (h h2 : Nat) (kr : Nat → Nat) (q : Nat → ClassId) (w w2 : WS) : va_W := [oW h (kr 0) w, oW h2 (kr 0) w2]
def cKick (h hw ht : Nat) (kr kt : Nat → Nat) (q : Nat → ClassId) (x : XS) (w v : WS) (r : RS) (t : TS) : va_W := oX h (kr 0) hw ht (kt 0) x :: oW hw (kr 0) w :: oW ht (kr 0) v :: (cRock kr q r ++ cTests kt q t)
def cModel (km : Nat → Nat) (q : Nat → ClassId) (m : MS) : va_W := [oM km m, aI q (km 1) 50 (M_pore m), aI q (km 2) 50 (M_breaks m), aI q (km 3) 50 (M_rate m), aZ q (km 4) 50 (M_bearsGas m), aJ q (km 5) 16 (M_kept m), aI q (km 6) 60 (M_tested m), aI q (km 7) 60 (M_by m), aZ q (km 8) 60 (M_isPassed m), aI q (km 9) 60 (M_testedAt m), aZ q (km 10) 6 (M_stops m)]
theorem fst_Rock (k : Nat → Nat) (q : Nat → ClassId) (r : RS) : (cRock k q r).map Prod.fst = [k 0, k 1, k 2, k 3, k 4, k 5] := rfl
theorem fst_Tests (k : Nat → Nat) (q : Nat → ClassId) (t : TS) : (cTests k q t).map Prod.fst = [k 0, k 1, k 2, k 3, k 4] := rfl
theorem fst_Well (h : Nat) (k : Nat → Nat) (q : Nat → ClassId) (w : WS) (r : RS) : (cWell h k q w r).map Prod.fst = [h, k 0, k 1, k 2, k 3, k 4, k 5] := rfl
theorem fst_Two (h h2 : Nat) (k : Nat → Nat) (q : Nat → ClassId) (w w2 : WS) : (cTwo h h2 k q w w2).map Prod.fst = [h, h2] := rfl
theorem fst_Kick (h aw av : Nat) (k kt : Nat → Nat) (q : Nat → ClassId) (x : XS) (w v : WS) (r : RS) (t : TS) : (cKick h aw av k kt q x w v r t).map Prod.fst = [h, aw, av, k 0, k 1, k 2, k 3, k 4, k 5, kt 0, kt 1, kt 2, kt 3, kt 4] := rfl
theorem fst_Model (k : Nat → Nat) (q : Nat → ClassId) (m : MS) : (cModel k q m).map Prod.fst = [k 0, k 1, k 2, k 3, k 4, k 5, k 6, k 7, k 8, k 9, k 10] := rfl
theorem pl_Model (k : Nat → Nat) (q : Nat → ClassId) (m : MS) : [0, 1, 2, 3, 4, 5, 6, 7, 8, 9, 10].map (fun i => (cModel k q m)[i]?) = (cModel k q m).map some := rfl
theorem all_Model (k : Nat → Nat) (q : Nat → ClassId) (m m2 : MS) : setAll (cModel k q m) [0, 1, 2, 3, 4, 5, 6, 7, 8, 9, 10] (cModel k q m2) = cModel k q m2 := rfl
theorem sf_thrown (km : Nat → Nat) (q : Nat → ClassId) (m : MS) (y : Int32) : (cModel km q m).set 0 (oM km (M_set_thrown m y)) = cModel km q (M_set_thrown m y) := rfl
theorem sa_pore (km : Nat → Nat) (q : Nat → ClassId) (m : MS) (f : Nat → Int32) : (cModel km q m).set 1 (aI q (km 1) 50 f) = cModel km q (M_set_pore m f) := rfl
theorem sa_breaks (km : Nat → Nat) (q : Nat → ClassId) (m : MS) (f : Nat → Int32) : (cModel km q m).set 2 (aI q (km 2) 50 f) = cModel km q (M_set_breaks m f) := rfl
theorem sa_rate (km : Nat → Nat) (q : Nat → ClassId) (m : MS) (f : Nat → Int32) : (cModel km q m).set 3 (aI q (km 3) 50 f) = cModel km q (M_set_rate m f) := rfl
theorem sa_bearsGas (km : Nat → Nat) (q : Nat → ClassId) (m : MS) (f : Nat → Int32) : (cModel km q m).set 4 (aZ q (km 4) 50 f) = cModel km q (M_set_bearsGas m f) := rfl
theorem sf_depth (km : Nat → Nat) (q : Nat → ClassId) (m : MS) (y : Int32) : (cModel km q m).set 0 (oM km (M_set_depth m y)) = cModel km q (M_set_depth m y) := rfl
theorem sf_shoe (km : Nat → Nat) (q : Nat → ClassId) (m : MS) (y : Int32) : (cModel km q m).set 0 (oM km (M_set_shoe m y)) = cModel km q (M_set_shoe m y) := rfl
theorem sf_weight (km : Nat → Nat) (q : Nat → ClassId) (m : MS) (y : Int32) : (cModel km q m).set 0 (oM km (M_set_weight m y)) = cModel km q (M_set_weight m y) := rfl
theorem sf_isClosed (km : Nat → Nat) (q : Nat → ClassId) (m : MS) (y : Int32) : (cModel km q m).set 0 (oM km (M_set_isClosed m y)) = cModel km q (M_set_isClosed m y) := rfl
theorem sf_choke (km : Nat → Nat) (q : Nat → ClassId) (m : MS) (y : Int32) : (cModel km q m).set 0 (oM km (M_set_choke m y)) = cModel km q (M_set_choke m y) := rfl
theorem sf_charge (km : Nat → Nat) (q : Nat → ClassId) (m : MS) (y : Int64) : (cModel km q m).set 0 (oM km (M_set_charge m y)) = cModel km q (M_set_charge m y) := rfl
theorem sf_place (km : Nat → Nat) (q : Nat → ClassId) (m : MS) (y : Int32) : (cModel km q m).set 0 (oM km (M_set_place m y)) = cModel km q (M_set_place m y) := rfl
theorem sf_gas (km : Nat → Nat) (q : Nat → ClassId) (m : MS) (y : Int32) : (cModel km q m).set 0 (oM km (M_set_gas m y)) = cModel km q (M_set_gas m y) := rfl
theorem sf_liquid (km : Nat → Nat) (q : Nat → ClassId) (m : MS) (y : Int32) : (cModel km q m).set 0 (oM km (M_set_liquid m y)) = cModel km q (M_set_liquid m y) := rfl
theorem sf_minutes (km : Nat → Nat) (q : Nat → ClassId) (m : MS) (y : Int32) : (cModel km q m).set 0 (oM km (M_set_minutes m y)) = cModel km q (M_set_minutes m y) := rfl
theorem sf_vented (km : Nat → Nat) (q : Nat → ClassId) (m : MS) (y : Int64) : (cModel km q m).set 0 (oM km (M_set_vented m y)) = cModel km q (M_set_vented m y) := rfl
theorem sf_lost (km : Nat → Nat) (q : Nat → ClassId) (m : MS) (y : Int64) : (cModel km q m).set 0 (oM km (M_set_lost m y)) = cModel km q (M_set_lost m y) := rfl
theorem sf_pumped (km : Nat → Nat) (q : Nat → ClassId) (m : MS) (y : Int32) : (cModel km q m).set 0 (oM km (M_set_pumped m y)) = cModel km q (M_set_pumped m y) := rfl
theorem sf_pumpedWeight (km : Nat → Nat) (q : Nat → ClassId) (m : MS) (y : Int32) : (cModel km q m).set 0 (oM km (M_set_pumpedWeight m y)) = cModel km q (M_set_pumpedWeight m y) := rfl
theorem sf_valve (km : Nat → Nat) (q : Nat → ClassId) (m : MS) (y : Int32) : (cModel km q m).set 0 (oM km (M_set_valve m y)) = cModel km q (M_set_valve m y) := rfl
theorem sf_brokenAfter (km : Nat → Nat) (q : Nat → ClassId) (m : MS) (y : Int32) : (cModel km q m).set 0 (oM km (M_set_brokenAfter m y)) = cModel km q (M_set_brokenAfter m y) := rfl
theorem sf_cement (km : Nat → Nat) (q : Nat → ClassId) (m : MS) (y : Int32) : (cModel km q m).set 0 (oM km (M_set_cement m y)) = cModel km q (M_set_cement m y) := rfl
theorem sf_casedAfter (km : Nat → Nat) (q : Nat → ClassId) (m : MS) (y : Int32) : (cModel km q m).set 0 (oM km (M_set_casedAfter m y)) = cModel km q (M_set_casedAfter m y) := rfl
theorem sf_flowed (km : Nat → Nat) (q : Nat → ClassId) (m : MS) (y : Int32) : (cModel km q m).set 0 (oM km (M_set_flowed m y)) = cModel km q (M_set_flowed m y) := rfl
theorem sa_kept (km : Nat → Nat) (q : Nat → ClassId) (m : MS) (f : Nat → Int64) : (cModel km q m).set 5 (aJ q (km 5) 16 f) = cModel km q (M_set_kept m f) := rfl
theorem sf_tests (km : Nat → Nat) (q : Nat → ClassId) (m : MS) (y : Int32) : (cModel km q m).set 0 (oM km (M_set_tests m y)) = cModel km q (M_set_tests m y) := rfl
theorem sa_tested (km : Nat → Nat) (q : Nat → ClassId) (m : MS) (f : Nat → Int32) : (cModel km q m).set 6 (aI q (km 6) 60 f) = cModel km q (M_set_tested m f) := rfl
theorem sa_by (km : Nat → Nat) (q : Nat → ClassId) (m : MS) (f : Nat → Int32) : (cModel km q m).set 7 (aI q (km 7) 60 f) = cModel km q (M_set_by m f) := rfl
theorem sa_isPassed (km : Nat → Nat) (q : Nat → ClassId) (m : MS) (f : Nat → Int32) : (cModel km q m).set 8 (aZ q (km 8) 60 f) = cModel km q (M_set_isPassed m f) := rfl
theorem sa_testedAt (km : Nat → Nat) (q : Nat → ClassId) (m : MS) (f : Nat → Int32) : (cModel km q m).set 9 (aI q (km 9) 60 f) = cModel km q (M_set_testedAt m f) := rfl
theorem sa_stops (km : Nat → Nat) (q : Nat → ClassId) (m : MS) (f : Nat → Int32) : (cModel km q m).set 10 (aZ q (km 10) 6 f) = cModel km q (M_set_stops m f) := rfl
def cArr (a n : Nat) (q : Nat → ClassId) (f : Nat → Int32) : va_W := [aI q a n f]
theorem fst_Arr (a n : Nat) (q : Nat → ClassId) (f : Nat → Int32) : (cArr a n q f).map Prod.fst = [a] := rfl
end
section
/-! The words by their places, the links of the calls, a row for each field that is read or written. -/
theorem mm_0 : Cond.fieldLink RX0 9 "Kickroom$Rock" "pores" "[I" ∈ ALL := ALL_i (List.mem_append_right _ (List.mem_append_left _ (List.mem_of_getElem? (i := 32) (by decide +kernel)))) (by decide +kernel)
theorem mm_1 : Cond.methodLink RX0 37 yX0_layerOf ∈ ALL := ALL_i (List.mem_append_right _ (List.mem_append_left _ (List.mem_of_getElem? (i := 205) (by decide +kernel)))) (by decide +kernel)
theorem mm_2 : Cond.static yX0_layerOf ∈ ALL := ALL_i (List.mem_append_right _ (List.mem_append_left _ (List.mem_of_getElem? (i := 206) (by decide +kernel)))) (by decide +kernel)
theorem mm_3 : Cond.initialized RX0 ∈ ALL := ALL_i (List.mem_append_right _ (List.mem_append_left _ (List.mem_of_getElem? (i := 2) (by decide +kernel)))) (by decide +kernel)
theorem mm_4 : Cond.code yX0_layerOf cX0_layerOf 1 (some .int) ∈ ALL := ALL_i (List.mem_append_right _ (List.mem_append_left _ (List.mem_of_getElem? (i := 207) (by decide +kernel)))) (by decide +kernel)
theorem mm_5 : Cond.static yX3_read ∈ ALL := ALL_i (List.mem_append_right _ (List.mem_append_left _ (List.mem_of_getElem? (i := 209) (by decide +kernel)))) (by decide +kernel)
theorem mm_6 : Cond.initialized RX3 ∈ ALL := ALL_i (List.mem_append_right _ (List.mem_append_left _ (List.mem_of_getElem? (i := 1) (by decide +kernel)))) (by decide +kernel)
theorem mm_7 : Cond.code yX3_read cX3_read 2 (some .int) ∈ ALL := ALL_i (List.mem_append_right _ (List.mem_append_left _ (List.mem_of_getElem? (i := 210) (by decide +kernel)))) (by decide +kernel)
theorem mm_8 : Cond.fieldLink RX0 15 "Kickroom$Rock" "breaks" "[I" ∈ ALL := ALL_i (List.mem_append_right _ (List.mem_append_left _ (List.mem_of_getElem? (i := 33) (by decide +kernel)))) (by decide +kernel)
theorem mm_9 : Cond.fieldLink RX0 18 "Kickroom$Rock" "rates" "[I" ∈ ALL := ALL_i (List.mem_append_right _ (List.mem_append_left _ (List.mem_of_getElem? (i := 34) (by decide +kernel)))) (by decide +kernel)
theorem mm_10 : Cond.fieldLink RX0 21 "Kickroom$Rock" "gases" "[I" ∈ ALL := ALL_i (List.mem_append_right _ (List.mem_append_left _ (List.mem_of_getElem? (i := 35) (by decide +kernel)))) (by decide +kernel)
theorem mm_11 : Cond.static yX3_write ∈ ALL := ALL_i (List.mem_append_right _ (List.mem_append_right _ (List.mem_append_left _ (List.mem_of_getElem? (i := 114) (by decide +kernel))))) (by decide +kernel)
theorem mm_12 : Cond.code yX3_write cX3_write 3 none ∈ ALL := ALL_i (List.mem_append_right _ (List.mem_append_right _ (List.mem_append_left _ (List.mem_of_getElem? (i := 115) (by decide +kernel))))) (by decide +kernel)
theorem mm_13 : Cond.methodLink RX0 45 Lib.Math.max.name ∈ ALL := ALL_i (List.mem_append_right _ (List.mem_append_right _ (List.mem_append_right _ (List.mem_append_left _ (List.mem_of_getElem? (i := 91) (by decide +kernel)))))) (by decide +kernel)
theorem mm_14 : Cond.methodLink RX0 51 Lib.Math.min.name ∈ ALL := ALL_i (List.mem_append_right _ (List.mem_append_right _ (List.mem_append_right _ (List.mem_append_left _ (List.mem_of_getElem? (i := 86) (by decide +kernel)))))) (by decide +kernel)
theorem mm_15 : Cond.fieldLink RX0 24 "Kickroom$Rock" "pieces" "[I" ∈ ALL := ALL_i (List.mem_append_right _ (List.mem_append_left _ (List.mem_of_getElem? (i := 36) (by decide +kernel)))) (by decide +kernel)
theorem mm_16 : Cond.methodLink RX0 54 yX0_leastPiecesTo ∈ ALL := ALL_i (List.mem_append_right _ (List.mem_append_right _ (List.mem_append_right _ (List.mem_append_left _ (List.mem_of_getElem? (i := 115) (by decide +kernel)))))) (by decide +kernel)
theorem mm_17 : Cond.instanceMethod yX0_leastPiecesTo ∈ ALL := ALL_i (List.mem_append_right _ (List.mem_append_right _ (List.mem_append_right _ (List.mem_append_left _ (List.mem_of_getElem? (i := 117) (by decide +kernel)))))) (by decide +kernel)
theorem mm_18 : Cond.selects RX0 yX0_leastPiecesTo yX0_leastPiecesTo ∈ ALL := ALL_i (List.mem_append_left _ (List.mem_of_getElem? (i := 31) (by decide +kernel))) (by decide +kernel)
theorem mm_19 : Cond.code yX0_leastPiecesTo cX0_leastPiecesTo 8 (some .int) ∈ ALL := ALL_i (List.mem_append_right _ (List.mem_append_right _ (List.mem_append_right _ (List.mem_append_left _ (List.mem_of_getElem? (i := 118) (by decide +kernel)))))) (by decide +kernel)
theorem mm_20 : Cond.fieldLink RX1 9 "Kickroom$Tests" "whats" "[I" ∈ ALL := ALL_i (List.mem_append_right _ (List.mem_append_left _ (List.mem_of_getElem? (i := 120) (by decide +kernel)))) (by decide +kernel)
theorem mm_21 : Cond.fieldLink RX1 31 "Kickroom$Tests" "count" "I" ∈ ALL := ALL_i (List.mem_append_right _ (List.mem_append_left _ (List.mem_of_getElem? (i := 128) (by decide +kernel)))) (by decide +kernel)
theorem mm_22 : Cond.fieldLink RX1 15 "Kickroom$Tests" "pressures" "[I" ∈ ALL := ALL_i (List.mem_append_right _ (List.mem_append_left _ (List.mem_of_getElem? (i := 122) (by decide +kernel)))) (by decide +kernel)
theorem mm_23 : Cond.fieldLink RX1 18 "Kickroom$Tests" "passes" "[I" ∈ ALL := ALL_i (List.mem_append_right _ (List.mem_append_left _ (List.mem_of_getElem? (i := 124) (by decide +kernel)))) (by decide +kernel)
theorem mm_24 : Cond.fieldLink RX1 21 "Kickroom$Tests" "minutes" "[I" ∈ ALL := ALL_i (List.mem_append_right _ (List.mem_append_left _ (List.mem_of_getElem? (i := 126) (by decide +kernel)))) (by decide +kernel)
theorem mm_25 : Cond.fieldLink RX1 28 "Kickroom$Tests" "latestOfCement" "I" ∈ ALL := ALL_i (List.mem_append_right _ (List.mem_append_left _ (List.mem_of_getElem? (i := 132) (by decide +kernel)))) (by decide +kernel)
theorem mm_26 : Cond.fieldLink RX1 24 "Kickroom$Tests" "latestOfValve" "I" ∈ ALL := ALL_i (List.mem_append_right _ (List.mem_append_left _ (List.mem_of_getElem? (i := 130) (by decide +kernel)))) (by decide +kernel)
theorem mm_27 : Cond.fieldLink RX2 36 "Kickroom$Well" "charge" "J" ∈ ALL := ALL_i (List.mem_append_right _ (List.mem_append_left _ (List.mem_of_getElem? (i := 70) (by decide +kernel)))) (by decide +kernel)
theorem mm_28 : Cond.methodLink RX2 58 yX2_hasGas ∈ ALL := ALL_i (List.mem_append_right _ (List.mem_append_left _ (List.mem_of_getElem? (i := 186) (by decide +kernel)))) (by decide +kernel)
theorem mm_29 : Cond.instanceMethod yX2_hasGas ∈ ALL := ALL_i (List.mem_append_right _ (List.mem_append_left _ (List.mem_of_getElem? (i := 188) (by decide +kernel)))) (by decide +kernel)
theorem mm_30 : Cond.selects RX2 yX2_hasGas yX2_hasGas ∈ ALL := ALL_i (List.mem_append_left _ (List.mem_of_getElem? (i := 2) (by decide +kernel))) (by decide +kernel)
theorem mm_31 : Cond.initialized RX2 ∈ ALL := ALL_i (List.mem_append_right _ (List.mem_append_left _ (List.mem_of_getElem? (i := 4) (by decide +kernel)))) (by decide +kernel)
theorem mm_32 : Cond.code yX2_hasGas cX2_hasGas 1 (some .boolean) ∈ ALL := ALL_i (List.mem_append_right _ (List.mem_append_left _ (List.mem_of_getElem? (i := 189) (by decide +kernel)))) (by decide +kernel)
theorem mm_33 : Cond.fieldLink RX2 46 "Kickroom$Well" "liquid" "I" ∈ ALL := ALL_i (List.mem_append_right _ (List.mem_append_left _ (List.mem_of_getElem? (i := 75) (by decide +kernel)))) (by decide +kernel)
theorem mm_34 : Cond.fieldLink RX2 13 "Kickroom$Well" "weight" "I" ∈ ALL := ALL_i (List.mem_append_right _ (List.mem_append_left _ (List.mem_of_getElem? (i := 60) (by decide +kernel)))) (by decide +kernel)
theorem mm_35 : Cond.fieldLink RX2 20 "Kickroom$Well" "depth" "I" ∈ ALL := ALL_i (List.mem_append_right _ (List.mem_append_left _ (List.mem_of_getElem? (i := 56) (by decide +kernel)))) (by decide +kernel)
theorem mm_36 : Cond.fieldLink RX2 43 "Kickroom$Well" "gas" "I" ∈ ALL := ALL_i (List.mem_append_right _ (List.mem_append_left _ (List.mem_of_getElem? (i := 73) (by decide +kernel)))) (by decide +kernel)
theorem mm_37 : Cond.methodLink RX2 62 Lib.Math.max.name ∈ ALL := ALL_i (List.mem_append_right _ (List.mem_append_left _ (List.mem_of_getElem? (i := 198) (by decide +kernel)))) (by decide +kernel)
theorem mm_38 : Cond.methodLink RX2 68 yX2_column ∈ ALL := ALL_i (List.mem_append_right _ (List.mem_append_left _ (List.mem_of_getElem? (i := 194) (by decide +kernel)))) (by decide +kernel)
theorem mm_39 : Cond.instanceMethod yX2_column ∈ ALL := ALL_i (List.mem_append_right _ (List.mem_append_left _ (List.mem_of_getElem? (i := 196) (by decide +kernel)))) (by decide +kernel)
theorem mm_40 : Cond.selects RX2 yX2_column yX2_column ∈ ALL := ALL_i (List.mem_append_left _ (List.mem_of_getElem? (i := 4) (by decide +kernel))) (by decide +kernel)
theorem mm_41 : Cond.code yX2_column cX2_column 1 (some .int) ∈ ALL := ALL_i (List.mem_append_right _ (List.mem_append_left _ (List.mem_of_getElem? (i := 197) (by decide +kernel)))) (by decide +kernel)
theorem mm_42 : Cond.fieldLink RX2 30 "Kickroom$Well" "choke" "I" ∈ ALL := ALL_i (List.mem_append_right _ (List.mem_append_left _ (List.mem_of_getElem? (i := 64) (by decide +kernel)))) (by decide +kernel)
theorem mm_43 : Cond.fieldLink RX2 40 "Kickroom$Well" "place" "I" ∈ ALL := ALL_i (List.mem_append_right _ (List.mem_append_left _ (List.mem_of_getElem? (i := 71) (by decide +kernel)))) (by decide +kernel)
theorem mm_44 : Cond.fieldLink RX2 23 "Kickroom$Well" "shoe" "I" ∈ ALL := ALL_i (List.mem_append_right _ (List.mem_append_left _ (List.mem_of_getElem? (i := 58) (by decide +kernel)))) (by decide +kernel)
theorem mm_45 : Cond.methodLink RX2 95 yX2_gasPressure ∈ ALL := ALL_i (List.mem_append_right _ (List.mem_append_right _ (List.mem_append_left _ (List.mem_of_getElem? (i := 156) (by decide +kernel))))) (by decide +kernel)
theorem mm_46 : Cond.instanceMethod yX2_gasPressure ∈ ALL := ALL_i (List.mem_append_right _ (List.mem_append_right _ (List.mem_append_left _ (List.mem_of_getElem? (i := 158) (by decide +kernel))))) (by decide +kernel)
theorem mm_47 : Cond.selects RX2 yX2_gasPressure yX2_gasPressure ∈ ALL := ALL_i (List.mem_append_left _ (List.mem_of_getElem? (i := 16) (by decide +kernel))) (by decide +kernel)
theorem mm_48 : Cond.code yX2_gasPressure cX2_gasPressure 1 (some .int) ∈ ALL := ALL_i (List.mem_append_right _ (List.mem_append_right _ (List.mem_append_left _ (List.mem_of_getElem? (i := 159) (by decide +kernel))))) (by decide +kernel)
theorem mm_49 : Cond.methodLink RX2 98 Lib.MathLoose.min_long.x ∈ ALL := ALL_i (List.mem_append_right _ (List.mem_append_right _ (List.mem_append_left _ (List.mem_of_getElem? (i := 160) (by decide +kernel))))) (by decide +kernel)
theorem mm_50 : Cond.fieldLink RX2 26 "Kickroom$Well" "isClosed" "Z" ∈ ALL := ALL_i (List.mem_append_right _ (List.mem_append_left _ (List.mem_of_getElem? (i := 62) (by decide +kernel)))) (by decide +kernel)
theorem mm_51 : Cond.fieldLink RX2 49 "Kickroom$Well" "vented" "J" ∈ ALL := ALL_i (List.mem_append_right _ (List.mem_append_left _ (List.mem_of_getElem? (i := 77) (by decide +kernel)))) (by decide +kernel)
theorem mm_52 : Cond.fieldLink RX2 7 "Kickroom$Well" "rock" "LKickroom$Rock;" ∈ ALL := ALL_i (List.mem_append_right _ (List.mem_append_left _ (List.mem_of_getElem? (i := 55) (by decide +kernel)))) (by decide +kernel)
theorem mm_53 : Cond.instanceMethod yX0_poreAt ∈ ALL := ALL_i (List.mem_append_right _ (List.mem_append_left _ (List.mem_of_getElem? (i := 203) (by decide +kernel)))) (by decide +kernel)
theorem mm_54 : Cond.selects RX0 yX0_poreAt yX0_poreAt ∈ ALL := ALL_i (List.mem_append_left _ (List.mem_of_getElem? (i := 5) (by decide +kernel))) (by decide +kernel)
theorem mm_55 : Cond.code yX0_poreAt cX0_poreAt 2 (some .int) ∈ ALL := ALL_i (List.mem_append_right _ (List.mem_append_left _ (List.mem_of_getElem? (i := 204) (by decide +kernel)))) (by decide +kernel)
theorem mm_56 : Cond.fieldLink RX2 17 "Kickroom$Well" "valveStrength" "I" ∈ ALL := ALL_i (List.mem_append_right _ (List.mem_append_left _ (List.mem_of_getElem? (i := 66) (by decide +kernel)))) (by decide +kernel)
theorem mm_57 : Cond.fieldLink RX2 33 "Kickroom$Well" "hasBrokenSinceTest" "Z" ∈ ALL := ALL_i (List.mem_append_right _ (List.mem_append_left _ (List.mem_of_getElem? (i := 68) (by decide +kernel)))) (by decide +kernel)
theorem mm_58 : Cond.methodLink RX2 108 yX2_bottom ∈ ALL := ALL_i (List.mem_append_right _ (List.mem_append_right _ (List.mem_append_left _ (List.mem_of_getElem? (i := 172) (by decide +kernel))))) (by decide +kernel)
theorem mm_59 : Cond.instanceMethod yX2_bottom ∈ ALL := ALL_i (List.mem_append_right _ (List.mem_append_left _ (List.mem_of_getElem? (i := 192) (by decide +kernel)))) (by decide +kernel)
theorem mm_60 : Cond.selects RX2 yX2_bottom yX2_bottom ∈ ALL := ALL_i (List.mem_append_left _ (List.mem_of_getElem? (i := 3) (by decide +kernel))) (by decide +kernel)
theorem mm_61 : Cond.code yX2_bottom cX2_bottom 1 (some .int) ∈ ALL := ALL_i (List.mem_append_right _ (List.mem_append_left _ (List.mem_of_getElem? (i := 193) (by decide +kernel)))) (by decide +kernel)
theorem mm_62 : Cond.instanceMethod yX0_rateAt ∈ ALL := ALL_i (List.mem_append_right _ (List.mem_append_right _ (List.mem_append_left _ (List.mem_of_getElem? (i := 175) (by decide +kernel))))) (by decide +kernel)
theorem mm_63 : Cond.selects RX0 yX0_rateAt yX0_rateAt ∈ ALL := ALL_i (List.mem_append_left _ (List.mem_of_getElem? (i := 19) (by decide +kernel))) (by decide +kernel)
theorem mm_64 : Cond.code yX0_rateAt cX0_rateAt 2 (some .int) ∈ ALL := ALL_i (List.mem_append_right _ (List.mem_append_right _ (List.mem_append_left _ (List.mem_of_getElem? (i := 176) (by decide +kernel))))) (by decide +kernel)
theorem mm_65 : Cond.methodLink RX2 114 Lib.Math.min.name ∈ ALL := ALL_i (List.mem_append_right _ (List.mem_append_right _ (List.mem_append_left _ (List.mem_of_getElem? (i := 177) (by decide +kernel))))) (by decide +kernel)
theorem mm_66 : Cond.instanceMethod yX0_bearsGasAt ∈ ALL := ALL_i (List.mem_append_right _ (List.mem_append_right _ (List.mem_append_left _ (List.mem_of_getElem? (i := 182) (by decide +kernel))))) (by decide +kernel)
theorem mm_67 : Cond.selects RX0 yX0_bearsGasAt yX0_bearsGasAt ∈ ALL := ALL_i (List.mem_append_left _ (List.mem_of_getElem? (i := 20) (by decide +kernel))) (by decide +kernel)
theorem mm_68 : Cond.code yX0_bearsGasAt cX0_bearsGasAt 2 (some .boolean) ∈ ALL := ALL_i (List.mem_append_right _ (List.mem_append_right _ (List.mem_append_left _ (List.mem_of_getElem? (i := 183) (by decide +kernel))))) (by decide +kernel)
theorem mm_69 : Cond.methodLink RX2 83 yX2_measureGas ∈ ALL := ALL_i (List.mem_append_right _ (List.mem_append_right _ (List.mem_append_left _ (List.mem_of_getElem? (i := 152) (by decide +kernel))))) (by decide +kernel)
theorem mm_70 : Cond.instanceMethod yX2_measureGas ∈ ALL := ALL_i (List.mem_append_right _ (List.mem_append_right _ (List.mem_append_left _ (List.mem_of_getElem? (i := 154) (by decide +kernel))))) (by decide +kernel)
theorem mm_71 : Cond.selects RX2 yX2_measureGas yX2_measureGas ∈ ALL := ALL_i (List.mem_append_left _ (List.mem_of_getElem? (i := 15) (by decide +kernel))) (by decide +kernel)
theorem mm_72 : Cond.code yX2_measureGas cX2_measureGas 2 none ∈ ALL := ALL_i (List.mem_append_right _ (List.mem_append_right _ (List.mem_append_left _ (List.mem_of_getElem? (i := 155) (by decide +kernel))))) (by decide +kernel)
theorem mm_73 : Cond.methodLink RX2 120 yX2_foot ∈ ALL := ALL_i (List.mem_append_right _ (List.mem_append_right _ (List.mem_append_left _ (List.mem_of_getElem? (i := 188) (by decide +kernel))))) (by decide +kernel)
theorem mm_74 : Cond.instanceMethod yX2_foot ∈ ALL := ALL_i (List.mem_append_right _ (List.mem_append_right _ (List.mem_append_left _ (List.mem_of_getElem? (i := 190) (by decide +kernel))))) (by decide +kernel)
theorem mm_75 : Cond.selects RX2 yX2_foot yX2_foot ∈ ALL := ALL_i (List.mem_append_left _ (List.mem_of_getElem? (i := 22) (by decide +kernel))) (by decide +kernel)
theorem mm_76 : Cond.code yX2_foot cX2_foot 3 (some .int) ∈ ALL := ALL_i (List.mem_append_right _ (List.mem_append_right _ (List.mem_append_left _ (List.mem_of_getElem? (i := 191) (by decide +kernel))))) (by decide +kernel)
theorem mm_77 : Cond.instanceMethod yX0_breakAt ∈ ALL := ALL_i (List.mem_append_right _ (List.mem_append_right _ (List.mem_append_left _ (List.mem_of_getElem? (i := 194) (by decide +kernel))))) (by decide +kernel)
theorem mm_78 : Cond.selects RX0 yX0_breakAt yX0_breakAt ∈ ALL := ALL_i (List.mem_append_left _ (List.mem_of_getElem? (i := 23) (by decide +kernel))) (by decide +kernel)
theorem mm_79 : Cond.code yX0_breakAt cX0_breakAt 2 (some .int) ∈ ALL := ALL_i (List.mem_append_right _ (List.mem_append_right _ (List.mem_append_left _ (List.mem_of_getElem? (i := 195) (by decide +kernel))))) (by decide +kernel)
theorem mm_80 : Cond.fieldLink RX2 52 "Kickroom$Well" "lost" "I" ∈ ALL := ALL_i (List.mem_append_right _ (List.mem_append_left _ (List.mem_of_getElem? (i := 79) (by decide +kernel)))) (by decide +kernel)
theorem mm_81 : Cond.fieldLink RX2 55 "Kickroom$Well" "minutes" "I" ∈ ALL := ALL_i (List.mem_append_right _ (List.mem_append_left _ (List.mem_of_getElem? (i := 81) (by decide +kernel)))) (by decide +kernel)
theorem mm_82 : Cond.methodLink RX2 76 yX2_raiseGas ∈ ALL := ALL_i (List.mem_append_right _ (List.mem_append_right _ (List.mem_append_left _ (List.mem_of_getElem? (i := 144) (by decide +kernel))))) (by decide +kernel)
theorem mm_83 : Cond.instanceMethod yX2_raiseGas ∈ ALL := ALL_i (List.mem_append_right _ (List.mem_append_right _ (List.mem_append_left _ (List.mem_of_getElem? (i := 146) (by decide +kernel))))) (by decide +kernel)
theorem mm_84 : Cond.selects RX2 yX2_raiseGas yX2_raiseGas ∈ ALL := ALL_i (List.mem_append_left _ (List.mem_of_getElem? (i := 13) (by decide +kernel))) (by decide +kernel)
theorem mm_85 : Cond.code yX2_raiseGas cX2_raiseGas 3 none ∈ ALL := ALL_i (List.mem_append_right _ (List.mem_append_right _ (List.mem_append_left _ (List.mem_of_getElem? (i := 147) (by decide +kernel))))) (by decide +kernel)
theorem mm_86 : Cond.methodLink RX2 80 yX2_ventGas ∈ ALL := ALL_i (List.mem_append_right _ (List.mem_append_right _ (List.mem_append_left _ (List.mem_of_getElem? (i := 148) (by decide +kernel))))) (by decide +kernel)
theorem mm_87 : Cond.instanceMethod yX2_ventGas ∈ ALL := ALL_i (List.mem_append_right _ (List.mem_append_right _ (List.mem_append_left _ (List.mem_of_getElem? (i := 150) (by decide +kernel))))) (by decide +kernel)
theorem mm_88 : Cond.selects RX2 yX2_ventGas yX2_ventGas ∈ ALL := ALL_i (List.mem_append_left _ (List.mem_of_getElem? (i := 14) (by decide +kernel))) (by decide +kernel)
theorem mm_89 : Cond.code yX2_ventGas cX2_ventGas 2 none ∈ ALL := ALL_i (List.mem_append_right _ (List.mem_append_right _ (List.mem_append_left _ (List.mem_of_getElem? (i := 151) (by decide +kernel))))) (by decide +kernel)
theorem mm_90 : Cond.methodLink RX2 86 yX2_setChoke ∈ ALL := ALL_i (List.mem_append_right _ (List.mem_append_right _ (List.mem_append_left _ (List.mem_of_getElem? (i := 163) (by decide +kernel))))) (by decide +kernel)
theorem mm_91 : Cond.instanceMethod yX2_setChoke ∈ ALL := ALL_i (List.mem_append_right _ (List.mem_append_right _ (List.mem_append_left _ (List.mem_of_getElem? (i := 165) (by decide +kernel))))) (by decide +kernel)
theorem mm_92 : Cond.selects RX2 yX2_setChoke yX2_setChoke ∈ ALL := ALL_i (List.mem_append_left _ (List.mem_of_getElem? (i := 17) (by decide +kernel))) (by decide +kernel)
theorem mm_93 : Cond.code yX2_setChoke cX2_setChoke 1 none ∈ ALL := ALL_i (List.mem_append_right _ (List.mem_append_right _ (List.mem_append_left _ (List.mem_of_getElem? (i := 166) (by decide +kernel))))) (by decide +kernel)
theorem mm_94 : Cond.methodLink RX2 89 yX2_flowIn ∈ ALL := ALL_i (List.mem_append_right _ (List.mem_append_right _ (List.mem_append_left _ (List.mem_of_getElem? (i := 168) (by decide +kernel))))) (by decide +kernel)
theorem mm_95 : Cond.instanceMethod yX2_flowIn ∈ ALL := ALL_i (List.mem_append_right _ (List.mem_append_right _ (List.mem_append_left _ (List.mem_of_getElem? (i := 170) (by decide +kernel))))) (by decide +kernel)
theorem mm_96 : Cond.selects RX2 yX2_flowIn yX2_flowIn ∈ ALL := ALL_i (List.mem_append_left _ (List.mem_of_getElem? (i := 18) (by decide +kernel))) (by decide +kernel)
theorem mm_97 : Cond.code yX2_flowIn cX2_flowIn 3 (some .boolean) ∈ ALL := ALL_i (List.mem_append_right _ (List.mem_append_right _ (List.mem_append_left _ (List.mem_of_getElem? (i := 171) (by decide +kernel))))) (by decide +kernel)
theorem mm_98 : Cond.methodLink RX2 92 yX2_loseAtShoe ∈ ALL := ALL_i (List.mem_append_right _ (List.mem_append_right _ (List.mem_append_left _ (List.mem_of_getElem? (i := 184) (by decide +kernel))))) (by decide +kernel)
theorem mm_99 : Cond.instanceMethod yX2_loseAtShoe ∈ ALL := ALL_i (List.mem_append_right _ (List.mem_append_right _ (List.mem_append_left _ (List.mem_of_getElem? (i := 186) (by decide +kernel))))) (by decide +kernel)
theorem mm_100 : Cond.selects RX2 yX2_loseAtShoe yX2_loseAtShoe ∈ ALL := ALL_i (List.mem_append_left _ (List.mem_of_getElem? (i := 21) (by decide +kernel))) (by decide +kernel)
theorem mm_101 : Cond.code yX2_loseAtShoe cX2_loseAtShoe 1 none ∈ ALL := ALL_i (List.mem_append_right _ (List.mem_append_right _ (List.mem_append_left _ (List.mem_of_getElem? (i := 187) (by decide +kernel))))) (by decide +kernel)
theorem mm_102 : Cond.methodLink RX2 72 yX2_letMinuteGo ∈ ALL := ALL_i (List.mem_append_right _ (List.mem_append_right _ (List.mem_append_left _ (List.mem_of_getElem? (i := 209) (by decide +kernel))))) (by decide +kernel)
theorem mm_103 : Cond.instanceMethod yX2_letMinuteGo ∈ ALL := ALL_i (List.mem_append_right _ (List.mem_append_right _ (List.mem_append_left _ (List.mem_of_getElem? (i := 142) (by decide +kernel))))) (by decide +kernel)
theorem mm_104 : Cond.selects RX2 yX2_letMinuteGo yX2_letMinuteGo ∈ ALL := ALL_i (List.mem_append_left _ (List.mem_of_getElem? (i := 12) (by decide +kernel))) (by decide +kernel)
theorem mm_105 : Cond.code yX2_letMinuteGo cX2_letMinuteGo 3 (some .boolean) ∈ ALL := ALL_i (List.mem_append_right _ (List.mem_append_right _ (List.mem_append_left _ (List.mem_of_getElem? (i := 143) (by decide +kernel))))) (by decide +kernel)
theorem mm_106 : Cond.fieldLink RX3 21 "Kickroom" "well" "LKickroom$Well;" ∈ ALL := ALL_i (List.mem_append_right _ (List.mem_append_left _ (List.mem_of_getElem? (i := 150) (by decide +kernel)))) (by decide +kernel)
theorem mm_107 : Cond.constant RX3 138 (100000) ∈ ALL := ALL_i (List.mem_append_right _ (List.mem_append_right _ (List.mem_append_left _ (List.mem_of_getElem? (i := 138) (by decide +kernel))))) (by decide +kernel)
theorem mm_108 : Cond.instanceMethod yX2_hasInflow ∈ ALL := ALL_i (List.mem_append_right _ (List.mem_append_left _ (List.mem_of_getElem? (i := 184) (by decide +kernel)))) (by decide +kernel)
theorem mm_109 : Cond.selects RX2 yX2_hasInflow yX2_hasInflow ∈ ALL := ALL_i (List.mem_append_left _ (List.mem_of_getElem? (i := 1) (by decide +kernel))) (by decide +kernel)
theorem mm_110 : Cond.code yX2_hasInflow cX2_hasInflow 1 (some .boolean) ∈ ALL := ALL_i (List.mem_append_right _ (List.mem_append_left _ (List.mem_of_getElem? (i := 185) (by decide +kernel)))) (by decide +kernel)
theorem mm_111 : Cond.fieldLink RX3 10 "Kickroom" "rock" "LKickroom$Rock;" ∈ ALL := ALL_i (List.mem_append_right _ (List.mem_append_left _ (List.mem_of_getElem? (i := 149) (by decide +kernel)))) (by decide +kernel)
theorem mm_112 : Cond.fieldLink RX3 31 "Kickroom" "tests" "LKickroom$Tests;" ∈ ALL := ALL_i (List.mem_append_right _ (List.mem_append_left _ (List.mem_of_getElem? (i := 152) (by decide +kernel)))) (by decide +kernel)
theorem mm_113 : Cond.instanceMethod yX1_isPassed ∈ ALL := ALL_i (List.mem_append_right _ (List.mem_append_left _ (List.mem_of_getElem? (i := 217) (by decide +kernel)))) (by decide +kernel)
theorem mm_114 : Cond.selects RX1 yX1_isPassed yX1_isPassed ∈ ALL := ALL_i (List.mem_append_left _ (List.mem_of_getElem? (i := 7) (by decide +kernel))) (by decide +kernel)
theorem mm_115 : Cond.initialized RX1 ∈ ALL := ALL_i (List.mem_append_right _ (List.mem_append_left _ (List.mem_of_getElem? (i := 5) (by decide +kernel)))) (by decide +kernel)
theorem mm_116 : Cond.code yX1_isPassed cX1_isPassed 2 (some .boolean) ∈ ALL := ALL_i (List.mem_append_right _ (List.mem_append_left _ (List.mem_of_getElem? (i := 218) (by decide +kernel)))) (by decide +kernel)
theorem mm_117 : Cond.methodLink RX3 224 yX3_read ∈ ALL := ALL_i (List.mem_append_right _ (List.mem_append_left _ (List.mem_of_getElem? (i := 220) (by decide +kernel)))) (by decide +kernel)
theorem mm_118 : Cond.methodLink RX3 206 yX3_isMudBarrier ∈ ALL := ALL_i (List.mem_append_right _ (List.mem_append_left _ (List.mem_of_getElem? (i := 178) (by decide +kernel)))) (by decide +kernel)
theorem mm_119 : Cond.instanceMethod yX3_isMudBarrier ∈ ALL := ALL_i (List.mem_append_right _ (List.mem_append_left _ (List.mem_of_getElem? (i := 180) (by decide +kernel)))) (by decide +kernel)
theorem mm_120 : Cond.selects RX3 yX3_isMudBarrier yX3_isMudBarrier ∈ ALL := ALL_i (List.mem_append_left _ (List.mem_of_getElem? (i := 0) (by decide +kernel))) (by decide +kernel)
theorem mm_121 : Cond.code yX3_isMudBarrier cX3_isMudBarrier 1 (some .boolean) ∈ ALL := ALL_i (List.mem_append_right _ (List.mem_append_left _ (List.mem_of_getElem? (i := 181) (by decide +kernel)))) (by decide +kernel)
theorem mm_122 : Cond.methodLink RX3 209 yX3_isValveBarrier ∈ ALL := ALL_i (List.mem_append_right _ (List.mem_append_left _ (List.mem_of_getElem? (i := 211) (by decide +kernel)))) (by decide +kernel)
theorem mm_123 : Cond.instanceMethod yX3_isValveBarrier ∈ ALL := ALL_i (List.mem_append_right _ (List.mem_append_left _ (List.mem_of_getElem? (i := 213) (by decide +kernel)))) (by decide +kernel)
theorem mm_124 : Cond.selects RX3 yX3_isValveBarrier yX3_isValveBarrier ∈ ALL := ALL_i (List.mem_append_left _ (List.mem_of_getElem? (i := 6) (by decide +kernel))) (by decide +kernel)
theorem mm_125 : Cond.code yX3_isValveBarrier cX3_isValveBarrier 2 (some .boolean) ∈ ALL := ALL_i (List.mem_append_right _ (List.mem_append_left _ (List.mem_of_getElem? (i := 214) (by decide +kernel)))) (by decide +kernel)
theorem mm_126 : Cond.methodLink RX3 212 yX3_isCementBarrier ∈ ALL := ALL_i (List.mem_append_right _ (List.mem_append_left _ (List.mem_of_getElem? (i := 221) (by decide +kernel)))) (by decide +kernel)
theorem mm_127 : Cond.instanceMethod yX3_isCementBarrier ∈ ALL := ALL_i (List.mem_append_right _ (List.mem_append_left _ (List.mem_of_getElem? (i := 223) (by decide +kernel)))) (by decide +kernel)
theorem mm_128 : Cond.selects RX3 yX3_isCementBarrier yX3_isCementBarrier ∈ ALL := ALL_i (List.mem_append_left _ (List.mem_of_getElem? (i := 8) (by decide +kernel))) (by decide +kernel)
theorem mm_129 : Cond.code yX3_isCementBarrier cX3_isCementBarrier 1 (some .boolean) ∈ ALL := ALL_i (List.mem_append_right _ (List.mem_append_left _ (List.mem_of_getElem? (i := 224) (by decide +kernel)))) (by decide +kernel)
theorem mm_130 : Cond.constant RJ6 265 (1431655765) ∈ ALL := ALL_i (List.mem_append_right _ (List.mem_append_left _ (List.mem_of_getElem? (i := 233) (by decide +kernel)))) (by decide +kernel)
theorem mm_131 : Cond.constant RJ6 266 (858993459) ∈ ALL := ALL_i (List.mem_append_right _ (List.mem_append_left _ (List.mem_of_getElem? (i := 234) (by decide +kernel)))) (by decide +kernel)
theorem mm_132 : Cond.constant RJ6 267 (252645135) ∈ ALL := ALL_i (List.mem_append_right _ (List.mem_append_left _ (List.mem_of_getElem? (i := 235) (by decide +kernel)))) (by decide +kernel)
theorem mm_133 : Cond.fieldLink RX3 163 "Kickroom" "stops" "I" ∈ ALL := ALL_i (List.mem_append_right _ (List.mem_append_left _ (List.mem_of_getElem? (i := 153) (by decide +kernel)))) (by decide +kernel)
theorem mm_134 : Cond.methodLink RX3 215 yX3_barriers ∈ ALL := ALL_i (List.mem_append_right _ (List.mem_append_left _ (List.mem_of_getElem? (i := 229) (by decide +kernel)))) (by decide +kernel)
theorem mm_135 : Cond.instanceMethod yX3_barriers ∈ ALL := ALL_i (List.mem_append_right _ (List.mem_append_left _ (List.mem_of_getElem? (i := 175) (by decide +kernel)))) (by decide +kernel)
theorem mm_136 : Cond.selects RX3 yX3_barriers yX3_barriers ∈ ALL := ALL_i (List.mem_append_right _ (List.mem_append_left _ (List.mem_of_getElem? (i := 176) (by decide +kernel)))) (by decide +kernel)
theorem mm_137 : Cond.code yX3_barriers cX3_barriers 1 (some .int) ∈ ALL := ALL_i (List.mem_append_right _ (List.mem_append_left _ (List.mem_of_getElem? (i := 177) (by decide +kernel)))) (by decide +kernel)
theorem mm_138 : Cond.methodLink RX3 166 yJ6_bitCount_0f7a4 ∈ ALL := ALL_i (List.mem_append_right _ (List.mem_append_left _ (List.mem_of_getElem? (i := 230) (by decide +kernel)))) (by decide +kernel)
theorem mm_139 : Cond.static yJ6_bitCount_0f7a4 ∈ ALL := ALL_i (List.mem_append_right _ (List.mem_append_left _ (List.mem_of_getElem? (i := 231) (by decide +kernel)))) (by decide +kernel)
theorem mm_140 : Cond.initialized RJ6 ∈ ALL := ALL_i (List.mem_append_right _ (List.mem_append_left _ (List.mem_of_getElem? (i := 14) (by decide +kernel)))) (by decide +kernel)
theorem mm_141 : Cond.code yJ6_bitCount_0f7a4 cJ6_bitCount_0f7a4 1 (some .int) ∈ ALL := ALL_i (List.mem_append_right _ (List.mem_append_left _ (List.mem_of_getElem? (i := 232) (by decide +kernel)))) (by decide +kernel)
theorem mm_142 : Cond.fieldLink RX3 78 "Kickroom" "pumped" "I" ∈ ALL := ALL_i (List.mem_append_right _ (List.mem_append_left _ (List.mem_of_getElem? (i := 154) (by decide +kernel)))) (by decide +kernel)
theorem mm_143 : Cond.fieldLink RX4 52 "KickroomModel" "thrown" "I" ∈ ALL := ALL_i (List.mem_append_right _ (List.mem_append_right _ (List.mem_append_right _ (List.mem_append_left _ (List.mem_of_getElem? (i := 144) (by decide +kernel)))))) (by decide +kernel)
theorem mm_144 : Cond.fieldLink RX4 7 "KickroomModel" "pore" "[I" ∈ ALL := ALL_i (List.mem_append_right _ (List.mem_append_right _ (List.mem_append_right _ (List.mem_append_left _ (List.mem_of_getElem? (i := 145) (by decide +kernel)))))) (by decide +kernel)
theorem mm_145 : Cond.methodLink RX4 55 yX4_layerAt ∈ ALL := ALL_i (List.mem_append_right _ (List.mem_append_right _ (List.mem_append_right _ (List.mem_append_right _ (List.mem_of_getElem? (i := 43) (by decide +kernel)))))) (by decide +kernel)
theorem mm_146 : Cond.static yX4_layerAt ∈ ALL := ALL_i (List.mem_append_right _ (List.mem_append_right _ (List.mem_append_right _ (List.mem_append_right _ (List.mem_of_getElem? (i := 44) (by decide +kernel)))))) (by decide +kernel)
theorem mm_147 : Cond.initialized RX4 ∈ ALL := ALL_i (List.mem_append_right _ (List.mem_append_left _ (List.mem_of_getElem? (i := 6) (by decide +kernel)))) (by decide +kernel)
theorem mm_148 : Cond.code yX4_layerAt cX4_layerAt 1 (some .int) ∈ ALL := ALL_i (List.mem_append_right _ (List.mem_append_right _ (List.mem_append_right _ (List.mem_append_right _ (List.mem_of_getElem? (i := 45) (by decide +kernel)))))) (by decide +kernel)
theorem mm_149 : Cond.fieldLink RX4 13 "KickroomModel" "breaks" "[I" ∈ ALL := ALL_i (List.mem_append_right _ (List.mem_append_right _ (List.mem_append_right _ (List.mem_append_left _ (List.mem_of_getElem? (i := 146) (by decide +kernel)))))) (by decide +kernel)
theorem mm_150 : Cond.methodLink RX4 59 yX4_in ∈ ALL := ALL_i (List.mem_append_right _ (List.mem_append_right _ (List.mem_append_right _ (List.mem_append_right _ (List.mem_of_getElem? (i := 8) (by decide +kernel)))))) (by decide +kernel)
theorem mm_151 : Cond.static yX4_in ∈ ALL := ALL_i (List.mem_append_right _ (List.mem_append_right _ (List.mem_append_right _ (List.mem_append_right _ (List.mem_of_getElem? (i := 9) (by decide +kernel)))))) (by decide +kernel)
theorem mm_152 : Cond.code yX4_in cX4_in 3 (some .boolean) ∈ ALL := ALL_i (List.mem_append_right _ (List.mem_append_right _ (List.mem_append_right _ (List.mem_append_right _ (List.mem_of_getElem? (i := 10) (by decide +kernel)))))) (by decide +kernel)
theorem mm_153 : Cond.fieldLink RX4 63 "KickroomModel" "depth" "I" ∈ ALL := ALL_i (List.mem_append_right _ (List.mem_append_right _ (List.mem_append_right _ (List.mem_append_left _ (List.mem_of_getElem? (i := 149) (by decide +kernel)))))) (by decide +kernel)
theorem mm_154 : Cond.methodLink RX4 66 yX4_goesWell ∈ ALL := ALL_i (List.mem_append_right _ (List.mem_append_right _ (List.mem_append_right _ (List.mem_append_right _ (List.mem_of_getElem? (i := 11) (by decide +kernel)))))) (by decide +kernel)
theorem mm_155 : Cond.instanceMethod yX4_goesWell ∈ ALL := ALL_i (List.mem_append_right _ (List.mem_append_right _ (List.mem_append_right _ (List.mem_append_right _ (List.mem_of_getElem? (i := 13) (by decide +kernel)))))) (by decide +kernel)
theorem mm_156 : Cond.selects RX4 yX4_goesWell yX4_goesWell ∈ ALL := ALL_i (List.mem_append_left _ (List.mem_of_getElem? (i := 33) (by decide +kernel))) (by decide +kernel)
theorem mm_157 : Cond.code yX4_goesWell cX4_goesWell 2 (some .boolean) ∈ ALL := ALL_i (List.mem_append_right _ (List.mem_append_right _ (List.mem_append_right _ (List.mem_append_right _ (List.mem_of_getElem? (i := 14) (by decide +kernel)))))) (by decide +kernel)
theorem mm_158 : Cond.fieldLink RX4 16 "KickroomModel" "rate" "[I" ∈ ALL := ALL_i (List.mem_append_right _ (List.mem_append_right _ (List.mem_append_right _ (List.mem_append_left _ (List.mem_of_getElem? (i := 147) (by decide +kernel)))))) (by decide +kernel)
theorem mm_159 : Cond.fieldLink RX4 19 "KickroomModel" "bearsGas" "[Z" ∈ ALL := ALL_i (List.mem_append_right _ (List.mem_append_right _ (List.mem_append_right _ (List.mem_append_left _ (List.mem_of_getElem? (i := 148) (by decide +kernel)))))) (by decide +kernel)
theorem mm_160 : Cond.fieldLink RX4 70 "KickroomModel" "isClosed" "Z" ∈ ALL := ALL_i (List.mem_append_right _ (List.mem_append_right _ (List.mem_append_right _ (List.mem_append_left _ (List.mem_of_getElem? (i := 152) (by decide +kernel)))))) (by decide +kernel)
theorem mm_161 : Cond.fieldLink RX4 23 "KickroomModel" "weight" "I" ∈ ALL := ALL_i (List.mem_append_right _ (List.mem_append_right _ (List.mem_append_right _ (List.mem_append_left _ (List.mem_of_getElem? (i := 151) (by decide +kernel)))))) (by decide +kernel)
theorem mm_162 : Cond.fieldLink RX4 74 "KickroomModel" "pumped" "I" ∈ ALL := ALL_i (List.mem_append_right _ (List.mem_append_right _ (List.mem_append_right _ (List.mem_append_left _ (List.mem_of_getElem? (i := 161) (by decide +kernel)))))) (by decide +kernel)
theorem mm_163 : Cond.fieldLink RX4 77 "KickroomModel" "gas" "I" ∈ ALL := ALL_i (List.mem_append_right _ (List.mem_append_right _ (List.mem_append_right _ (List.mem_append_left _ (List.mem_of_getElem? (i := 156) (by decide +kernel)))))) (by decide +kernel)
theorem mm_164 : Cond.fieldLink RX4 80 "KickroomModel" "liquid" "I" ∈ ALL := ALL_i (List.mem_append_right _ (List.mem_append_right _ (List.mem_append_right _ (List.mem_append_left _ (List.mem_of_getElem? (i := 157) (by decide +kernel)))))) (by decide +kernel)
theorem mm_165 : Cond.methodLink RX4 83 yX4_column ∈ ALL := ALL_i (List.mem_append_right _ (List.mem_append_right _ (List.mem_append_right _ (List.mem_append_right _ (List.mem_of_getElem? (i := 35) (by decide +kernel)))))) (by decide +kernel)
theorem mm_166 : Cond.instanceMethod yX4_column ∈ ALL := ALL_i (List.mem_append_right _ (List.mem_append_right _ (List.mem_append_right _ (List.mem_append_right _ (List.mem_of_getElem? (i := 37) (by decide +kernel)))))) (by decide +kernel)
theorem mm_167 : Cond.selects RX4 yX4_column yX4_column ∈ ALL := ALL_i (List.mem_append_left _ (List.mem_of_getElem? (i := 37) (by decide +kernel))) (by decide +kernel)
theorem mm_168 : Cond.code yX4_column cX4_column 1 (some .int) ∈ ALL := ALL_i (List.mem_append_right _ (List.mem_append_right _ (List.mem_append_right _ (List.mem_append_right _ (List.mem_of_getElem? (i := 38) (by decide +kernel)))))) (by decide +kernel)
theorem mm_169 : Cond.fieldLink RX4 87 "KickroomModel" "choke" "I" ∈ ALL := ALL_i (List.mem_append_right _ (List.mem_append_right _ (List.mem_append_right _ (List.mem_append_left _ (List.mem_of_getElem? (i := 153) (by decide +kernel)))))) (by decide +kernel)
theorem mm_170 : Cond.fieldLink RX4 90 "KickroomModel" "place" "I" ∈ ALL := ALL_i (List.mem_append_right _ (List.mem_append_right _ (List.mem_append_right _ (List.mem_append_left _ (List.mem_of_getElem? (i := 155) (by decide +kernel)))))) (by decide +kernel)
theorem mm_171 : Cond.fieldLink RX4 93 "KickroomModel" "shoe" "I" ∈ ALL := ALL_i (List.mem_append_right _ (List.mem_append_right _ (List.mem_append_right _ (List.mem_append_left _ (List.mem_of_getElem? (i := 150) (by decide +kernel)))))) (by decide +kernel)
theorem mm_172 : Cond.fieldLink RX4 96 "KickroomModel" "charge" "J" ∈ ALL := ALL_i (List.mem_append_right _ (List.mem_append_right _ (List.mem_append_right _ (List.mem_append_left _ (List.mem_of_getElem? (i := 154) (by decide +kernel)))))) (by decide +kernel)
theorem mm_173 : Cond.methodLink RX4 100 yX4_gasPressure ∈ ALL := ALL_i (List.mem_append_right _ (List.mem_append_right _ (List.mem_append_right _ (List.mem_append_right _ (List.mem_of_getElem? (i := 63) (by decide +kernel)))))) (by decide +kernel)
theorem mm_174 : Cond.instanceMethod yX4_gasPressure ∈ ALL := ALL_i (List.mem_append_right _ (List.mem_append_right _ (List.mem_append_right _ (List.mem_append_right _ (List.mem_of_getElem? (i := 65) (by decide +kernel)))))) (by decide +kernel)
theorem mm_175 : Cond.selects RX4 yX4_gasPressure yX4_gasPressure ∈ ALL := ALL_i (List.mem_append_left _ (List.mem_of_getElem? (i := 43) (by decide +kernel))) (by decide +kernel)
theorem mm_176 : Cond.code yX4_gasPressure cX4_gasPressure 2 (some .int) ∈ ALL := ALL_i (List.mem_append_right _ (List.mem_append_right _ (List.mem_append_right _ (List.mem_append_right _ (List.mem_of_getElem? (i := 66) (by decide +kernel)))))) (by decide +kernel)
theorem mm_177 : Cond.fieldLink RX4 103 "KickroomModel" "vented" "J" ∈ ALL := ALL_i (List.mem_append_right _ (List.mem_append_right _ (List.mem_append_right _ (List.mem_append_left _ (List.mem_of_getElem? (i := 159) (by decide +kernel)))))) (by decide +kernel)
theorem mm_178 : Cond.methodLink RX4 106 yX4_measure ∈ ALL := ALL_i (List.mem_append_right _ (List.mem_append_right _ (List.mem_append_right _ (List.mem_append_right _ (List.mem_of_getElem? (i := 59) (by decide +kernel)))))) (by decide +kernel)
theorem mm_179 : Cond.instanceMethod yX4_measure ∈ ALL := ALL_i (List.mem_append_right _ (List.mem_append_right _ (List.mem_append_right _ (List.mem_append_right _ (List.mem_of_getElem? (i := 61) (by decide +kernel)))))) (by decide +kernel)
theorem mm_180 : Cond.selects RX4 yX4_measure yX4_measure ∈ ALL := ALL_i (List.mem_append_left _ (List.mem_of_getElem? (i := 42) (by decide +kernel))) (by decide +kernel)
theorem mm_181 : Cond.code yX4_measure cX4_measure 5 none ∈ ALL := ALL_i (List.mem_append_right _ (List.mem_append_right _ (List.mem_append_right _ (List.mem_append_right _ (List.mem_of_getElem? (i := 62) (by decide +kernel)))))) (by decide +kernel)
theorem mm_182 : Cond.methodLink RX4 109 yX4_poreAt ∈ ALL := ALL_i (List.mem_append_right _ (List.mem_append_right _ (List.mem_append_right _ (List.mem_append_right _ (List.mem_of_getElem? (i := 39) (by decide +kernel)))))) (by decide +kernel)
theorem mm_183 : Cond.instanceMethod yX4_poreAt ∈ ALL := ALL_i (List.mem_append_right _ (List.mem_append_right _ (List.mem_append_right _ (List.mem_append_right _ (List.mem_of_getElem? (i := 41) (by decide +kernel)))))) (by decide +kernel)
theorem mm_184 : Cond.selects RX4 yX4_poreAt yX4_poreAt ∈ ALL := ALL_i (List.mem_append_left _ (List.mem_of_getElem? (i := 38) (by decide +kernel))) (by decide +kernel)
theorem mm_185 : Cond.code yX4_poreAt cX4_poreAt 2 (some .int) ∈ ALL := ALL_i (List.mem_append_right _ (List.mem_append_right _ (List.mem_append_right _ (List.mem_append_right _ (List.mem_of_getElem? (i := 42) (by decide +kernel)))))) (by decide +kernel)
theorem mm_186 : Cond.fieldLink RX4 30 "KickroomModel" "valve" "I" ∈ ALL := ALL_i (List.mem_append_right _ (List.mem_append_right _ (List.mem_append_right _ (List.mem_append_left _ (List.mem_of_getElem? (i := 163) (by decide +kernel)))))) (by decide +kernel)
theorem mm_187 : Cond.fieldLink RX4 112 "KickroomModel" "tests" "I" ∈ ALL := ALL_i (List.mem_append_right _ (List.mem_append_right _ (List.mem_append_right _ (List.mem_append_left _ (List.mem_of_getElem? (i := 169) (by decide +kernel)))))) (by decide +kernel)
theorem mm_188 : Cond.fieldLink RX4 115 "KickroomModel" "brokenAfter" "I" ∈ ALL := ALL_i (List.mem_append_right _ (List.mem_append_right _ (List.mem_append_right _ (List.mem_append_left _ (List.mem_of_getElem? (i := 164) (by decide +kernel)))))) (by decide +kernel)
theorem mm_189 : Cond.methodLink RX4 118 yX4_bottom ∈ ALL := ALL_i (List.mem_append_right _ (List.mem_append_right _ (List.mem_append_right _ (List.mem_append_right _ (List.mem_of_getElem? (i := 31) (by decide +kernel)))))) (by decide +kernel)
theorem mm_190 : Cond.instanceMethod yX4_bottom ∈ ALL := ALL_i (List.mem_append_right _ (List.mem_append_right _ (List.mem_append_right _ (List.mem_append_right _ (List.mem_of_getElem? (i := 33) (by decide +kernel)))))) (by decide +kernel)
theorem mm_191 : Cond.selects RX4 yX4_bottom yX4_bottom ∈ ALL := ALL_i (List.mem_append_left _ (List.mem_of_getElem? (i := 36) (by decide +kernel))) (by decide +kernel)
theorem mm_192 : Cond.code yX4_bottom cX4_bottom 1 (some .int) ∈ ALL := ALL_i (List.mem_append_right _ (List.mem_append_right _ (List.mem_append_right _ (List.mem_append_right _ (List.mem_of_getElem? (i := 34) (by decide +kernel)))))) (by decide +kernel)
theorem mm_193 : Cond.constantLong RX4 121 (10000) ∈ ALL := ALL_i (List.mem_append_right _ (List.mem_append_right _ (List.mem_append_right _ (List.mem_append_right _ (List.mem_of_getElem? (i := 75) (by decide +kernel)))))) (by decide +kernel)
theorem mm_194 : Cond.constantLong RX4 123 (40) ∈ ALL := ALL_i (List.mem_append_right _ (List.mem_append_right _ (List.mem_append_right _ (List.mem_append_right _ (List.mem_of_getElem? (i := 76) (by decide +kernel)))))) (by decide +kernel)
theorem mm_195 : Cond.fieldLink RX4 125 "KickroomModel" "flowed" "Z" ∈ ALL := ALL_i (List.mem_append_right _ (List.mem_append_right _ (List.mem_append_right _ (List.mem_append_left _ (List.mem_of_getElem? (i := 167) (by decide +kernel)))))) (by decide +kernel)
theorem mm_196 : Cond.fieldLink RX4 128 "KickroomModel" "minutes" "I" ∈ ALL := ALL_i (List.mem_append_right _ (List.mem_append_right _ (List.mem_append_right _ (List.mem_append_left _ (List.mem_of_getElem? (i := 158) (by decide +kernel)))))) (by decide +kernel)
theorem mm_197 : Cond.methodLink RX4 131 yX4_rise ∈ ALL := ALL_i (List.mem_append_right _ (List.mem_append_right _ (List.mem_append_right _ (List.mem_append_right _ (List.mem_of_getElem? (i := 55) (by decide +kernel)))))) (by decide +kernel)
theorem mm_198 : Cond.instanceMethod yX4_rise ∈ ALL := ALL_i (List.mem_append_right _ (List.mem_append_right _ (List.mem_append_right _ (List.mem_append_right _ (List.mem_of_getElem? (i := 57) (by decide +kernel)))))) (by decide +kernel)
theorem mm_199 : Cond.selects RX4 yX4_rise yX4_rise ∈ ALL := ALL_i (List.mem_append_left _ (List.mem_of_getElem? (i := 41) (by decide +kernel))) (by decide +kernel)
theorem mm_200 : Cond.code yX4_rise cX4_rise 2 none ∈ ALL := ALL_i (List.mem_append_right _ (List.mem_append_right _ (List.mem_append_right _ (List.mem_append_right _ (List.mem_of_getElem? (i := 58) (by decide +kernel)))))) (by decide +kernel)
theorem mm_201 : Cond.methodLink RX4 135 yX4_shut ∈ ALL := ALL_i (List.mem_append_right _ (List.mem_append_right _ (List.mem_append_right _ (List.mem_append_right _ (List.mem_of_getElem? (i := 67) (by decide +kernel)))))) (by decide +kernel)
theorem mm_202 : Cond.instanceMethod yX4_shut ∈ ALL := ALL_i (List.mem_append_right _ (List.mem_append_right _ (List.mem_append_right _ (List.mem_append_right _ (List.mem_of_getElem? (i := 69) (by decide +kernel)))))) (by decide +kernel)
theorem mm_203 : Cond.selects RX4 yX4_shut yX4_shut ∈ ALL := ALL_i (List.mem_append_left _ (List.mem_of_getElem? (i := 44) (by decide +kernel))) (by decide +kernel)
theorem mm_204 : Cond.code yX4_shut cX4_shut 2 none ∈ ALL := ALL_i (List.mem_append_right _ (List.mem_append_right _ (List.mem_append_right _ (List.mem_append_right _ (List.mem_of_getElem? (i := 70) (by decide +kernel)))))) (by decide +kernel)
theorem mm_205 : Cond.methodLink RX4 138 yX4_flow ∈ ALL := ALL_i (List.mem_append_right _ (List.mem_append_right _ (List.mem_append_right _ (List.mem_append_right _ (List.mem_of_getElem? (i := 71) (by decide +kernel)))))) (by decide +kernel)
theorem mm_206 : Cond.instanceMethod yX4_flow ∈ ALL := ALL_i (List.mem_append_right _ (List.mem_append_right _ (List.mem_append_right _ (List.mem_append_right _ (List.mem_of_getElem? (i := 73) (by decide +kernel)))))) (by decide +kernel)
theorem mm_207 : Cond.selects RX4 yX4_flow yX4_flow ∈ ALL := ALL_i (List.mem_append_left _ (List.mem_of_getElem? (i := 45) (by decide +kernel))) (by decide +kernel)
theorem mm_208 : Cond.code yX4_flow cX4_flow 6 none ∈ ALL := ALL_i (List.mem_append_right _ (List.mem_append_right _ (List.mem_append_right _ (List.mem_append_right _ (List.mem_of_getElem? (i := 74) (by decide +kernel)))))) (by decide +kernel)
theorem mm_209 : Cond.fieldLink RX4 141 "KickroomModel" "lost" "J" ∈ ALL := ALL_i (List.mem_append_right _ (List.mem_append_right _ (List.mem_append_right _ (List.mem_append_left _ (List.mem_of_getElem? (i := 160) (by decide +kernel)))))) (by decide +kernel)
theorem mm_210 : Cond.methodLink RX4 144 yX4_foot ∈ ALL := ALL_i (List.mem_append_right _ (List.mem_append_right _ (List.mem_append_right _ (List.mem_append_right _ (List.mem_of_getElem? (i := 77) (by decide +kernel)))))) (by decide +kernel)
theorem mm_211 : Cond.instanceMethod yX4_foot ∈ ALL := ALL_i (List.mem_append_right _ (List.mem_append_right _ (List.mem_append_right _ (List.mem_append_right _ (List.mem_of_getElem? (i := 79) (by decide +kernel)))))) (by decide +kernel)
theorem mm_212 : Cond.selects RX4 yX4_foot yX4_foot ∈ ALL := ALL_i (List.mem_append_left _ (List.mem_of_getElem? (i := 46) (by decide +kernel))) (by decide +kernel)
theorem mm_213 : Cond.code yX4_foot cX4_foot 2 (some .int) ∈ ALL := ALL_i (List.mem_append_right _ (List.mem_append_right _ (List.mem_append_right _ (List.mem_append_right _ (List.mem_of_getElem? (i := 80) (by decide +kernel)))))) (by decide +kernel)
theorem mm_214 : Cond.methodLink RX4 147 yX4_breakAt ∈ ALL := ALL_i (List.mem_append_right _ (List.mem_append_right _ (List.mem_append_right _ (List.mem_append_right _ (List.mem_of_getElem? (i := 81) (by decide +kernel)))))) (by decide +kernel)
theorem mm_215 : Cond.instanceMethod yX4_breakAt ∈ ALL := ALL_i (List.mem_append_right _ (List.mem_append_right _ (List.mem_append_right _ (List.mem_append_right _ (List.mem_of_getElem? (i := 83) (by decide +kernel)))))) (by decide +kernel)
theorem mm_216 : Cond.selects RX4 yX4_breakAt yX4_breakAt ∈ ALL := ALL_i (List.mem_append_left _ (List.mem_of_getElem? (i := 47) (by decide +kernel))) (by decide +kernel)
theorem mm_217 : Cond.code yX4_breakAt cX4_breakAt 2 (some .int) ∈ ALL := ALL_i (List.mem_append_right _ (List.mem_append_right _ (List.mem_append_right _ (List.mem_append_right _ (List.mem_of_getElem? (i := 84) (by decide +kernel)))))) (by decide +kernel)
theorem mm_218 : Cond.constantLong RX4 150 (5) ∈ ALL := ALL_i (List.mem_append_right _ (List.mem_append_right _ (List.mem_append_right _ (List.mem_append_right _ (List.mem_of_getElem? (i := 85) (by decide +kernel)))))) (by decide +kernel)
theorem mm_219 : Cond.fieldLink RX4 37 "KickroomModel" "tested" "[I" ∈ ALL := ALL_i (List.mem_append_right _ (List.mem_append_right _ (List.mem_append_right _ (List.mem_append_left _ (List.mem_of_getElem? (i := 170) (by decide +kernel)))))) (by decide +kernel)
theorem mm_220 : Cond.methodLink RX4 165 yX4_latest ∈ ALL := ALL_i (List.mem_append_right _ (List.mem_append_right _ (List.mem_append_right _ (List.mem_append_right _ (List.mem_of_getElem? (i := 46) (by decide +kernel)))))) (by decide +kernel)
theorem mm_221 : Cond.instanceMethod yX4_latest ∈ ALL := ALL_i (List.mem_append_right _ (List.mem_append_right _ (List.mem_append_right _ (List.mem_append_right _ (List.mem_of_getElem? (i := 48) (by decide +kernel)))))) (by decide +kernel)
theorem mm_222 : Cond.selects RX4 yX4_latest yX4_latest ∈ ALL := ALL_i (List.mem_append_left _ (List.mem_of_getElem? (i := 39) (by decide +kernel))) (by decide +kernel)
theorem mm_223 : Cond.code yX4_latest cX4_latest 5 (some .int) ∈ ALL := ALL_i (List.mem_append_right _ (List.mem_append_right _ (List.mem_append_right _ (List.mem_append_right _ (List.mem_of_getElem? (i := 49) (by decide +kernel)))))) (by decide +kernel)
theorem mm_224 : Cond.fieldLink RX4 43 "KickroomModel" "isPassed" "[Z" ∈ ALL := ALL_i (List.mem_append_right _ (List.mem_append_right _ (List.mem_append_right _ (List.mem_append_left _ (List.mem_of_getElem? (i := 172) (by decide +kernel)))))) (by decide +kernel)
theorem mm_225 : Cond.fieldLink RX4 46 "KickroomModel" "testedAt" "[I" ∈ ALL := ALL_i (List.mem_append_right _ (List.mem_append_right _ (List.mem_append_right _ (List.mem_append_left _ (List.mem_of_getElem? (i := 173) (by decide +kernel)))))) (by decide +kernel)
theorem mm_226 : Cond.fieldLink RX4 162 "KickroomModel" "casedAfter" "I" ∈ ALL := ALL_i (List.mem_append_right _ (List.mem_append_right _ (List.mem_append_right _ (List.mem_append_left _ (List.mem_of_getElem? (i := 166) (by decide +kernel)))))) (by decide +kernel)
theorem mm_227 : Cond.methodLink RX4 169 yX4_barriersNow ∈ ALL := ALL_i (List.mem_append_right _ (List.mem_append_right _ (List.mem_append_right _ (List.mem_append_right _ (List.mem_of_getElem? (i := 27) (by decide +kernel)))))) (by decide +kernel)
theorem mm_228 : Cond.instanceMethod yX4_barriersNow ∈ ALL := ALL_i (List.mem_append_right _ (List.mem_append_right _ (List.mem_append_right _ (List.mem_append_right _ (List.mem_of_getElem? (i := 29) (by decide +kernel)))))) (by decide +kernel)
theorem mm_229 : Cond.selects RX4 yX4_barriersNow yX4_barriersNow ∈ ALL := ALL_i (List.mem_append_left _ (List.mem_of_getElem? (i := 35) (by decide +kernel))) (by decide +kernel)
theorem mm_230 : Cond.code yX4_barriersNow cX4_barriersNow 6 (some .int) ∈ ALL := ALL_i (List.mem_append_right _ (List.mem_append_right _ (List.mem_append_right _ (List.mem_append_right _ (List.mem_of_getElem? (i := 30) (by decide +kernel)))))) (by decide +kernel)
theorem mm_231 : Cond.fieldLink RX4 49 "KickroomModel" "stops" "[Z" ∈ ALL := ALL_i (List.mem_append_right _ (List.mem_append_right _ (List.mem_append_right _ (List.mem_append_left _ (List.mem_of_getElem? (i := 174) (by decide +kernel)))))) (by decide +kernel)
theorem mm_232 : Cond.methodLink RX4 152 yX4_barsNow ∈ ALL := ALL_i (List.mem_append_right _ (List.mem_append_right _ (List.mem_append_right _ (List.mem_append_right _ (List.mem_of_getElem? (i := 23) (by decide +kernel)))))) (by decide +kernel)
theorem mm_233 : Cond.instanceMethod yX4_barsNow ∈ ALL := ALL_i (List.mem_append_right _ (List.mem_append_right _ (List.mem_append_right _ (List.mem_append_right _ (List.mem_of_getElem? (i := 25) (by decide +kernel)))))) (by decide +kernel)
theorem mm_234 : Cond.selects RX4 yX4_barsNow yX4_barsNow ∈ ALL := ALL_i (List.mem_append_left _ (List.mem_of_getElem? (i := 34) (by decide +kernel))) (by decide +kernel)
theorem mm_235 : Cond.code yX4_barsNow cX4_barsNow 4 (some .int) ∈ ALL := ALL_i (List.mem_append_right _ (List.mem_append_right _ (List.mem_append_right _ (List.mem_append_right _ (List.mem_of_getElem? (i := 26) (by decide +kernel)))))) (by decide +kernel)
theorem mm_236 : Cond.constant RX4 155 (100000) ∈ ALL := ALL_i (List.mem_append_right _ (List.mem_append_right _ (List.mem_append_right _ (List.mem_append_right _ (List.mem_of_getElem? (i := 50) (by decide +kernel)))))) (by decide +kernel)
theorem mm_237 : Cond.methodLink RX4 156 yX4_passOne ∈ ALL := ALL_i (List.mem_append_right _ (List.mem_append_right _ (List.mem_append_right _ (List.mem_append_right _ (List.mem_of_getElem? (i := 51) (by decide +kernel)))))) (by decide +kernel)
theorem mm_238 : Cond.instanceMethod yX4_passOne ∈ ALL := ALL_i (List.mem_append_right _ (List.mem_append_right _ (List.mem_append_right _ (List.mem_append_right _ (List.mem_of_getElem? (i := 53) (by decide +kernel)))))) (by decide +kernel)
theorem mm_239 : Cond.selects RX4 yX4_passOne yX4_passOne ∈ ALL := ALL_i (List.mem_append_left _ (List.mem_of_getElem? (i := 40) (by decide +kernel))) (by decide +kernel)
theorem mm_240 : Cond.code yX4_passOne cX4_passOne 2 none ∈ ALL := ALL_i (List.mem_append_right _ (List.mem_append_right _ (List.mem_append_right _ (List.mem_append_right _ (List.mem_of_getElem? (i := 54) (by decide +kernel)))))) (by decide +kernel)
theorem mm_241 : Cond.fieldLink RX4 27 "KickroomModel" "pumpedWeight" "I" ∈ ALL := ALL_i (List.mem_append_right _ (List.mem_append_right _ (List.mem_append_right _ (List.mem_append_left _ (List.mem_of_getElem? (i := 162) (by decide +kernel)))))) (by decide +kernel)
theorem mm_242 : Cond.fieldLink RX4 159 "KickroomModel" "cement" "I" ∈ ALL := ALL_i (List.mem_append_right _ (List.mem_append_right _ (List.mem_append_right _ (List.mem_append_left _ (List.mem_of_getElem? (i := 165) (by decide +kernel)))))) (by decide +kernel)
theorem mm_243 : Cond.fieldLink RX4 40 "KickroomModel" "by" "[I" ∈ ALL := ALL_i (List.mem_append_right _ (List.mem_append_right _ (List.mem_append_right _ (List.mem_append_left _ (List.mem_of_getElem? (i := 171) (by decide +kernel)))))) (by decide +kernel)
theorem mm_244 : Cond.constantLong RX4 172 (-1) ∈ ALL := ALL_i (List.mem_append_right _ (List.mem_append_right _ (List.mem_append_right _ (List.mem_append_right _ (List.mem_of_getElem? (i := 134) (by decide +kernel)))))) (by decide +kernel)
theorem mm_245 : Cond.methodLink RX4 174 yX4_bound ∈ ALL := ALL_i (List.mem_append_right _ (List.mem_append_right _ (List.mem_append_right _ (List.mem_append_right _ (List.mem_of_getElem? (i := 147) (by decide +kernel)))))) (by decide +kernel)
theorem mm_246 : Cond.instanceMethod yX4_bound ∈ ALL := ALL_i (List.mem_append_right _ (List.mem_append_right _ (List.mem_append_right _ (List.mem_append_right _ (List.mem_of_getElem? (i := 149) (by decide +kernel)))))) (by decide +kernel)
theorem mm_247 : Cond.selects RX4 yX4_bound yX4_bound ∈ ALL := ALL_i (List.mem_append_left _ (List.mem_of_getElem? (i := 48) (by decide +kernel))) (by decide +kernel)
theorem mm_248 : Cond.code yX4_bound cX4_bound 6 (some .int) ∈ ALL := ALL_i (List.mem_append_right _ (List.mem_append_right _ (List.mem_append_right _ (List.mem_append_right _ (List.mem_of_getElem? (i := 150) (by decide +kernel)))))) (by decide +kernel)
theorem mm_249 : Cond.methodLink RX4 178 yX4_casingsOf ∈ ALL := ALL_i (List.mem_append_right _ (List.mem_append_right _ (List.mem_append_right _ (List.mem_append_right _ (List.mem_of_getElem? (i := 155) (by decide +kernel)))))) (by decide +kernel)
theorem mm_250 : Cond.instanceMethod yX4_casingsOf ∈ ALL := ALL_i (List.mem_append_right _ (List.mem_append_right _ (List.mem_append_right _ (List.mem_append_right _ (List.mem_of_getElem? (i := 157) (by decide +kernel)))))) (by decide +kernel)
theorem mm_251 : Cond.selects RX4 yX4_casingsOf yX4_casingsOf ∈ ALL := ALL_i (List.mem_append_left _ (List.mem_of_getElem? (i := 49) (by decide +kernel))) (by decide +kernel)
theorem mm_252 : Cond.code yX4_casingsOf cX4_casingsOf 5 (some .int) ∈ ALL := ALL_i (List.mem_append_right _ (List.mem_append_right _ (List.mem_append_right _ (List.mem_append_right _ (List.mem_of_getElem? (i := 158) (by decide +kernel)))))) (by decide +kernel)
theorem mm_253 : Cond.fieldLink RX4 33 "KickroomModel" "kept" "[J" ∈ ALL := ALL_i (List.mem_append_right _ (List.mem_append_right _ (List.mem_append_right _ (List.mem_append_left _ (List.mem_of_getElem? (i := 168) (by decide +kernel)))))) (by decide +kernel)
theorem mm_254 : Cond.methodLink RX4 181 yX4_keep ∈ ALL := ALL_i (List.mem_append_right _ (List.mem_append_right _ (List.mem_append_right _ (List.mem_append_right _ (List.mem_of_getElem? (i := 171) (by decide +kernel)))))) (by decide +kernel)
theorem mm_255 : Cond.instanceMethod yX4_keep ∈ ALL := ALL_i (List.mem_append_right _ (List.mem_append_right _ (List.mem_append_right _ (List.mem_append_right _ (List.mem_of_getElem? (i := 173) (by decide +kernel)))))) (by decide +kernel)
theorem mm_256 : Cond.selects RX4 yX4_keep yX4_keep ∈ ALL := ALL_i (List.mem_append_left _ (List.mem_of_getElem? (i := 50) (by decide +kernel))) (by decide +kernel)
theorem mm_257 : Cond.code yX4_keep cX4_keep 1 none ∈ ALL := ALL_i (List.mem_append_right _ (List.mem_append_right _ (List.mem_append_right _ (List.mem_append_right _ (List.mem_of_getElem? (i := 174) (by decide +kernel)))))) (by decide +kernel)
theorem mm_258 : Cond.methodLink RX4 184 yX4_comeBack ∈ ALL := ALL_i (List.mem_append_right _ (List.mem_append_right _ (List.mem_append_right _ (List.mem_append_right _ (List.mem_of_getElem? (i := 175) (by decide +kernel)))))) (by decide +kernel)
theorem mm_259 : Cond.instanceMethod yX4_comeBack ∈ ALL := ALL_i (List.mem_append_right _ (List.mem_append_right _ (List.mem_append_right _ (List.mem_append_right _ (List.mem_of_getElem? (i := 177) (by decide +kernel)))))) (by decide +kernel)
theorem mm_260 : Cond.selects RX4 yX4_comeBack yX4_comeBack ∈ ALL := ALL_i (List.mem_append_left _ (List.mem_of_getElem? (i := 51) (by decide +kernel))) (by decide +kernel)
theorem mm_261 : Cond.code yX4_comeBack cX4_comeBack 1 none ∈ ALL := ALL_i (List.mem_append_right _ (List.mem_append_right _ (List.mem_append_right _ (List.mem_append_right _ (List.mem_of_getElem? (i := 178) (by decide +kernel)))))) (by decide +kernel)
theorem mm_262 : Cond.static Lib.Math.max.name ∈ ALL := ALL_i (List.mem_append_right _ (List.mem_append_left _ (List.mem_of_getElem? (i := 199) (by decide +kernel)))) (by decide +kernel)
theorem mm_263 : Cond.initialized "java/lang/Math" ∈ ALL := ALL_i (List.mem_append_right _ (List.mem_append_left _ (List.mem_of_getElem? (i := 13) (by decide +kernel)))) (by decide +kernel)
theorem mm_264 : Cond.code Lib.Math.max.name Lib.Math.max.code 2 (some .int) ∈ ALL := ALL_i (List.mem_append_right _ (List.mem_append_left _ (List.mem_of_getElem? (i := 200) (by decide +kernel)))) (by decide +kernel)
theorem mm_265 : Cond.static Lib.Math.min.name ∈ ALL := ALL_i (List.mem_append_right _ (List.mem_append_right _ (List.mem_append_left _ (List.mem_of_getElem? (i := 178) (by decide +kernel))))) (by decide +kernel)
theorem mm_266 : Cond.code Lib.Math.min.name Lib.Math.min.code 2 (some .int) ∈ ALL := ALL_i (List.mem_append_right _ (List.mem_append_right _ (List.mem_append_left _ (List.mem_of_getElem? (i := 179) (by decide +kernel))))) (by decide +kernel)
theorem mm_267 : Cond.static Lib.MathLoose.min_long.x ∈ ALL := ALL_i (List.mem_append_right _ (List.mem_append_right _ (List.mem_append_left _ (List.mem_of_getElem? (i := 161) (by decide +kernel))))) (by decide +kernel)
theorem mm_268 : Cond.code Lib.MathLoose.min_long.x Lib.MathLoose.min_long.code 4 (some .long) ∈ ALL := ALL_i (List.mem_append_right _ (List.mem_append_right _ (List.mem_append_left _ (List.mem_of_getElem? (i := 162) (by decide +kernel))))) (by decide +kernel)

theorem lk_X0_37 : LKS RX0 37 yX0_layerOf cX0_layerOf 1 (some .int) 1 := ⟨mm_1, mm_2, ⟨mm_3, mm_4, by decide +kernel, by decide +kernel, by decide +kernel⟩⟩
theorem lk_X0_41 : LKSN RX0 41 yX3_read cX3_read 2 (some .int) 2 := ⟨nw_26, mm_5, ⟨mm_6, mm_7, by decide +kernel, by decide +kernel, by decide +kernel⟩⟩
theorem lk_X0_33 : LKSN RX0 33 yX3_write cX3_write 3 none 3 := ⟨nw_30, mm_11, ⟨mm_6, mm_12, by decide +kernel, by decide +kernel, by decide +kernel⟩⟩
theorem lk_X0_54 : LKV RX0 54 RX0 yX0_leastPiecesTo cX0_leastPiecesTo 8 (some .int) 1 := ⟨mm_16, mm_17, mm_18, ⟨mm_3, mm_19, by decide +kernel, by decide +kernel, by decide +kernel⟩⟩
theorem lk_X1_34 : LKSN RX1 34 yX3_write cX3_write 3 none 3 := ⟨nw_38, mm_11, ⟨mm_6, mm_12, by decide +kernel, by decide +kernel, by decide +kernel⟩⟩
theorem lk_X1_38 : LKSN RX1 38 yX3_read cX3_read 2 (some .int) 2 := ⟨nw_28, mm_5, ⟨mm_6, mm_7, by decide +kernel, by decide +kernel, by decide +kernel⟩⟩
theorem lk_X2_58 : LKV RX2 58 RX2 yX2_hasGas cX2_hasGas 1 (some .boolean) 0 := ⟨mm_28, mm_29, mm_30, ⟨mm_31, mm_32, by decide +kernel, by decide +kernel, by decide +kernel⟩⟩
theorem lk_X2_68 : LKV RX2 68 RX2 yX2_column cX2_column 1 (some .int) 0 := ⟨mm_38, mm_39, mm_40, ⟨mm_31, mm_41, by decide +kernel, by decide +kernel, by decide +kernel⟩⟩
theorem lk_X2_95 : LKV RX2 95 RX2 yX2_gasPressure cX2_gasPressure 1 (some .int) 0 := ⟨mm_45, mm_46, mm_47, ⟨mm_31, mm_48, by decide +kernel, by decide +kernel, by decide +kernel⟩⟩
theorem lk_X2_102 : LKVN RX2 102 RX0 yX0_poreAt cX0_poreAt 2 (some .int) 1 := ⟨nw_32, mm_53, mm_54, ⟨mm_3, mm_55, by decide +kernel, by decide +kernel, by decide +kernel⟩⟩
theorem lk_X2_108 : LKV RX2 108 RX2 yX2_bottom cX2_bottom 1 (some .int) 0 := ⟨mm_58, mm_59, mm_60, ⟨mm_31, mm_61, by decide +kernel, by decide +kernel, by decide +kernel⟩⟩
theorem lk_X2_111 : LKVN RX2 111 RX0 yX0_rateAt cX0_rateAt 2 (some .int) 1 := ⟨nw_33, mm_62, mm_63, ⟨mm_3, mm_64, by decide +kernel, by decide +kernel, by decide +kernel⟩⟩
theorem lk_X2_116 : LKVN RX2 116 RX0 yX0_bearsGasAt cX0_bearsGasAt 2 (some .boolean) 1 := ⟨nw_34, mm_66, mm_67, ⟨mm_3, mm_68, by decide +kernel, by decide +kernel, by decide +kernel⟩⟩
theorem lk_X2_83 : LKV RX2 83 RX2 yX2_measureGas cX2_measureGas 2 none 0 := ⟨mm_69, mm_70, mm_71, ⟨mm_31, mm_72, by decide +kernel, by decide +kernel, by decide +kernel⟩⟩
theorem lk_X2_120 : LKV RX2 120 RX2 yX2_foot cX2_foot 3 (some .int) 0 := ⟨mm_73, mm_74, mm_75, ⟨mm_31, mm_76, by decide +kernel, by decide +kernel, by decide +kernel⟩⟩
theorem lk_X2_123 : LKVN RX2 123 RX0 yX0_breakAt cX0_breakAt 2 (some .int) 1 := ⟨nw_35, mm_77, mm_78, ⟨mm_3, mm_79, by decide +kernel, by decide +kernel, by decide +kernel⟩⟩
theorem lk_X2_76 : LKV RX2 76 RX2 yX2_raiseGas cX2_raiseGas 3 none 1 := ⟨mm_82, mm_83, mm_84, ⟨mm_31, mm_85, by decide +kernel, by decide +kernel, by decide +kernel⟩⟩
theorem lk_X2_80 : LKV RX2 80 RX2 yX2_ventGas cX2_ventGas 2 none 1 := ⟨mm_86, mm_87, mm_88, ⟨mm_31, mm_89, by decide +kernel, by decide +kernel, by decide +kernel⟩⟩
theorem lk_X2_86 : LKV RX2 86 RX2 yX2_setChoke cX2_setChoke 1 none 0 := ⟨mm_90, mm_91, mm_92, ⟨mm_31, mm_93, by decide +kernel, by decide +kernel, by decide +kernel⟩⟩
theorem lk_X2_89 : LKV RX2 89 RX2 yX2_flowIn cX2_flowIn 3 (some .boolean) 0 := ⟨mm_94, mm_95, mm_96, ⟨mm_31, mm_97, by decide +kernel, by decide +kernel, by decide +kernel⟩⟩
theorem lk_X2_92 : LKV RX2 92 RX2 yX2_loseAtShoe cX2_loseAtShoe 1 none 0 := ⟨mm_98, mm_99, mm_100, ⟨mm_31, mm_101, by decide +kernel, by decide +kernel, by decide +kernel⟩⟩
theorem lk_X2_72 : LKV RX2 72 RX2 yX2_letMinuteGo cX2_letMinuteGo 3 (some .boolean) 1 := ⟨mm_102, mm_103, mm_104, ⟨mm_31, mm_105, by decide +kernel, by decide +kernel, by decide +kernel⟩⟩
theorem lk_X3_126 : LKVN RX3 126 RX2 yX2_hasInflow cX2_hasInflow 1 (some .boolean) 0 := ⟨nw_23, mm_108, mm_109, ⟨mm_31, mm_110, by decide +kernel, by decide +kernel, by decide +kernel⟩⟩
theorem lk_X3_171 : LKVN RX3 171 RX2 yX2_bottom cX2_bottom 1 (some .int) 0 := ⟨nw_24, mm_59, mm_60, ⟨mm_31, mm_61, by decide +kernel, by decide +kernel, by decide +kernel⟩⟩
theorem lk_X3_174 : LKVN RX3 174 RX0 yX0_poreAt cX0_poreAt 2 (some .int) 1 := ⟨nw_25, mm_53, mm_54, ⟨mm_3, mm_55, by decide +kernel, by decide +kernel, by decide +kernel⟩⟩
theorem lk_X3_267 : LKVN RX3 267 RX1 yX1_isPassed cX1_isPassed 2 (some .boolean) 1 := ⟨nw_27, mm_113, mm_114, ⟨mm_115, mm_116, by decide +kernel, by decide +kernel, by decide +kernel⟩⟩
theorem lk_X3_224 : LKS RX3 224 yX3_read cX3_read 2 (some .int) 2 := ⟨mm_117, mm_5, ⟨mm_6, mm_7, by decide +kernel, by decide +kernel, by decide +kernel⟩⟩
theorem lk_X3_206 : LKV RX3 206 RX3 yX3_isMudBarrier cX3_isMudBarrier 1 (some .boolean) 0 := ⟨mm_118, mm_119, mm_120, ⟨mm_6, mm_121, by decide +kernel, by decide +kernel, by decide +kernel⟩⟩
theorem lk_X3_209 : LKV RX3 209 RX3 yX3_isValveBarrier cX3_isValveBarrier 2 (some .boolean) 0 := ⟨mm_122, mm_123, mm_124, ⟨mm_6, mm_125, by decide +kernel, by decide +kernel, by decide +kernel⟩⟩
theorem lk_X3_212 : LKV RX3 212 RX3 yX3_isCementBarrier cX3_isCementBarrier 1 (some .boolean) 0 := ⟨mm_126, mm_127, mm_128, ⟨mm_6, mm_129, by decide +kernel, by decide +kernel, by decide +kernel⟩⟩
theorem lk_X3_215 : LKV RX3 215 RX3 yX3_barriers cX3_barriers 1 (some .int) 0 := ⟨mm_134, mm_135, mm_136, ⟨mm_6, mm_137, by decide +kernel, by decide +kernel, by decide +kernel⟩⟩
theorem lk_X3_166 : LKS RX3 166 yJ6_bitCount_0f7a4 cJ6_bitCount_0f7a4 1 (some .int) 1 := ⟨mm_138, mm_139, ⟨mm_140, mm_141, by decide +kernel, by decide +kernel, by decide +kernel⟩⟩
theorem lk_X4_55 : LKS RX4 55 yX4_layerAt cX4_layerAt 1 (some .int) 1 := ⟨mm_145, mm_146, ⟨mm_147, mm_148, by decide +kernel, by decide +kernel, by decide +kernel⟩⟩
theorem lk_X4_59 : LKS RX4 59 yX4_in cX4_in 3 (some .boolean) 3 := ⟨mm_150, mm_151, ⟨mm_147, mm_152, by decide +kernel, by decide +kernel, by decide +kernel⟩⟩
theorem lk_X4_66 : LKV RX4 66 RX4 yX4_goesWell cX4_goesWell 2 (some .boolean) 1 := ⟨mm_154, mm_155, mm_156, ⟨mm_147, mm_157, by decide +kernel, by decide +kernel, by decide +kernel⟩⟩
theorem lk_X4_83 : LKV RX4 83 RX4 yX4_column cX4_column 1 (some .int) 0 := ⟨mm_165, mm_166, mm_167, ⟨mm_147, mm_168, by decide +kernel, by decide +kernel, by decide +kernel⟩⟩
theorem lk_X4_100 : LKV RX4 100 RX4 yX4_gasPressure cX4_gasPressure 2 (some .int) 0 := ⟨mm_173, mm_174, mm_175, ⟨mm_147, mm_176, by decide +kernel, by decide +kernel, by decide +kernel⟩⟩
theorem lk_X4_106 : LKV RX4 106 RX4 yX4_measure cX4_measure 5 none 0 := ⟨mm_178, mm_179, mm_180, ⟨mm_147, mm_181, by decide +kernel, by decide +kernel, by decide +kernel⟩⟩
theorem lk_X4_109 : LKV RX4 109 RX4 yX4_poreAt cX4_poreAt 2 (some .int) 1 := ⟨mm_182, mm_183, mm_184, ⟨mm_147, mm_185, by decide +kernel, by decide +kernel, by decide +kernel⟩⟩
theorem lk_X4_118 : LKV RX4 118 RX4 yX4_bottom cX4_bottom 1 (some .int) 0 := ⟨mm_189, mm_190, mm_191, ⟨mm_147, mm_192, by decide +kernel, by decide +kernel, by decide +kernel⟩⟩
theorem lk_X4_131 : LKV RX4 131 RX4 yX4_rise cX4_rise 2 none 1 := ⟨mm_197, mm_198, mm_199, ⟨mm_147, mm_200, by decide +kernel, by decide +kernel, by decide +kernel⟩⟩
theorem lk_X4_135 : LKV RX4 135 RX4 yX4_shut cX4_shut 2 none 0 := ⟨mm_201, mm_202, mm_203, ⟨mm_147, mm_204, by decide +kernel, by decide +kernel, by decide +kernel⟩⟩
theorem lk_X4_138 : LKV RX4 138 RX4 yX4_flow cX4_flow 6 none 0 := ⟨mm_205, mm_206, mm_207, ⟨mm_147, mm_208, by decide +kernel, by decide +kernel, by decide +kernel⟩⟩
theorem lk_X4_144 : LKV RX4 144 RX4 yX4_foot cX4_foot 2 (some .int) 0 := ⟨mm_210, mm_211, mm_212, ⟨mm_147, mm_213, by decide +kernel, by decide +kernel, by decide +kernel⟩⟩
theorem lk_X4_147 : LKV RX4 147 RX4 yX4_breakAt cX4_breakAt 2 (some .int) 1 := ⟨mm_214, mm_215, mm_216, ⟨mm_147, mm_217, by decide +kernel, by decide +kernel, by decide +kernel⟩⟩
theorem lk_X4_165 : LKV RX4 165 RX4 yX4_latest cX4_latest 5 (some .int) 2 := ⟨mm_220, mm_221, mm_222, ⟨mm_147, mm_223, by decide +kernel, by decide +kernel, by decide +kernel⟩⟩
theorem lk_X4_169 : LKV RX4 169 RX4 yX4_barriersNow cX4_barriersNow 6 (some .int) 0 := ⟨mm_227, mm_228, mm_229, ⟨mm_147, mm_230, by decide +kernel, by decide +kernel, by decide +kernel⟩⟩
theorem lk_X4_152 : LKV RX4 152 RX4 yX4_barsNow cX4_barsNow 4 (some .int) 0 := ⟨mm_232, mm_233, mm_234, ⟨mm_147, mm_235, by decide +kernel, by decide +kernel, by decide +kernel⟩⟩
theorem lk_X4_156 : LKV RX4 156 RX4 yX4_passOne cX4_passOne 2 none 1 := ⟨mm_237, mm_238, mm_239, ⟨mm_147, mm_240, by decide +kernel, by decide +kernel, by decide +kernel⟩⟩
theorem lk_X4_174 : LKV RX4 174 RX4 yX4_bound cX4_bound 6 (some .int) 3 := ⟨mm_245, mm_246, mm_247, ⟨mm_147, mm_248, by decide +kernel, by decide +kernel, by decide +kernel⟩⟩
theorem lk_X4_178 : LKV RX4 178 RX4 yX4_casingsOf cX4_casingsOf 5 (some .int) 1 := ⟨mm_249, mm_250, mm_251, ⟨mm_147, mm_252, by decide +kernel, by decide +kernel, by decide +kernel⟩⟩
theorem lk_X4_181 : LKV RX4 181 RX4 yX4_keep cX4_keep 1 none 0 := ⟨mm_254, mm_255, mm_256, ⟨mm_147, mm_257, by decide +kernel, by decide +kernel, by decide +kernel⟩⟩
theorem lk_X4_184 : LKV RX4 184 RX4 yX4_comeBack cX4_comeBack 1 none 0 := ⟨mm_258, mm_259, mm_260, ⟨mm_147, mm_261, by decide +kernel, by decide +kernel, by decide +kernel⟩⟩

section FR
variable {p : Program} {l : Launch} {e : Env} {R : Room} {s : State} {m : MethodId} {args : Array Value} {below : List Frame} {meth : Method} {c : Code} {H : Heap} {locs : List Loc} {cells slots : Nat} {Q : State → Prop}
variable {D : va_G} {q : Nat → ClassId} {ws : va_W} {A : Nat → Prop} {H0 : Heap} {cc : ByteArray} {nL : Nat} {pc : Nat} {ls : Array Slot} {rest st : List Value}
theorem gf_X0_9 {k : Nat → Nat} (fx : FX p s m args c RX0 cc nL D q) (hP : va_P D vwCl ws H) (i : Nat) (he : ws[i]? = some (oR k)) (hdg : decode cc pc = .ok (.getfield 9, 3)) (kk : W p l e R s m args below meth c H locs cells slots Q (F0 m (pc + 3) ls (.ref (k 1) :: rest))) : W p l e R s m args below meth c H locs cells slots Q (F0 m pc ls (.ref (k 0) :: rest)) :=
  va_get (D := D) (ci := 0) (v := .ref (k 1)) (C := RX0) (T := TX0) (N := 5) fx.1 fx.2.1 fx.2.2.2.2.1 inlX0 fx.2.2.2.1 fx.2.2.2.2.2.1 hP i he rfl 0 (by decide) (fx.2.2.2.2.1 _ mm_0) (fun _ h9 => h9) rfl hdg kk
theorem gf_X0_15 {k : Nat → Nat} (fx : FX p s m args c RX0 cc nL D q) (hP : va_P D vwCl ws H) (i : Nat) (he : ws[i]? = some (oR k)) (hdg : decode cc pc = .ok (.getfield 15, 3)) (kk : W p l e R s m args below meth c H locs cells slots Q (F0 m (pc + 3) ls (.ref (k 2) :: rest))) : W p l e R s m args below meth c H locs cells slots Q (F0 m pc ls (.ref (k 0) :: rest)) :=
  va_get (D := D) (ci := 0) (v := .ref (k 2)) (C := RX0) (T := TX0) (N := 5) fx.1 fx.2.1 fx.2.2.2.2.1 inlX0 fx.2.2.2.1 fx.2.2.2.2.2.1 hP i he rfl 1 (by decide) (fx.2.2.2.2.1 _ mm_8) (fun _ h9 => h9) rfl hdg kk
theorem gf_X0_18 {k : Nat → Nat} (fx : FX p s m args c RX0 cc nL D q) (hP : va_P D vwCl ws H) (i : Nat) (he : ws[i]? = some (oR k)) (hdg : decode cc pc = .ok (.getfield 18, 3)) (kk : W p l e R s m args below meth c H locs cells slots Q (F0 m (pc + 3) ls (.ref (k 3) :: rest))) : W p l e R s m args below meth c H locs cells slots Q (F0 m pc ls (.ref (k 0) :: rest)) :=
  va_get (D := D) (ci := 0) (v := .ref (k 3)) (C := RX0) (T := TX0) (N := 5) fx.1 fx.2.1 fx.2.2.2.2.1 inlX0 fx.2.2.2.1 fx.2.2.2.2.2.1 hP i he rfl 2 (by decide) (fx.2.2.2.2.1 _ mm_9) (fun _ h9 => h9) rfl hdg kk
theorem gf_X0_21 {k : Nat → Nat} (fx : FX p s m args c RX0 cc nL D q) (hP : va_P D vwCl ws H) (i : Nat) (he : ws[i]? = some (oR k)) (hdg : decode cc pc = .ok (.getfield 21, 3)) (kk : W p l e R s m args below meth c H locs cells slots Q (F0 m (pc + 3) ls (.ref (k 4) :: rest))) : W p l e R s m args below meth c H locs cells slots Q (F0 m pc ls (.ref (k 0) :: rest)) :=
  va_get (D := D) (ci := 0) (v := .ref (k 4)) (C := RX0) (T := TX0) (N := 5) fx.1 fx.2.1 fx.2.2.2.2.1 inlX0 fx.2.2.2.1 fx.2.2.2.2.2.1 hP i he rfl 3 (by decide) (fx.2.2.2.2.1 _ mm_10) (fun _ h9 => h9) rfl hdg kk
theorem gf_X0_24 {k : Nat → Nat} (fx : FX p s m args c RX0 cc nL D q) (hP : va_P D vwCl ws H) (i : Nat) (he : ws[i]? = some (oR k)) (hdg : decode cc pc = .ok (.getfield 24, 3)) (kk : W p l e R s m args below meth c H locs cells slots Q (F0 m (pc + 3) ls (.ref (k 5) :: rest))) : W p l e R s m args below meth c H locs cells slots Q (F0 m pc ls (.ref (k 0) :: rest)) :=
  va_get (D := D) (ci := 0) (v := .ref (k 5)) (C := RX0) (T := TX0) (N := 5) fx.1 fx.2.1 fx.2.2.2.2.1 inlX0 fx.2.2.2.1 fx.2.2.2.2.2.1 hP i he rfl 4 (by decide) (fx.2.2.2.2.1 _ mm_15) (fun _ h9 => h9) rfl hdg kk
theorem gf_X1_9 {k : Nat → Nat} {z : TS} (fx : FX p s m args c RX1 cc nL D q) (hP : va_P D vwCl ws H) (i : Nat) (he : ws[i]? = some (oT k z)) (hdg : decode cc pc = .ok (.getfield 9, 3)) (kk : W p l e R s m args below meth c H locs cells slots Q (F0 m (pc + 3) ls (.ref (k 1) :: rest))) : W p l e R s m args below meth c H locs cells slots Q (F0 m pc ls (.ref (k 0) :: rest)) :=
  va_get (D := D) (ci := 1) (v := .ref (k 1)) (C := RX1) (T := TX1) (N := 7) fx.1 fx.2.1 fx.2.2.2.2.1 inlX1 fx.2.2.2.1 fx.2.2.2.2.2.1 hP i he rfl 0 (by decide) (fx.2.2.2.2.1 _ mm_20) (fun _ h9 => h9) rfl hdg kk
theorem gf_X1_31 {k : Nat → Nat} {z : TS} (fx : FX p s m args c RX1 cc nL D q) (hP : va_P D vwCl ws H) (i : Nat) (he : ws[i]? = some (oT k z)) {v : Int32} (hv : T_count z = v) (hdg : decode cc pc = .ok (.getfield 31, 3)) (kk : W p l e R s m args below meth c H locs cells slots Q (F0 m (pc + 3) ls (.int v :: rest))) : W p l e R s m args below meth c H locs cells slots Q (F0 m pc ls (.ref (k 0) :: rest)) := by
  subst hv
  exact va_get (D := D) (ci := 1) (v := .int (T_count z)) (C := RX1) (T := TX1) (N := 7) fx.1 fx.2.1 fx.2.2.2.2.1 inlX1 fx.2.2.2.1 fx.2.2.2.2.2.1 hP i he rfl 4 (by decide) (fx.2.2.2.2.1 _ mm_21) (fun _ h9 => h9) rfl hdg kk
theorem gf_X1_15 {k : Nat → Nat} {z : TS} (fx : FX p s m args c RX1 cc nL D q) (hP : va_P D vwCl ws H) (i : Nat) (he : ws[i]? = some (oT k z)) (hdg : decode cc pc = .ok (.getfield 15, 3)) (kk : W p l e R s m args below meth c H locs cells slots Q (F0 m (pc + 3) ls (.ref (k 2) :: rest))) : W p l e R s m args below meth c H locs cells slots Q (F0 m pc ls (.ref (k 0) :: rest)) :=
  va_get (D := D) (ci := 1) (v := .ref (k 2)) (C := RX1) (T := TX1) (N := 7) fx.1 fx.2.1 fx.2.2.2.2.1 inlX1 fx.2.2.2.1 fx.2.2.2.2.2.1 hP i he rfl 1 (by decide) (fx.2.2.2.2.1 _ mm_22) (fun _ h9 => h9) rfl hdg kk
theorem gf_X1_18 {k : Nat → Nat} {z : TS} (fx : FX p s m args c RX1 cc nL D q) (hP : va_P D vwCl ws H) (i : Nat) (he : ws[i]? = some (oT k z)) (hdg : decode cc pc = .ok (.getfield 18, 3)) (kk : W p l e R s m args below meth c H locs cells slots Q (F0 m (pc + 3) ls (.ref (k 3) :: rest))) : W p l e R s m args below meth c H locs cells slots Q (F0 m pc ls (.ref (k 0) :: rest)) :=
  va_get (D := D) (ci := 1) (v := .ref (k 3)) (C := RX1) (T := TX1) (N := 7) fx.1 fx.2.1 fx.2.2.2.2.1 inlX1 fx.2.2.2.1 fx.2.2.2.2.2.1 hP i he rfl 2 (by decide) (fx.2.2.2.2.1 _ mm_23) (fun _ h9 => h9) rfl hdg kk
theorem gf_X1_21 {k : Nat → Nat} {z : TS} (fx : FX p s m args c RX1 cc nL D q) (hP : va_P D vwCl ws H) (i : Nat) (he : ws[i]? = some (oT k z)) (hdg : decode cc pc = .ok (.getfield 21, 3)) (kk : W p l e R s m args below meth c H locs cells slots Q (F0 m (pc + 3) ls (.ref (k 4) :: rest))) : W p l e R s m args below meth c H locs cells slots Q (F0 m pc ls (.ref (k 0) :: rest)) :=
  va_get (D := D) (ci := 1) (v := .ref (k 4)) (C := RX1) (T := TX1) (N := 7) fx.1 fx.2.1 fx.2.2.2.2.1 inlX1 fx.2.2.2.1 fx.2.2.2.2.2.1 hP i he rfl 3 (by decide) (fx.2.2.2.2.1 _ mm_24) (fun _ h9 => h9) rfl hdg kk
theorem pf_X1_28 {k : Nat → Nat} {z : TS} (fx : FX p s m args c RX1 cc nL D q) (hP : va_P D vwCl ws H) (hD : va_D A ws) (hS : va_S A H0 H locs) (i : Nat) (he : ws[i]? = some (oT k z)) {y : Int32} (hdg : decode cc pc = .ok (.putfield 28, 3)) (kk : ∀ (H1 : Heap) (locs1 : List Loc), va_P D vwCl (ws.set i (oT k (T_set_latestOfCement z y))) H1 → va_S A H0 H1 locs1 → W p l e R s m args below meth c H1 locs1 cells slots Q (F0 m (pc + 3) ls rest)) : W p l e R s m args below meth c H locs cells slots Q (F0 m pc ls (.int y :: .ref (k 0) :: rest)) :=
  va_put (D := D) (ci := 1) (v := .int y) (ty := .int) (C := RX1) (T := TX1) (N := 7) fx.1 fx.2.1 fx.2.2.2.2.1 inlX1 tyX1 tyX1_ok nmX1 fx.2.2.2.1 fx.2.2.2.2.2.1 hP hD hS i he rfl 6 (by decide) (fx.2.2.2.2.1 _ mm_25) (fun _ h9 => h9) rfl (by decide +kernel) rfl rfl (Nat.le_of_ble_eq_true rfl) hdg (fun H locs hP _ hS => kk H locs hP hS)
theorem pf_X1_24 {k : Nat → Nat} {z : TS} (fx : FX p s m args c RX1 cc nL D q) (hP : va_P D vwCl ws H) (hD : va_D A ws) (hS : va_S A H0 H locs) (i : Nat) (he : ws[i]? = some (oT k z)) {y : Int32} (hdg : decode cc pc = .ok (.putfield 24, 3)) (kk : ∀ (H1 : Heap) (locs1 : List Loc), va_P D vwCl (ws.set i (oT k (T_set_latestOfValve z y))) H1 → va_S A H0 H1 locs1 → W p l e R s m args below meth c H1 locs1 cells slots Q (F0 m (pc + 3) ls rest)) : W p l e R s m args below meth c H locs cells slots Q (F0 m pc ls (.int y :: .ref (k 0) :: rest)) :=
  va_put (D := D) (ci := 1) (v := .int y) (ty := .int) (C := RX1) (T := TX1) (N := 7) fx.1 fx.2.1 fx.2.2.2.2.1 inlX1 tyX1 tyX1_ok nmX1 fx.2.2.2.1 fx.2.2.2.2.2.1 hP hD hS i he rfl 5 (by decide) (fx.2.2.2.2.1 _ mm_26) (fun _ h9 => h9) rfl (by decide +kernel) rfl rfl (Nat.le_of_ble_eq_true rfl) hdg (fun H locs hP _ hS => kk H locs hP hS)
theorem pf_X1_31 {k : Nat → Nat} {z : TS} (fx : FX p s m args c RX1 cc nL D q) (hP : va_P D vwCl ws H) (hD : va_D A ws) (hS : va_S A H0 H locs) (i : Nat) (he : ws[i]? = some (oT k z)) {y : Int32} (hdg : decode cc pc = .ok (.putfield 31, 3)) (kk : ∀ (H1 : Heap) (locs1 : List Loc), va_P D vwCl (ws.set i (oT k (T_set_count z y))) H1 → va_S A H0 H1 locs1 → W p l e R s m args below meth c H1 locs1 cells slots Q (F0 m (pc + 3) ls rest)) : W p l e R s m args below meth c H locs cells slots Q (F0 m pc ls (.int y :: .ref (k 0) :: rest)) :=
  va_put (D := D) (ci := 1) (v := .int y) (ty := .int) (C := RX1) (T := TX1) (N := 7) fx.1 fx.2.1 fx.2.2.2.2.1 inlX1 tyX1 tyX1_ok nmX1 fx.2.2.2.1 fx.2.2.2.2.2.1 hP hD hS i he rfl 4 (by decide) (fx.2.2.2.2.1 _ mm_21) (fun _ h9 => h9) rfl (by decide +kernel) rfl rfl (Nat.le_of_ble_eq_true rfl) hdg (fun H locs hP _ hS => kk H locs hP hS)
theorem gf_X2_36 {h rr : Nat} {z : WS} (fx : FX p s m args c RX2 cc nL D q) (hP : va_P D vwCl ws H) (i : Nat) (he : ws[i]? = some (oW h rr z)) {v : Int64} (hv : W_charge z = v) (hdg : decode cc pc = .ok (.getfield 36, 3)) (kk : W p l e R s m args below meth c H locs cells slots Q (F0 m (pc + 3) ls (.long v :: rest))) : W p l e R s m args below meth c H locs cells slots Q (F0 m pc ls (.ref h :: rest)) := by
  subst hv
  exact va_get (D := D) (ci := 2) (v := .long (W_charge z)) (C := RX2) (T := TX2) (N := 15) fx.1 fx.2.1 fx.2.2.2.2.1 inlX2 fx.2.2.2.1 fx.2.2.2.2.2.1 hP i he rfl 8 (by decide) (fx.2.2.2.2.1 _ mm_27) (fun _ h9 => h9) rfl hdg kk
theorem gf_X2_46 {h rr : Nat} {z : WS} (fx : FX p s m args c RX2 cc nL D q) (hP : va_P D vwCl ws H) (i : Nat) (he : ws[i]? = some (oW h rr z)) {v : Int32} (hv : W_liquid z = v) (hdg : decode cc pc = .ok (.getfield 46, 3)) (kk : W p l e R s m args below meth c H locs cells slots Q (F0 m (pc + 3) ls (.int v :: rest))) : W p l e R s m args below meth c H locs cells slots Q (F0 m pc ls (.ref h :: rest)) := by
  subst hv
  exact va_get (D := D) (ci := 2) (v := .int (W_liquid z)) (C := RX2) (T := TX2) (N := 15) fx.1 fx.2.1 fx.2.2.2.2.1 inlX2 fx.2.2.2.1 fx.2.2.2.2.2.1 hP i he rfl 11 (by decide) (fx.2.2.2.2.1 _ mm_33) (fun _ h9 => h9) rfl hdg kk
theorem gf_X2_13 {h rr : Nat} {z : WS} (fx : FX p s m args c RX2 cc nL D q) (hP : va_P D vwCl ws H) (i : Nat) (he : ws[i]? = some (oW h rr z)) {v : Int32} (hv : W_weight z = v) (hdg : decode cc pc = .ok (.getfield 13, 3)) (kk : W p l e R s m args below meth c H locs cells slots Q (F0 m (pc + 3) ls (.int v :: rest))) : W p l e R s m args below meth c H locs cells slots Q (F0 m pc ls (.ref h :: rest)) := by
  subst hv
  exact va_get (D := D) (ci := 2) (v := .int (W_weight z)) (C := RX2) (T := TX2) (N := 15) fx.1 fx.2.1 fx.2.2.2.2.1 inlX2 fx.2.2.2.1 fx.2.2.2.2.2.1 hP i he rfl 3 (by decide) (fx.2.2.2.2.1 _ mm_34) (fun _ h9 => h9) rfl hdg kk
theorem gf_X2_20 {h rr : Nat} {z : WS} (fx : FX p s m args c RX2 cc nL D q) (hP : va_P D vwCl ws H) (i : Nat) (he : ws[i]? = some (oW h rr z)) {v : Int32} (hv : W_depth z = v) (hdg : decode cc pc = .ok (.getfield 20, 3)) (kk : W p l e R s m args below meth c H locs cells slots Q (F0 m (pc + 3) ls (.int v :: rest))) : W p l e R s m args below meth c H locs cells slots Q (F0 m pc ls (.ref h :: rest)) := by
  subst hv
  exact va_get (D := D) (ci := 2) (v := .int (W_depth z)) (C := RX2) (T := TX2) (N := 15) fx.1 fx.2.1 fx.2.2.2.2.1 inlX2 fx.2.2.2.1 fx.2.2.2.2.2.1 hP i he rfl 1 (by decide) (fx.2.2.2.2.1 _ mm_35) (fun _ h9 => h9) rfl hdg kk
theorem gf_X2_43 {h rr : Nat} {z : WS} (fx : FX p s m args c RX2 cc nL D q) (hP : va_P D vwCl ws H) (i : Nat) (he : ws[i]? = some (oW h rr z)) {v : Int32} (hv : W_gas z = v) (hdg : decode cc pc = .ok (.getfield 43, 3)) (kk : W p l e R s m args below meth c H locs cells slots Q (F0 m (pc + 3) ls (.int v :: rest))) : W p l e R s m args below meth c H locs cells slots Q (F0 m pc ls (.ref h :: rest)) := by
  subst hv
  exact va_get (D := D) (ci := 2) (v := .int (W_gas z)) (C := RX2) (T := TX2) (N := 15) fx.1 fx.2.1 fx.2.2.2.2.1 inlX2 fx.2.2.2.1 fx.2.2.2.2.2.1 hP i he rfl 10 (by decide) (fx.2.2.2.2.1 _ mm_36) (fun _ h9 => h9) rfl hdg kk
theorem gf_X2_30 {h rr : Nat} {z : WS} (fx : FX p s m args c RX2 cc nL D q) (hP : va_P D vwCl ws H) (i : Nat) (he : ws[i]? = some (oW h rr z)) {v : Int32} (hv : W_choke z = v) (hdg : decode cc pc = .ok (.getfield 30, 3)) (kk : W p l e R s m args below meth c H locs cells slots Q (F0 m (pc + 3) ls (.int v :: rest))) : W p l e R s m args below meth c H locs cells slots Q (F0 m pc ls (.ref h :: rest)) := by
  subst hv
  exact va_get (D := D) (ci := 2) (v := .int (W_choke z)) (C := RX2) (T := TX2) (N := 15) fx.1 fx.2.1 fx.2.2.2.2.1 inlX2 fx.2.2.2.1 fx.2.2.2.2.2.1 hP i he rfl 5 (by decide) (fx.2.2.2.2.1 _ mm_42) (fun _ h9 => h9) rfl hdg kk
theorem gf_X2_40 {h rr : Nat} {z : WS} (fx : FX p s m args c RX2 cc nL D q) (hP : va_P D vwCl ws H) (i : Nat) (he : ws[i]? = some (oW h rr z)) {v : Int32} (hv : W_place z = v) (hdg : decode cc pc = .ok (.getfield 40, 3)) (kk : W p l e R s m args below meth c H locs cells slots Q (F0 m (pc + 3) ls (.int v :: rest))) : W p l e R s m args below meth c H locs cells slots Q (F0 m pc ls (.ref h :: rest)) := by
  subst hv
  exact va_get (D := D) (ci := 2) (v := .int (W_place z)) (C := RX2) (T := TX2) (N := 15) fx.1 fx.2.1 fx.2.2.2.2.1 inlX2 fx.2.2.2.1 fx.2.2.2.2.2.1 hP i he rfl 9 (by decide) (fx.2.2.2.2.1 _ mm_43) (fun _ h9 => h9) rfl hdg kk
theorem gf_X2_23 {h rr : Nat} {z : WS} (fx : FX p s m args c RX2 cc nL D q) (hP : va_P D vwCl ws H) (i : Nat) (he : ws[i]? = some (oW h rr z)) {v : Int32} (hv : W_shoe z = v) (hdg : decode cc pc = .ok (.getfield 23, 3)) (kk : W p l e R s m args below meth c H locs cells slots Q (F0 m (pc + 3) ls (.int v :: rest))) : W p l e R s m args below meth c H locs cells slots Q (F0 m pc ls (.ref h :: rest)) := by
  subst hv
  exact va_get (D := D) (ci := 2) (v := .int (W_shoe z)) (C := RX2) (T := TX2) (N := 15) fx.1 fx.2.1 fx.2.2.2.2.1 inlX2 fx.2.2.2.1 fx.2.2.2.2.2.1 hP i he rfl 2 (by decide) (fx.2.2.2.2.1 _ mm_44) (fun _ h9 => h9) rfl hdg kk
theorem pf_X2_43 {h rr : Nat} {z : WS} (fx : FX p s m args c RX2 cc nL D q) (hP : va_P D vwCl ws H) (hD : va_D A ws) (hS : va_S A H0 H locs) (i : Nat) (he : ws[i]? = some (oW h rr z)) {y : Int32} (hdg : decode cc pc = .ok (.putfield 43, 3)) (kk : ∀ (H1 : Heap) (locs1 : List Loc), va_P D vwCl (ws.set i (oW h rr (W_set_gas z y))) H1 → va_S A H0 H1 locs1 → W p l e R s m args below meth c H1 locs1 cells slots Q (F0 m (pc + 3) ls rest)) : W p l e R s m args below meth c H locs cells slots Q (F0 m pc ls (.int y :: .ref h :: rest)) :=
  va_put (D := D) (ci := 2) (v := .int y) (ty := .int) (C := RX2) (T := TX2) (N := 15) fx.1 fx.2.1 fx.2.2.2.2.1 inlX2 tyX2 tyX2_ok nmX2 fx.2.2.2.1 fx.2.2.2.2.2.1 hP hD hS i he rfl 10 (by decide) (fx.2.2.2.2.1 _ mm_36) (fun _ h9 => h9) rfl (by decide +kernel) rfl rfl (Nat.le_of_ble_eq_true rfl) hdg (fun H locs hP _ hS => kk H locs hP hS)
theorem gf_X2_26 {h rr : Nat} {z : WS} (fx : FX p s m args c RX2 cc nL D q) (hP : va_P D vwCl ws H) (i : Nat) (he : ws[i]? = some (oW h rr z)) {v : Int32} (hv : W_isClosed z = v) (hdg : decode cc pc = .ok (.getfield 26, 3)) (kk : W p l e R s m args below meth c H locs cells slots Q (F0 m (pc + 3) ls (.int v :: rest))) : W p l e R s m args below meth c H locs cells slots Q (F0 m pc ls (.ref h :: rest)) := by
  subst hv
  exact va_get (D := D) (ci := 2) (v := .int (W_isClosed z)) (C := RX2) (T := TX2) (N := 15) fx.1 fx.2.1 fx.2.2.2.2.1 inlX2 fx.2.2.2.1 fx.2.2.2.2.2.1 hP i he rfl 4 (by decide) (fx.2.2.2.2.1 _ mm_50) (fun _ h9 => h9) rfl hdg kk
theorem pf_X2_40 {h rr : Nat} {z : WS} (fx : FX p s m args c RX2 cc nL D q) (hP : va_P D vwCl ws H) (hD : va_D A ws) (hS : va_S A H0 H locs) (i : Nat) (he : ws[i]? = some (oW h rr z)) {y : Int32} (hdg : decode cc pc = .ok (.putfield 40, 3)) (kk : ∀ (H1 : Heap) (locs1 : List Loc), va_P D vwCl (ws.set i (oW h rr (W_set_place z y))) H1 → va_S A H0 H1 locs1 → W p l e R s m args below meth c H1 locs1 cells slots Q (F0 m (pc + 3) ls rest)) : W p l e R s m args below meth c H locs cells slots Q (F0 m pc ls (.int y :: .ref h :: rest)) :=
  va_put (D := D) (ci := 2) (v := .int y) (ty := .int) (C := RX2) (T := TX2) (N := 15) fx.1 fx.2.1 fx.2.2.2.2.1 inlX2 tyX2 tyX2_ok nmX2 fx.2.2.2.1 fx.2.2.2.2.2.1 hP hD hS i he rfl 9 (by decide) (fx.2.2.2.2.1 _ mm_43) (fun _ h9 => h9) rfl (by decide +kernel) rfl rfl (Nat.le_of_ble_eq_true rfl) hdg (fun H locs hP _ hS => kk H locs hP hS)
theorem gf_X2_49 {h rr : Nat} {z : WS} (fx : FX p s m args c RX2 cc nL D q) (hP : va_P D vwCl ws H) (i : Nat) (he : ws[i]? = some (oW h rr z)) {v : Int64} (hv : W_vented z = v) (hdg : decode cc pc = .ok (.getfield 49, 3)) (kk : W p l e R s m args below meth c H locs cells slots Q (F0 m (pc + 3) ls (.long v :: rest))) : W p l e R s m args below meth c H locs cells slots Q (F0 m pc ls (.ref h :: rest)) := by
  subst hv
  exact va_get (D := D) (ci := 2) (v := .long (W_vented z)) (C := RX2) (T := TX2) (N := 15) fx.1 fx.2.1 fx.2.2.2.2.1 inlX2 fx.2.2.2.1 fx.2.2.2.2.2.1 hP i he rfl 12 (by decide) (fx.2.2.2.2.1 _ mm_51) (fun _ h9 => h9) rfl hdg kk
theorem pf_X2_49 {h rr : Nat} {z : WS} (fx : FX p s m args c RX2 cc nL D q) (hP : va_P D vwCl ws H) (hD : va_D A ws) (hS : va_S A H0 H locs) (i : Nat) (he : ws[i]? = some (oW h rr z)) {y : Int64} (hdg : decode cc pc = .ok (.putfield 49, 3)) (kk : ∀ (H1 : Heap) (locs1 : List Loc), va_P D vwCl (ws.set i (oW h rr (W_set_vented z y))) H1 → va_S A H0 H1 locs1 → W p l e R s m args below meth c H1 locs1 cells slots Q (F0 m (pc + 3) ls rest)) : W p l e R s m args below meth c H locs cells slots Q (F0 m pc ls (.long y :: .ref h :: rest)) :=
  va_put (D := D) (ci := 2) (v := .long y) (ty := .long) (C := RX2) (T := TX2) (N := 15) fx.1 fx.2.1 fx.2.2.2.2.1 inlX2 tyX2 tyX2_ok nmX2 fx.2.2.2.1 fx.2.2.2.2.2.1 hP hD hS i he rfl 12 (by decide) (fx.2.2.2.2.1 _ mm_51) (fun _ h9 => h9) rfl (by decide +kernel) rfl rfl (Nat.le_of_ble_eq_true rfl) hdg (fun H locs hP _ hS => kk H locs hP hS)
theorem pf_X2_36 {h rr : Nat} {z : WS} (fx : FX p s m args c RX2 cc nL D q) (hP : va_P D vwCl ws H) (hD : va_D A ws) (hS : va_S A H0 H locs) (i : Nat) (he : ws[i]? = some (oW h rr z)) {y : Int64} (hdg : decode cc pc = .ok (.putfield 36, 3)) (kk : ∀ (H1 : Heap) (locs1 : List Loc), va_P D vwCl (ws.set i (oW h rr (W_set_charge z y))) H1 → va_S A H0 H1 locs1 → W p l e R s m args below meth c H1 locs1 cells slots Q (F0 m (pc + 3) ls rest)) : W p l e R s m args below meth c H locs cells slots Q (F0 m pc ls (.long y :: .ref h :: rest)) :=
  va_put (D := D) (ci := 2) (v := .long y) (ty := .long) (C := RX2) (T := TX2) (N := 15) fx.1 fx.2.1 fx.2.2.2.2.1 inlX2 tyX2 tyX2_ok nmX2 fx.2.2.2.1 fx.2.2.2.2.2.1 hP hD hS i he rfl 8 (by decide) (fx.2.2.2.2.1 _ mm_27) (fun _ h9 => h9) rfl (by decide +kernel) rfl rfl (Nat.le_of_ble_eq_true rfl) hdg (fun H locs hP _ hS => kk H locs hP hS)
theorem gf_X2_7 {h rr : Nat} {z : WS} (fx : FX p s m args c RX2 cc nL D q) (hP : va_P D vwCl ws H) (i : Nat) (he : ws[i]? = some (oW h rr z)) (hdg : decode cc pc = .ok (.getfield 7, 3)) (kk : W p l e R s m args below meth c H locs cells slots Q (F0 m (pc + 3) ls (.ref rr :: rest))) : W p l e R s m args below meth c H locs cells slots Q (F0 m pc ls (.ref h :: rest)) :=
  va_get (D := D) (ci := 2) (v := .ref rr) (C := RX2) (T := TX2) (N := 15) fx.1 fx.2.1 fx.2.2.2.2.1 inlX2 fx.2.2.2.1 fx.2.2.2.2.2.1 hP i he rfl 0 (by decide) (fx.2.2.2.2.1 _ mm_52) (fun _ h9 => h9) rfl hdg kk
theorem pf_X2_30 {h rr : Nat} {z : WS} (fx : FX p s m args c RX2 cc nL D q) (hP : va_P D vwCl ws H) (hD : va_D A ws) (hS : va_S A H0 H locs) (i : Nat) (he : ws[i]? = some (oW h rr z)) {y : Int32} (hdg : decode cc pc = .ok (.putfield 30, 3)) (kk : ∀ (H1 : Heap) (locs1 : List Loc), va_P D vwCl (ws.set i (oW h rr (W_set_choke z y))) H1 → va_S A H0 H1 locs1 → W p l e R s m args below meth c H1 locs1 cells slots Q (F0 m (pc + 3) ls rest)) : W p l e R s m args below meth c H locs cells slots Q (F0 m pc ls (.int y :: .ref h :: rest)) :=
  va_put (D := D) (ci := 2) (v := .int y) (ty := .int) (C := RX2) (T := TX2) (N := 15) fx.1 fx.2.1 fx.2.2.2.2.1 inlX2 tyX2 tyX2_ok nmX2 fx.2.2.2.1 fx.2.2.2.2.2.1 hP hD hS i he rfl 5 (by decide) (fx.2.2.2.2.1 _ mm_42) (fun _ h9 => h9) rfl (by decide +kernel) rfl rfl (Nat.le_of_ble_eq_true rfl) hdg (fun H locs hP _ hS => kk H locs hP hS)
theorem gf_X2_17 {h rr : Nat} {z : WS} (fx : FX p s m args c RX2 cc nL D q) (hP : va_P D vwCl ws H) (i : Nat) (he : ws[i]? = some (oW h rr z)) {v : Int32} (hv : W_valveStrength z = v) (hdg : decode cc pc = .ok (.getfield 17, 3)) (kk : W p l e R s m args below meth c H locs cells slots Q (F0 m (pc + 3) ls (.int v :: rest))) : W p l e R s m args below meth c H locs cells slots Q (F0 m pc ls (.ref h :: rest)) := by
  subst hv
  exact va_get (D := D) (ci := 2) (v := .int (W_valveStrength z)) (C := RX2) (T := TX2) (N := 15) fx.1 fx.2.1 fx.2.2.2.2.1 inlX2 fx.2.2.2.1 fx.2.2.2.2.2.1 hP i he rfl 6 (by decide) (fx.2.2.2.2.1 _ mm_56) (fun _ h9 => h9) rfl hdg kk
theorem pf_X2_26 {h rr : Nat} {z : WS} (fx : FX p s m args c RX2 cc nL D q) (hP : va_P D vwCl ws H) (hD : va_D A ws) (hS : va_S A H0 H locs) (i : Nat) (he : ws[i]? = some (oW h rr z)) {y : Int32} (hz : bz y) (hdg : decode cc pc = .ok (.putfield 26, 3)) (kk : ∀ (H1 : Heap) (locs1 : List Loc), va_P D vwCl (ws.set i (oW h rr (W_set_isClosed z y))) H1 → va_S A H0 H1 locs1 → W p l e R s m args below meth c H1 locs1 cells slots Q (F0 m (pc + 3) ls rest)) : W p l e R s m args below meth c H locs cells slots Q (F0 m pc ls (.int y :: .ref h :: rest)) :=
  va_put (D := D) (ci := 2) (v := .int y) (ty := .boolean) (C := RX2) (T := TX2) (N := 15) fx.1 fx.2.1 fx.2.2.2.2.1 inlX2 tyX2 tyX2_ok nmX2 fx.2.2.2.1 fx.2.2.2.2.2.1 hP hD hS i he rfl 4 (by decide) (fx.2.2.2.2.1 _ mm_50) (fun _ h9 => h9) rfl (by decide +kernel) (bz_n hz) (bz_f hz) (Nat.le_of_ble_eq_true rfl) hdg (fun H locs hP _ hS => kk H locs hP hS)
theorem pf_X2_33 {h rr : Nat} {z : WS} (fx : FX p s m args c RX2 cc nL D q) (hP : va_P D vwCl ws H) (hD : va_D A ws) (hS : va_S A H0 H locs) (i : Nat) (he : ws[i]? = some (oW h rr z)) {y : Int32} (hz : bz y) (hdg : decode cc pc = .ok (.putfield 33, 3)) (kk : ∀ (H1 : Heap) (locs1 : List Loc), va_P D vwCl (ws.set i (oW h rr (W_set_hasBrokenSinceTest z y))) H1 → va_S A H0 H1 locs1 → W p l e R s m args below meth c H1 locs1 cells slots Q (F0 m (pc + 3) ls rest)) : W p l e R s m args below meth c H locs cells slots Q (F0 m pc ls (.int y :: .ref h :: rest)) :=
  va_put (D := D) (ci := 2) (v := .int y) (ty := .boolean) (C := RX2) (T := TX2) (N := 15) fx.1 fx.2.1 fx.2.2.2.2.1 inlX2 tyX2 tyX2_ok nmX2 fx.2.2.2.1 fx.2.2.2.2.2.1 hP hD hS i he rfl 7 (by decide) (fx.2.2.2.2.1 _ mm_57) (fun _ h9 => h9) rfl (by decide +kernel) (bz_n hz) (bz_f hz) (Nat.le_of_ble_eq_true rfl) hdg (fun H locs hP _ hS => kk H locs hP hS)
theorem pf_X2_46 {h rr : Nat} {z : WS} (fx : FX p s m args c RX2 cc nL D q) (hP : va_P D vwCl ws H) (hD : va_D A ws) (hS : va_S A H0 H locs) (i : Nat) (he : ws[i]? = some (oW h rr z)) {y : Int32} (hdg : decode cc pc = .ok (.putfield 46, 3)) (kk : ∀ (H1 : Heap) (locs1 : List Loc), va_P D vwCl (ws.set i (oW h rr (W_set_liquid z y))) H1 → va_S A H0 H1 locs1 → W p l e R s m args below meth c H1 locs1 cells slots Q (F0 m (pc + 3) ls rest)) : W p l e R s m args below meth c H locs cells slots Q (F0 m pc ls (.int y :: .ref h :: rest)) :=
  va_put (D := D) (ci := 2) (v := .int y) (ty := .int) (C := RX2) (T := TX2) (N := 15) fx.1 fx.2.1 fx.2.2.2.2.1 inlX2 tyX2 tyX2_ok nmX2 fx.2.2.2.1 fx.2.2.2.2.2.1 hP hD hS i he rfl 11 (by decide) (fx.2.2.2.2.1 _ mm_33) (fun _ h9 => h9) rfl (by decide +kernel) rfl rfl (Nat.le_of_ble_eq_true rfl) hdg (fun H locs hP _ hS => kk H locs hP hS)
theorem gf_X2_52 {h rr : Nat} {z : WS} (fx : FX p s m args c RX2 cc nL D q) (hP : va_P D vwCl ws H) (i : Nat) (he : ws[i]? = some (oW h rr z)) {v : Int32} (hv : W_lost z = v) (hdg : decode cc pc = .ok (.getfield 52, 3)) (kk : W p l e R s m args below meth c H locs cells slots Q (F0 m (pc + 3) ls (.int v :: rest))) : W p l e R s m args below meth c H locs cells slots Q (F0 m pc ls (.ref h :: rest)) := by
  subst hv
  exact va_get (D := D) (ci := 2) (v := .int (W_lost z)) (C := RX2) (T := TX2) (N := 15) fx.1 fx.2.1 fx.2.2.2.2.1 inlX2 fx.2.2.2.1 fx.2.2.2.2.2.1 hP i he rfl 13 (by decide) (fx.2.2.2.2.1 _ mm_80) (fun _ h9 => h9) rfl hdg kk
theorem pf_X2_52 {h rr : Nat} {z : WS} (fx : FX p s m args c RX2 cc nL D q) (hP : va_P D vwCl ws H) (hD : va_D A ws) (hS : va_S A H0 H locs) (i : Nat) (he : ws[i]? = some (oW h rr z)) {y : Int32} (hdg : decode cc pc = .ok (.putfield 52, 3)) (kk : ∀ (H1 : Heap) (locs1 : List Loc), va_P D vwCl (ws.set i (oW h rr (W_set_lost z y))) H1 → va_S A H0 H1 locs1 → W p l e R s m args below meth c H1 locs1 cells slots Q (F0 m (pc + 3) ls rest)) : W p l e R s m args below meth c H locs cells slots Q (F0 m pc ls (.int y :: .ref h :: rest)) :=
  va_put (D := D) (ci := 2) (v := .int y) (ty := .int) (C := RX2) (T := TX2) (N := 15) fx.1 fx.2.1 fx.2.2.2.2.1 inlX2 tyX2 tyX2_ok nmX2 fx.2.2.2.1 fx.2.2.2.2.2.1 hP hD hS i he rfl 13 (by decide) (fx.2.2.2.2.1 _ mm_80) (fun _ h9 => h9) rfl (by decide +kernel) rfl rfl (Nat.le_of_ble_eq_true rfl) hdg (fun H locs hP _ hS => kk H locs hP hS)
theorem gf_X2_55 {h rr : Nat} {z : WS} (fx : FX p s m args c RX2 cc nL D q) (hP : va_P D vwCl ws H) (i : Nat) (he : ws[i]? = some (oW h rr z)) {v : Int32} (hv : W_minutes z = v) (hdg : decode cc pc = .ok (.getfield 55, 3)) (kk : W p l e R s m args below meth c H locs cells slots Q (F0 m (pc + 3) ls (.int v :: rest))) : W p l e R s m args below meth c H locs cells slots Q (F0 m pc ls (.ref h :: rest)) := by
  subst hv
  exact va_get (D := D) (ci := 2) (v := .int (W_minutes z)) (C := RX2) (T := TX2) (N := 15) fx.1 fx.2.1 fx.2.2.2.2.1 inlX2 fx.2.2.2.1 fx.2.2.2.2.2.1 hP i he rfl 14 (by decide) (fx.2.2.2.2.1 _ mm_81) (fun _ h9 => h9) rfl hdg kk
theorem pf_X2_55 {h rr : Nat} {z : WS} (fx : FX p s m args c RX2 cc nL D q) (hP : va_P D vwCl ws H) (hD : va_D A ws) (hS : va_S A H0 H locs) (i : Nat) (he : ws[i]? = some (oW h rr z)) {y : Int32} (hdg : decode cc pc = .ok (.putfield 55, 3)) (kk : ∀ (H1 : Heap) (locs1 : List Loc), va_P D vwCl (ws.set i (oW h rr (W_set_minutes z y))) H1 → va_S A H0 H1 locs1 → W p l e R s m args below meth c H1 locs1 cells slots Q (F0 m (pc + 3) ls rest)) : W p l e R s m args below meth c H locs cells slots Q (F0 m pc ls (.int y :: .ref h :: rest)) :=
  va_put (D := D) (ci := 2) (v := .int y) (ty := .int) (C := RX2) (T := TX2) (N := 15) fx.1 fx.2.1 fx.2.2.2.2.1 inlX2 tyX2 tyX2_ok nmX2 fx.2.2.2.1 fx.2.2.2.2.2.1 hP hD hS i he rfl 14 (by decide) (fx.2.2.2.2.1 _ mm_81) (fun _ h9 => h9) rfl (by decide +kernel) rfl rfl (Nat.le_of_ble_eq_true rfl) hdg (fun H locs hP _ hS => kk H locs hP hS)
theorem pf_X2_20 {h rr : Nat} {z : WS} (fx : FX p s m args c RX2 cc nL D q) (hP : va_P D vwCl ws H) (hD : va_D A ws) (hS : va_S A H0 H locs) (i : Nat) (he : ws[i]? = some (oW h rr z)) {y : Int32} (hdg : decode cc pc = .ok (.putfield 20, 3)) (kk : ∀ (H1 : Heap) (locs1 : List Loc), va_P D vwCl (ws.set i (oW h rr (W_set_depth z y))) H1 → va_S A H0 H1 locs1 → W p l e R s m args below meth c H1 locs1 cells slots Q (F0 m (pc + 3) ls rest)) : W p l e R s m args below meth c H locs cells slots Q (F0 m pc ls (.int y :: .ref h :: rest)) :=
  va_put (D := D) (ci := 2) (v := .int y) (ty := .int) (C := RX2) (T := TX2) (N := 15) fx.1 fx.2.1 fx.2.2.2.2.1 inlX2 tyX2 tyX2_ok nmX2 fx.2.2.2.1 fx.2.2.2.2.2.1 hP hD hS i he rfl 1 (by decide) (fx.2.2.2.2.1 _ mm_35) (fun _ h9 => h9) rfl (by decide +kernel) rfl rfl (Nat.le_of_ble_eq_true rfl) hdg (fun H locs hP _ hS => kk H locs hP hS)
theorem pf_X2_23 {h rr : Nat} {z : WS} (fx : FX p s m args c RX2 cc nL D q) (hP : va_P D vwCl ws H) (hD : va_D A ws) (hS : va_S A H0 H locs) (i : Nat) (he : ws[i]? = some (oW h rr z)) {y : Int32} (hdg : decode cc pc = .ok (.putfield 23, 3)) (kk : ∀ (H1 : Heap) (locs1 : List Loc), va_P D vwCl (ws.set i (oW h rr (W_set_shoe z y))) H1 → va_S A H0 H1 locs1 → W p l e R s m args below meth c H1 locs1 cells slots Q (F0 m (pc + 3) ls rest)) : W p l e R s m args below meth c H locs cells slots Q (F0 m pc ls (.int y :: .ref h :: rest)) :=
  va_put (D := D) (ci := 2) (v := .int y) (ty := .int) (C := RX2) (T := TX2) (N := 15) fx.1 fx.2.1 fx.2.2.2.2.1 inlX2 tyX2 tyX2_ok nmX2 fx.2.2.2.1 fx.2.2.2.2.2.1 hP hD hS i he rfl 2 (by decide) (fx.2.2.2.2.1 _ mm_44) (fun _ h9 => h9) rfl (by decide +kernel) rfl rfl (Nat.le_of_ble_eq_true rfl) hdg (fun H locs hP _ hS => kk H locs hP hS)
theorem pf_X2_13 {h rr : Nat} {z : WS} (fx : FX p s m args c RX2 cc nL D q) (hP : va_P D vwCl ws H) (hD : va_D A ws) (hS : va_S A H0 H locs) (i : Nat) (he : ws[i]? = some (oW h rr z)) {y : Int32} (hdg : decode cc pc = .ok (.putfield 13, 3)) (kk : ∀ (H1 : Heap) (locs1 : List Loc), va_P D vwCl (ws.set i (oW h rr (W_set_weight z y))) H1 → va_S A H0 H1 locs1 → W p l e R s m args below meth c H1 locs1 cells slots Q (F0 m (pc + 3) ls rest)) : W p l e R s m args below meth c H locs cells slots Q (F0 m pc ls (.int y :: .ref h :: rest)) :=
  va_put (D := D) (ci := 2) (v := .int y) (ty := .int) (C := RX2) (T := TX2) (N := 15) fx.1 fx.2.1 fx.2.2.2.2.1 inlX2 tyX2 tyX2_ok nmX2 fx.2.2.2.1 fx.2.2.2.2.2.1 hP hD hS i he rfl 3 (by decide) (fx.2.2.2.2.1 _ mm_34) (fun _ h9 => h9) rfl (by decide +kernel) rfl rfl (Nat.le_of_ble_eq_true rfl) hdg (fun H locs hP _ hS => kk H locs hP hS)
theorem pf_X2_17 {h rr : Nat} {z : WS} (fx : FX p s m args c RX2 cc nL D q) (hP : va_P D vwCl ws H) (hD : va_D A ws) (hS : va_S A H0 H locs) (i : Nat) (he : ws[i]? = some (oW h rr z)) {y : Int32} (hdg : decode cc pc = .ok (.putfield 17, 3)) (kk : ∀ (H1 : Heap) (locs1 : List Loc), va_P D vwCl (ws.set i (oW h rr (W_set_valveStrength z y))) H1 → va_S A H0 H1 locs1 → W p l e R s m args below meth c H1 locs1 cells slots Q (F0 m (pc + 3) ls rest)) : W p l e R s m args below meth c H locs cells slots Q (F0 m pc ls (.int y :: .ref h :: rest)) :=
  va_put (D := D) (ci := 2) (v := .int y) (ty := .int) (C := RX2) (T := TX2) (N := 15) fx.1 fx.2.1 fx.2.2.2.2.1 inlX2 tyX2 tyX2_ok nmX2 fx.2.2.2.1 fx.2.2.2.2.2.1 hP hD hS i he rfl 6 (by decide) (fx.2.2.2.2.1 _ mm_56) (fun _ h9 => h9) rfl (by decide +kernel) rfl rfl (Nat.le_of_ble_eq_true rfl) hdg (fun H locs hP _ hS => kk H locs hP hS)
theorem gf_X2_33 {h rr : Nat} {z : WS} (fx : FX p s m args c RX2 cc nL D q) (hP : va_P D vwCl ws H) (i : Nat) (he : ws[i]? = some (oW h rr z)) {v : Int32} (hv : W_hasBrokenSinceTest z = v) (hdg : decode cc pc = .ok (.getfield 33, 3)) (kk : W p l e R s m args below meth c H locs cells slots Q (F0 m (pc + 3) ls (.int v :: rest))) : W p l e R s m args below meth c H locs cells slots Q (F0 m pc ls (.ref h :: rest)) := by
  subst hv
  exact va_get (D := D) (ci := 2) (v := .int (W_hasBrokenSinceTest z)) (C := RX2) (T := TX2) (N := 15) fx.1 fx.2.1 fx.2.2.2.2.1 inlX2 fx.2.2.2.1 fx.2.2.2.2.2.1 hP i he rfl 7 (by decide) (fx.2.2.2.2.1 _ mm_57) (fun _ h9 => h9) rfl hdg kk
theorem gf_X3_21 {h rr hw ht tt : Nat} {z : XS} (fx : FX p s m args c RX3 cc nL D q) (hP : va_P D vwCl ws H) (i : Nat) (he : ws[i]? = some (oX h rr hw ht tt z)) (hdg : decode cc pc = .ok (.getfield 21, 3)) (kk : W p l e R s m args below meth c H locs cells slots Q (F0 m (pc + 3) ls (.ref hw :: rest))) : W p l e R s m args below meth c H locs cells slots Q (F0 m pc ls (.ref h :: rest)) :=
  va_get (D := D) (ci := 3) (v := .ref hw) (C := RX3) (T := TX3) (N := 8) fx.1 fx.2.1 fx.2.2.2.2.1 inlX3 fx.2.2.2.1 fx.2.2.2.2.2.1 hP i he rfl 1 (by decide) (fx.2.2.2.2.1 _ mm_106) (fun _ h9 => h9) rfl hdg kk
theorem gf_X3_151 {h rr : Nat} {z : WS} (fx : FX p s m args c RX3 cc nL D q) (hP : va_P D vwCl ws H) (i : Nat) (he : ws[i]? = some (oW h rr z)) {v : Int32} (hv : W_minutes z = v) (hdg : decode cc pc = .ok (.getfield 151, 3)) (kk : W p l e R s m args below meth c H locs cells slots Q (F0 m (pc + 3) ls (.int v :: rest))) : W p l e R s m args below meth c H locs cells slots Q (F0 m pc ls (.ref h :: rest)) := by
  subst hv
  exact va_getN (D := D) (ci := 2) (v := .int (W_minutes z)) (C := RX2) (T := TX2) (N := 15) fx.1 fx.2.1 fx.2.2.2.2.1 inlX2 fx.2.2.2.1 fx.2.2.2.2.2.1 hP i he rfl 14 (by decide) (va_Nw.use rfl (fx.2.2.2.2.2.2 _ nw_14)) (fun _ h9 => h9) rfl hdg kk
theorem gf_X3_10 {h rr hw ht tt : Nat} {z : XS} (fx : FX p s m args c RX3 cc nL D q) (hP : va_P D vwCl ws H) (i : Nat) (he : ws[i]? = some (oX h rr hw ht tt z)) (hdg : decode cc pc = .ok (.getfield 10, 3)) (kk : W p l e R s m args below meth c H locs cells slots Q (F0 m (pc + 3) ls (.ref rr :: rest))) : W p l e R s m args below meth c H locs cells slots Q (F0 m pc ls (.ref h :: rest)) :=
  va_get (D := D) (ci := 3) (v := .ref rr) (C := RX3) (T := TX3) (N := 8) fx.1 fx.2.1 fx.2.2.2.2.1 inlX3 fx.2.2.2.1 fx.2.2.2.2.2.1 hP i he rfl 0 (by decide) (fx.2.2.2.2.1 _ mm_111) (fun _ h9 => h9) rfl hdg kk
theorem gf_X3_55 {h rr : Nat} {z : WS} (fx : FX p s m args c RX3 cc nL D q) (hP : va_P D vwCl ws H) (i : Nat) (he : ws[i]? = some (oW h rr z)) {v : Int32} (hv : W_depth z = v) (hdg : decode cc pc = .ok (.getfield 55, 3)) (kk : W p l e R s m args below meth c H locs cells slots Q (F0 m (pc + 3) ls (.int v :: rest))) : W p l e R s m args below meth c H locs cells slots Q (F0 m pc ls (.ref h :: rest)) := by
  subst hv
  exact va_getN (D := D) (ci := 2) (v := .int (W_depth z)) (C := RX2) (T := TX2) (N := 15) fx.1 fx.2.1 fx.2.2.2.2.1 inlX2 fx.2.2.2.1 fx.2.2.2.2.2.1 hP i he rfl 1 (by decide) (va_Nw.use rfl (fx.2.2.2.2.2.2 _ nw_2)) (fun _ h9 => h9) rfl hdg kk
theorem gf_X3_31 {h rr hw ht tt : Nat} {z : XS} (fx : FX p s m args c RX3 cc nL D q) (hP : va_P D vwCl ws H) (i : Nat) (he : ws[i]? = some (oX h rr hw ht tt z)) (hdg : decode cc pc = .ok (.getfield 31, 3)) (kk : W p l e R s m args below meth c H locs cells slots Q (F0 m (pc + 3) ls (.ref tt :: rest))) : W p l e R s m args below meth c H locs cells slots Q (F0 m pc ls (.ref h :: rest)) :=
  va_get (D := D) (ci := 3) (v := .ref tt) (C := RX3) (T := TX3) (N := 8) fx.1 fx.2.1 fx.2.2.2.2.1 inlX3 fx.2.2.2.1 fx.2.2.2.2.2.1 hP i he rfl 3 (by decide) (fx.2.2.2.2.1 _ mm_112) (fun _ h9 => h9) rfl hdg kk
theorem gf_X3_264 {k : Nat → Nat} {z : TS} (fx : FX p s m args c RX3 cc nL D q) (hP : va_P D vwCl ws H) (i : Nat) (he : ws[i]? = some (oT k z)) {v : Int32} (hv : T_latestOfValve z = v) (hdg : decode cc pc = .ok (.getfield 264, 3)) (kk : W p l e R s m args below meth c H locs cells slots Q (F0 m (pc + 3) ls (.int v :: rest))) : W p l e R s m args below meth c H locs cells slots Q (F0 m pc ls (.ref (k 0) :: rest)) := by
  subst hv
  exact va_getN (D := D) (ci := 1) (v := .int (T_latestOfValve z)) (C := RX1) (T := TX1) (N := 7) fx.1 fx.2.1 fx.2.2.2.2.1 inlX1 fx.2.2.2.1 fx.2.2.2.2.2.1 hP i he rfl 5 (by decide) (va_Nw.use rfl (fx.2.2.2.2.2.2 _ nw_21)) (fun _ h9 => h9) rfl hdg kk
theorem gf_X3_234 {k : Nat → Nat} {z : TS} (fx : FX p s m args c RX3 cc nL D q) (hP : va_P D vwCl ws H) (i : Nat) (he : ws[i]? = some (oT k z)) (hdg : decode cc pc = .ok (.getfield 234, 3)) (kk : W p l e R s m args below meth c H locs cells slots Q (F0 m (pc + 3) ls (.ref (k 4) :: rest))) : W p l e R s m args below meth c H locs cells slots Q (F0 m pc ls (.ref (k 0) :: rest)) :=
  va_getN (D := D) (ci := 1) (v := .ref (k 4)) (C := RX1) (T := TX1) (N := 7) fx.1 fx.2.1 fx.2.2.2.2.1 inlX1 fx.2.2.2.1 fx.2.2.2.2.2.1 hP i he rfl 3 (by decide) (va_Nw.use rfl (fx.2.2.2.2.2.2 _ nw_19)) (fun _ h9 => h9) rfl hdg kk
theorem gf_X3_158 {h rr : Nat} {z : WS} (fx : FX p s m args c RX3 cc nL D q) (hP : va_P D vwCl ws H) (i : Nat) (he : ws[i]? = some (oW h rr z)) {v : Int32} (hv : W_hasBrokenSinceTest z = v) (hdg : decode cc pc = .ok (.getfield 158, 3)) (kk : W p l e R s m args below meth c H locs cells slots Q (F0 m (pc + 3) ls (.int v :: rest))) : W p l e R s m args below meth c H locs cells slots Q (F0 m pc ls (.ref h :: rest)) := by
  subst hv
  exact va_getN (D := D) (ci := 2) (v := .int (W_hasBrokenSinceTest z)) (C := RX2) (T := TX2) (N := 15) fx.1 fx.2.1 fx.2.2.2.2.1 inlX2 fx.2.2.2.1 fx.2.2.2.2.2.1 hP i he rfl 7 (by decide) (va_Nw.use rfl (fx.2.2.2.2.2.2 _ nw_8)) (fun _ h9 => h9) rfl hdg kk
theorem gf_X3_123 {h rr : Nat} {z : WS} (fx : FX p s m args c RX3 cc nL D q) (hP : va_P D vwCl ws H) (i : Nat) (he : ws[i]? = some (oW h rr z)) {v : Int32} (hv : W_shoe z = v) (hdg : decode cc pc = .ok (.getfield 123, 3)) (kk : W p l e R s m args below meth c H locs cells slots Q (F0 m (pc + 3) ls (.int v :: rest))) : W p l e R s m args below meth c H locs cells slots Q (F0 m pc ls (.ref h :: rest)) := by
  subst hv
  exact va_getN (D := D) (ci := 2) (v := .int (W_shoe z)) (C := RX2) (T := TX2) (N := 15) fx.1 fx.2.1 fx.2.2.2.2.1 inlX2 fx.2.2.2.1 fx.2.2.2.2.2.1 hP i he rfl 2 (by decide) (va_Nw.use rfl (fx.2.2.2.2.2.2 _ nw_3)) (fun _ h9 => h9) rfl hdg kk
theorem gf_X3_135 {k : Nat → Nat} {z : TS} (fx : FX p s m args c RX3 cc nL D q) (hP : va_P D vwCl ws H) (i : Nat) (he : ws[i]? = some (oT k z)) {v : Int32} (hv : T_latestOfCement z = v) (hdg : decode cc pc = .ok (.getfield 135, 3)) (kk : W p l e R s m args below meth c H locs cells slots Q (F0 m (pc + 3) ls (.int v :: rest))) : W p l e R s m args below meth c H locs cells slots Q (F0 m pc ls (.ref (k 0) :: rest)) := by
  subst hv
  exact va_getN (D := D) (ci := 1) (v := .int (T_latestOfCement z)) (C := RX1) (T := TX1) (N := 7) fx.1 fx.2.1 fx.2.2.2.2.1 inlX1 fx.2.2.2.1 fx.2.2.2.2.2.1 hP i he rfl 6 (by decide) (va_Nw.use rfl (fx.2.2.2.2.2.2 _ nw_22)) (fun _ h9 => h9) rfl hdg kk
theorem gf_X3_163 {h rr hw ht tt : Nat} {z : XS} (fx : FX p s m args c RX3 cc nL D q) (hP : va_P D vwCl ws H) (i : Nat) (he : ws[i]? = some (oX h rr hw ht tt z)) {v : Int32} (hv : X_stops z = v) (hdg : decode cc pc = .ok (.getfield 163, 3)) (kk : W p l e R s m args below meth c H locs cells slots Q (F0 m (pc + 3) ls (.int v :: rest))) : W p l e R s m args below meth c H locs cells slots Q (F0 m pc ls (.ref h :: rest)) := by
  subst hv
  exact va_get (D := D) (ci := 3) (v := .int (X_stops z)) (C := RX3) (T := TX3) (N := 8) fx.1 fx.2.1 fx.2.2.2.2.1 inlX3 fx.2.2.2.1 fx.2.2.2.2.2.1 hP i he rfl 4 (by decide) (fx.2.2.2.2.1 _ mm_133) (fun _ h9 => h9) rfl hdg kk
theorem gf_X3_69 {h rr : Nat} {z : WS} (fx : FX p s m args c RX3 cc nL D q) (hP : va_P D vwCl ws H) (i : Nat) (he : ws[i]? = some (oW h rr z)) {v : Int32} (hv : W_isClosed z = v) (hdg : decode cc pc = .ok (.getfield 69, 3)) (kk : W p l e R s m args below meth c H locs cells slots Q (F0 m (pc + 3) ls (.int v :: rest))) : W p l e R s m args below meth c H locs cells slots Q (F0 m pc ls (.ref h :: rest)) := by
  subst hv
  exact va_getN (D := D) (ci := 2) (v := .int (W_isClosed z)) (C := RX2) (T := TX2) (N := 15) fx.1 fx.2.1 fx.2.2.2.2.1 inlX2 fx.2.2.2.1 fx.2.2.2.2.2.1 hP i he rfl 4 (by decide) (va_Nw.use rfl (fx.2.2.2.2.2.2 _ nw_5)) (fun _ h9 => h9) rfl hdg kk
theorem gf_X3_78 {h rr hw ht tt : Nat} {z : XS} (fx : FX p s m args c RX3 cc nL D q) (hP : va_P D vwCl ws H) (i : Nat) (he : ws[i]? = some (oX h rr hw ht tt z)) {v : Int32} (hv : X_pumped z = v) (hdg : decode cc pc = .ok (.getfield 78, 3)) (kk : W p l e R s m args below meth c H locs cells slots Q (F0 m (pc + 3) ls (.int v :: rest))) : W p l e R s m args below meth c H locs cells slots Q (F0 m pc ls (.ref h :: rest)) := by
  subst hv
  exact va_get (D := D) (ci := 3) (v := .int (X_pumped z)) (C := RX3) (T := TX3) (N := 8) fx.1 fx.2.1 fx.2.2.2.2.1 inlX3 fx.2.2.2.1 fx.2.2.2.2.2.1 hP i he rfl 5 (by decide) (fx.2.2.2.2.1 _ mm_142) (fun _ h9 => h9) rfl hdg kk
theorem pf_X3_78 {h rr hw ht tt : Nat} {z : XS} (fx : FX p s m args c RX3 cc nL D q) (hP : va_P D vwCl ws H) (hD : va_D A ws) (hS : va_S A H0 H locs) (i : Nat) (he : ws[i]? = some (oX h rr hw ht tt z)) {y : Int32} (hdg : decode cc pc = .ok (.putfield 78, 3)) (kk : ∀ (H1 : Heap) (locs1 : List Loc), va_P D vwCl (ws.set i (oX h rr hw ht tt (X_set_pumped z y))) H1 → va_S A H0 H1 locs1 → W p l e R s m args below meth c H1 locs1 cells slots Q (F0 m (pc + 3) ls rest)) : W p l e R s m args below meth c H locs cells slots Q (F0 m pc ls (.int y :: .ref h :: rest)) :=
  va_put (D := D) (ci := 3) (v := .int y) (ty := .int) (C := RX3) (T := TX3) (N := 8) fx.1 fx.2.1 fx.2.2.2.2.1 inlX3 tyX3 tyX3_ok nmX3 fx.2.2.2.1 fx.2.2.2.2.2.1 hP hD hS i he rfl 5 (by decide) (fx.2.2.2.2.1 _ mm_142) (fun _ h9 => h9) rfl (by decide +kernel) rfl rfl (Nat.le_of_ble_eq_true rfl) hdg (fun H locs hP _ hS => kk H locs hP hS)
theorem pf_X3_75 {h rr : Nat} {z : WS} (fx : FX p s m args c RX3 cc nL D q) (hP : va_P D vwCl ws H) (hD : va_D A ws) (hS : va_S A H0 H locs) (i : Nat) (he : ws[i]? = some (oW h rr z)) {y : Int32} (hdg : decode cc pc = .ok (.putfield 75, 3)) (kk : ∀ (H1 : Heap) (locs1 : List Loc), va_P D vwCl (ws.set i (oW h rr (W_set_weight z y))) H1 → va_S A H0 H1 locs1 → W p l e R s m args below meth c H1 locs1 cells slots Q (F0 m (pc + 3) ls rest)) : W p l e R s m args below meth c H locs cells slots Q (F0 m pc ls (.int y :: .ref h :: rest)) :=
  va_putN (D := D) (ci := 2) (v := .int y) (ty := .int) (C := RX2) (T := TX2) (N := 15) fx.1 fx.2.1 fx.2.2.2.2.1 inlX2 tyX2 tyX2_ok nmX2 fx.2.2.2.1 fx.2.2.2.2.2.1 hP hD hS i he rfl 3 (by decide) (va_Nw.use rfl (fx.2.2.2.2.2.2 _ nw_4)) (fun _ h9 => h9) rfl (by decide +kernel) rfl rfl (Nat.le_of_ble_eq_true rfl) hdg (fun H locs hP _ hS => kk H locs hP hS)
theorem pf_X3_118 {h rr : Nat} {z : WS} (fx : FX p s m args c RX3 cc nL D q) (hP : va_P D vwCl ws H) (hD : va_D A ws) (hS : va_S A H0 H locs) (i : Nat) (he : ws[i]? = some (oW h rr z)) {y : Int32} (hdg : decode cc pc = .ok (.putfield 118, 3)) (kk : ∀ (H1 : Heap) (locs1 : List Loc), va_P D vwCl (ws.set i (oW h rr (W_set_liquid z y))) H1 → va_S A H0 H1 locs1 → W p l e R s m args below meth c H1 locs1 cells slots Q (F0 m (pc + 3) ls rest)) : W p l e R s m args below meth c H locs cells slots Q (F0 m pc ls (.int y :: .ref h :: rest)) :=
  va_putN (D := D) (ci := 2) (v := .int y) (ty := .int) (C := RX2) (T := TX2) (N := 15) fx.1 fx.2.1 fx.2.2.2.2.1 inlX2 tyX2 tyX2_ok nmX2 fx.2.2.2.1 fx.2.2.2.2.2.1 hP hD hS i he rfl 11 (by decide) (va_Nw.use rfl (fx.2.2.2.2.2.2 _ nw_11)) (fun _ h9 => h9) rfl (by decide +kernel) rfl rfl (Nat.le_of_ble_eq_true rfl) hdg (fun H locs hP _ hS => kk H locs hP hS)
theorem gf_X4_52 {k : Nat → Nat} {z : MS} (fx : FX p s m args c RX4 cc nL D q) (hP : va_P D vwCl ws H) (i : Nat) (he : ws[i]? = some (oM k z)) {v : Int32} (hv : M_thrown z = v) (hdg : decode cc pc = .ok (.getfield 52, 3)) (kk : W p l e R s m args below meth c H locs cells slots Q (F0 m (pc + 3) ls (.int v :: rest))) : W p l e R s m args below meth c H locs cells slots Q (F0 m pc ls (.ref (k 0) :: rest)) := by
  subst hv
  exact va_get (D := D) (ci := 4) (v := .int (M_thrown z)) (C := RX4) (T := TX4) (N := 31) fx.1 fx.2.1 fx.2.2.2.2.1 inlX4 fx.2.2.2.1 fx.2.2.2.2.2.1 hP i he rfl 0 (by decide) (fx.2.2.2.2.1 _ mm_143) (fun _ h9 => h9) rfl hdg kk
theorem pf_X4_52 {k : Nat → Nat} {z : MS} (fx : FX p s m args c RX4 cc nL D q) (hP : va_P D vwCl ws H) (hD : va_D A ws) (hS : va_S A H0 H locs) (i : Nat) (he : ws[i]? = some (oM k z)) {y : Int32} (hdg : decode cc pc = .ok (.putfield 52, 3)) (kk : ∀ (H1 : Heap) (locs1 : List Loc), va_P D vwCl (ws.set i (oM k (M_set_thrown z y))) H1 → va_S A H0 H1 locs1 → W p l e R s m args below meth c H1 locs1 cells slots Q (F0 m (pc + 3) ls rest)) : W p l e R s m args below meth c H locs cells slots Q (F0 m pc ls (.int y :: .ref (k 0) :: rest)) :=
  va_put (D := D) (ci := 4) (v := .int y) (ty := .int) (C := RX4) (T := TX4) (N := 31) fx.1 fx.2.1 fx.2.2.2.2.1 inlX4 tyX4 tyX4_ok nmX4 fx.2.2.2.1 fx.2.2.2.2.2.1 hP hD hS i he rfl 0 (by decide) (fx.2.2.2.2.1 _ mm_143) (fun _ h9 => h9) rfl (by decide +kernel) rfl rfl (Nat.le_of_ble_eq_true rfl) hdg (fun H locs hP _ hS => kk H locs hP hS)
theorem gf_X4_7 {k : Nat → Nat} {z : MS} (fx : FX p s m args c RX4 cc nL D q) (hP : va_P D vwCl ws H) (i : Nat) (he : ws[i]? = some (oM k z)) (hdg : decode cc pc = .ok (.getfield 7, 3)) (kk : W p l e R s m args below meth c H locs cells slots Q (F0 m (pc + 3) ls (.ref (k 1) :: rest))) : W p l e R s m args below meth c H locs cells slots Q (F0 m pc ls (.ref (k 0) :: rest)) :=
  va_get (D := D) (ci := 4) (v := .ref (k 1)) (C := RX4) (T := TX4) (N := 31) fx.1 fx.2.1 fx.2.2.2.2.1 inlX4 fx.2.2.2.1 fx.2.2.2.2.2.1 hP i he rfl 1 (by decide) (fx.2.2.2.2.1 _ mm_144) (fun _ h9 => h9) rfl hdg kk
theorem gf_X4_13 {k : Nat → Nat} {z : MS} (fx : FX p s m args c RX4 cc nL D q) (hP : va_P D vwCl ws H) (i : Nat) (he : ws[i]? = some (oM k z)) (hdg : decode cc pc = .ok (.getfield 13, 3)) (kk : W p l e R s m args below meth c H locs cells slots Q (F0 m (pc + 3) ls (.ref (k 2) :: rest))) : W p l e R s m args below meth c H locs cells slots Q (F0 m pc ls (.ref (k 0) :: rest)) :=
  va_get (D := D) (ci := 4) (v := .ref (k 2)) (C := RX4) (T := TX4) (N := 31) fx.1 fx.2.1 fx.2.2.2.2.1 inlX4 fx.2.2.2.1 fx.2.2.2.2.2.1 hP i he rfl 2 (by decide) (fx.2.2.2.2.1 _ mm_149) (fun _ h9 => h9) rfl hdg kk
theorem gf_X4_63 {k : Nat → Nat} {z : MS} (fx : FX p s m args c RX4 cc nL D q) (hP : va_P D vwCl ws H) (i : Nat) (he : ws[i]? = some (oM k z)) {v : Int32} (hv : M_depth z = v) (hdg : decode cc pc = .ok (.getfield 63, 3)) (kk : W p l e R s m args below meth c H locs cells slots Q (F0 m (pc + 3) ls (.int v :: rest))) : W p l e R s m args below meth c H locs cells slots Q (F0 m pc ls (.ref (k 0) :: rest)) := by
  subst hv
  exact va_get (D := D) (ci := 4) (v := .int (M_depth z)) (C := RX4) (T := TX4) (N := 31) fx.1 fx.2.1 fx.2.2.2.2.1 inlX4 fx.2.2.2.1 fx.2.2.2.2.2.1 hP i he rfl 5 (by decide) (fx.2.2.2.2.1 _ mm_153) (fun _ h9 => h9) rfl hdg kk
theorem gf_X4_16 {k : Nat → Nat} {z : MS} (fx : FX p s m args c RX4 cc nL D q) (hP : va_P D vwCl ws H) (i : Nat) (he : ws[i]? = some (oM k z)) (hdg : decode cc pc = .ok (.getfield 16, 3)) (kk : W p l e R s m args below meth c H locs cells slots Q (F0 m (pc + 3) ls (.ref (k 3) :: rest))) : W p l e R s m args below meth c H locs cells slots Q (F0 m pc ls (.ref (k 0) :: rest)) :=
  va_get (D := D) (ci := 4) (v := .ref (k 3)) (C := RX4) (T := TX4) (N := 31) fx.1 fx.2.1 fx.2.2.2.2.1 inlX4 fx.2.2.2.1 fx.2.2.2.2.2.1 hP i he rfl 3 (by decide) (fx.2.2.2.2.1 _ mm_158) (fun _ h9 => h9) rfl hdg kk
theorem gf_X4_19 {k : Nat → Nat} {z : MS} (fx : FX p s m args c RX4 cc nL D q) (hP : va_P D vwCl ws H) (i : Nat) (he : ws[i]? = some (oM k z)) (hdg : decode cc pc = .ok (.getfield 19, 3)) (kk : W p l e R s m args below meth c H locs cells slots Q (F0 m (pc + 3) ls (.ref (k 4) :: rest))) : W p l e R s m args below meth c H locs cells slots Q (F0 m pc ls (.ref (k 0) :: rest)) :=
  va_get (D := D) (ci := 4) (v := .ref (k 4)) (C := RX4) (T := TX4) (N := 31) fx.1 fx.2.1 fx.2.2.2.2.1 inlX4 fx.2.2.2.1 fx.2.2.2.2.2.1 hP i he rfl 4 (by decide) (fx.2.2.2.2.1 _ mm_159) (fun _ h9 => h9) rfl hdg kk
theorem gf_X4_70 {k : Nat → Nat} {z : MS} (fx : FX p s m args c RX4 cc nL D q) (hP : va_P D vwCl ws H) (i : Nat) (he : ws[i]? = some (oM k z)) {v : Int32} (hv : M_isClosed z = v) (hdg : decode cc pc = .ok (.getfield 70, 3)) (kk : W p l e R s m args below meth c H locs cells slots Q (F0 m (pc + 3) ls (.int v :: rest))) : W p l e R s m args below meth c H locs cells slots Q (F0 m pc ls (.ref (k 0) :: rest)) := by
  subst hv
  exact va_get (D := D) (ci := 4) (v := .int (M_isClosed z)) (C := RX4) (T := TX4) (N := 31) fx.1 fx.2.1 fx.2.2.2.2.1 inlX4 fx.2.2.2.1 fx.2.2.2.2.2.1 hP i he rfl 8 (by decide) (fx.2.2.2.2.1 _ mm_160) (fun _ h9 => h9) rfl hdg kk
theorem gf_X4_23 {k : Nat → Nat} {z : MS} (fx : FX p s m args c RX4 cc nL D q) (hP : va_P D vwCl ws H) (i : Nat) (he : ws[i]? = some (oM k z)) {v : Int32} (hv : M_weight z = v) (hdg : decode cc pc = .ok (.getfield 23, 3)) (kk : W p l e R s m args below meth c H locs cells slots Q (F0 m (pc + 3) ls (.int v :: rest))) : W p l e R s m args below meth c H locs cells slots Q (F0 m pc ls (.ref (k 0) :: rest)) := by
  subst hv
  exact va_get (D := D) (ci := 4) (v := .int (M_weight z)) (C := RX4) (T := TX4) (N := 31) fx.1 fx.2.1 fx.2.2.2.2.1 inlX4 fx.2.2.2.1 fx.2.2.2.2.2.1 hP i he rfl 7 (by decide) (fx.2.2.2.2.1 _ mm_161) (fun _ h9 => h9) rfl hdg kk
theorem pf_X4_23 {k : Nat → Nat} {z : MS} (fx : FX p s m args c RX4 cc nL D q) (hP : va_P D vwCl ws H) (hD : va_D A ws) (hS : va_S A H0 H locs) (i : Nat) (he : ws[i]? = some (oM k z)) {y : Int32} (hdg : decode cc pc = .ok (.putfield 23, 3)) (kk : ∀ (H1 : Heap) (locs1 : List Loc), va_P D vwCl (ws.set i (oM k (M_set_weight z y))) H1 → va_S A H0 H1 locs1 → W p l e R s m args below meth c H1 locs1 cells slots Q (F0 m (pc + 3) ls rest)) : W p l e R s m args below meth c H locs cells slots Q (F0 m pc ls (.int y :: .ref (k 0) :: rest)) :=
  va_put (D := D) (ci := 4) (v := .int y) (ty := .int) (C := RX4) (T := TX4) (N := 31) fx.1 fx.2.1 fx.2.2.2.2.1 inlX4 tyX4 tyX4_ok nmX4 fx.2.2.2.1 fx.2.2.2.2.2.1 hP hD hS i he rfl 7 (by decide) (fx.2.2.2.2.1 _ mm_161) (fun _ h9 => h9) rfl (by decide +kernel) rfl rfl (Nat.le_of_ble_eq_true rfl) hdg (fun H locs hP _ hS => kk H locs hP hS)
theorem pf_X4_74 {k : Nat → Nat} {z : MS} (fx : FX p s m args c RX4 cc nL D q) (hP : va_P D vwCl ws H) (hD : va_D A ws) (hS : va_S A H0 H locs) (i : Nat) (he : ws[i]? = some (oM k z)) {y : Int32} (hdg : decode cc pc = .ok (.putfield 74, 3)) (kk : ∀ (H1 : Heap) (locs1 : List Loc), va_P D vwCl (ws.set i (oM k (M_set_pumped z y))) H1 → va_S A H0 H1 locs1 → W p l e R s m args below meth c H1 locs1 cells slots Q (F0 m (pc + 3) ls rest)) : W p l e R s m args below meth c H locs cells slots Q (F0 m pc ls (.int y :: .ref (k 0) :: rest)) :=
  va_put (D := D) (ci := 4) (v := .int y) (ty := .int) (C := RX4) (T := TX4) (N := 31) fx.1 fx.2.1 fx.2.2.2.2.1 inlX4 tyX4 tyX4_ok nmX4 fx.2.2.2.1 fx.2.2.2.2.2.1 hP hD hS i he rfl 17 (by decide) (fx.2.2.2.2.1 _ mm_162) (fun _ h9 => h9) rfl (by decide +kernel) rfl rfl (Nat.le_of_ble_eq_true rfl) hdg (fun H locs hP _ hS => kk H locs hP hS)
theorem gf_X4_77 {k : Nat → Nat} {z : MS} (fx : FX p s m args c RX4 cc nL D q) (hP : va_P D vwCl ws H) (i : Nat) (he : ws[i]? = some (oM k z)) {v : Int32} (hv : M_gas z = v) (hdg : decode cc pc = .ok (.getfield 77, 3)) (kk : W p l e R s m args below meth c H locs cells slots Q (F0 m (pc + 3) ls (.int v :: rest))) : W p l e R s m args below meth c H locs cells slots Q (F0 m pc ls (.ref (k 0) :: rest)) := by
  subst hv
  exact va_get (D := D) (ci := 4) (v := .int (M_gas z)) (C := RX4) (T := TX4) (N := 31) fx.1 fx.2.1 fx.2.2.2.2.1 inlX4 fx.2.2.2.1 fx.2.2.2.2.2.1 hP i he rfl 12 (by decide) (fx.2.2.2.2.1 _ mm_163) (fun _ h9 => h9) rfl hdg kk
theorem gf_X4_80 {k : Nat → Nat} {z : MS} (fx : FX p s m args c RX4 cc nL D q) (hP : va_P D vwCl ws H) (i : Nat) (he : ws[i]? = some (oM k z)) {v : Int32} (hv : M_liquid z = v) (hdg : decode cc pc = .ok (.getfield 80, 3)) (kk : W p l e R s m args below meth c H locs cells slots Q (F0 m (pc + 3) ls (.int v :: rest))) : W p l e R s m args below meth c H locs cells slots Q (F0 m pc ls (.ref (k 0) :: rest)) := by
  subst hv
  exact va_get (D := D) (ci := 4) (v := .int (M_liquid z)) (C := RX4) (T := TX4) (N := 31) fx.1 fx.2.1 fx.2.2.2.2.1 inlX4 fx.2.2.2.1 fx.2.2.2.2.2.1 hP i he rfl 13 (by decide) (fx.2.2.2.2.1 _ mm_164) (fun _ h9 => h9) rfl hdg kk
theorem gf_X4_87 {k : Nat → Nat} {z : MS} (fx : FX p s m args c RX4 cc nL D q) (hP : va_P D vwCl ws H) (i : Nat) (he : ws[i]? = some (oM k z)) {v : Int32} (hv : M_choke z = v) (hdg : decode cc pc = .ok (.getfield 87, 3)) (kk : W p l e R s m args below meth c H locs cells slots Q (F0 m (pc + 3) ls (.int v :: rest))) : W p l e R s m args below meth c H locs cells slots Q (F0 m pc ls (.ref (k 0) :: rest)) := by
  subst hv
  exact va_get (D := D) (ci := 4) (v := .int (M_choke z)) (C := RX4) (T := TX4) (N := 31) fx.1 fx.2.1 fx.2.2.2.2.1 inlX4 fx.2.2.2.1 fx.2.2.2.2.2.1 hP i he rfl 9 (by decide) (fx.2.2.2.2.1 _ mm_169) (fun _ h9 => h9) rfl hdg kk
theorem gf_X4_90 {k : Nat → Nat} {z : MS} (fx : FX p s m args c RX4 cc nL D q) (hP : va_P D vwCl ws H) (i : Nat) (he : ws[i]? = some (oM k z)) {v : Int32} (hv : M_place z = v) (hdg : decode cc pc = .ok (.getfield 90, 3)) (kk : W p l e R s m args below meth c H locs cells slots Q (F0 m (pc + 3) ls (.int v :: rest))) : W p l e R s m args below meth c H locs cells slots Q (F0 m pc ls (.ref (k 0) :: rest)) := by
  subst hv
  exact va_get (D := D) (ci := 4) (v := .int (M_place z)) (C := RX4) (T := TX4) (N := 31) fx.1 fx.2.1 fx.2.2.2.2.1 inlX4 fx.2.2.2.1 fx.2.2.2.2.2.1 hP i he rfl 11 (by decide) (fx.2.2.2.2.1 _ mm_170) (fun _ h9 => h9) rfl hdg kk
theorem gf_X4_93 {k : Nat → Nat} {z : MS} (fx : FX p s m args c RX4 cc nL D q) (hP : va_P D vwCl ws H) (i : Nat) (he : ws[i]? = some (oM k z)) {v : Int32} (hv : M_shoe z = v) (hdg : decode cc pc = .ok (.getfield 93, 3)) (kk : W p l e R s m args below meth c H locs cells slots Q (F0 m (pc + 3) ls (.int v :: rest))) : W p l e R s m args below meth c H locs cells slots Q (F0 m pc ls (.ref (k 0) :: rest)) := by
  subst hv
  exact va_get (D := D) (ci := 4) (v := .int (M_shoe z)) (C := RX4) (T := TX4) (N := 31) fx.1 fx.2.1 fx.2.2.2.2.1 inlX4 fx.2.2.2.1 fx.2.2.2.2.2.1 hP i he rfl 6 (by decide) (fx.2.2.2.2.1 _ mm_171) (fun _ h9 => h9) rfl hdg kk
theorem gf_X4_96 {k : Nat → Nat} {z : MS} (fx : FX p s m args c RX4 cc nL D q) (hP : va_P D vwCl ws H) (i : Nat) (he : ws[i]? = some (oM k z)) {v : Int64} (hv : M_charge z = v) (hdg : decode cc pc = .ok (.getfield 96, 3)) (kk : W p l e R s m args below meth c H locs cells slots Q (F0 m (pc + 3) ls (.long v :: rest))) : W p l e R s m args below meth c H locs cells slots Q (F0 m pc ls (.ref (k 0) :: rest)) := by
  subst hv
  exact va_get (D := D) (ci := 4) (v := .long (M_charge z)) (C := RX4) (T := TX4) (N := 31) fx.1 fx.2.1 fx.2.2.2.2.1 inlX4 fx.2.2.2.1 fx.2.2.2.2.2.1 hP i he rfl 10 (by decide) (fx.2.2.2.2.1 _ mm_172) (fun _ h9 => h9) rfl hdg kk
theorem pf_X4_77 {k : Nat → Nat} {z : MS} (fx : FX p s m args c RX4 cc nL D q) (hP : va_P D vwCl ws H) (hD : va_D A ws) (hS : va_S A H0 H locs) (i : Nat) (he : ws[i]? = some (oM k z)) {y : Int32} (hdg : decode cc pc = .ok (.putfield 77, 3)) (kk : ∀ (H1 : Heap) (locs1 : List Loc), va_P D vwCl (ws.set i (oM k (M_set_gas z y))) H1 → va_S A H0 H1 locs1 → W p l e R s m args below meth c H1 locs1 cells slots Q (F0 m (pc + 3) ls rest)) : W p l e R s m args below meth c H locs cells slots Q (F0 m pc ls (.int y :: .ref (k 0) :: rest)) :=
  va_put (D := D) (ci := 4) (v := .int y) (ty := .int) (C := RX4) (T := TX4) (N := 31) fx.1 fx.2.1 fx.2.2.2.2.1 inlX4 tyX4 tyX4_ok nmX4 fx.2.2.2.1 fx.2.2.2.2.2.1 hP hD hS i he rfl 12 (by decide) (fx.2.2.2.2.1 _ mm_163) (fun _ h9 => h9) rfl (by decide +kernel) rfl rfl (Nat.le_of_ble_eq_true rfl) hdg (fun H locs hP _ hS => kk H locs hP hS)
theorem pf_X4_90 {k : Nat → Nat} {z : MS} (fx : FX p s m args c RX4 cc nL D q) (hP : va_P D vwCl ws H) (hD : va_D A ws) (hS : va_S A H0 H locs) (i : Nat) (he : ws[i]? = some (oM k z)) {y : Int32} (hdg : decode cc pc = .ok (.putfield 90, 3)) (kk : ∀ (H1 : Heap) (locs1 : List Loc), va_P D vwCl (ws.set i (oM k (M_set_place z y))) H1 → va_S A H0 H1 locs1 → W p l e R s m args below meth c H1 locs1 cells slots Q (F0 m (pc + 3) ls rest)) : W p l e R s m args below meth c H locs cells slots Q (F0 m pc ls (.int y :: .ref (k 0) :: rest)) :=
  va_put (D := D) (ci := 4) (v := .int y) (ty := .int) (C := RX4) (T := TX4) (N := 31) fx.1 fx.2.1 fx.2.2.2.2.1 inlX4 tyX4 tyX4_ok nmX4 fx.2.2.2.1 fx.2.2.2.2.2.1 hP hD hS i he rfl 11 (by decide) (fx.2.2.2.2.1 _ mm_170) (fun _ h9 => h9) rfl (by decide +kernel) rfl rfl (Nat.le_of_ble_eq_true rfl) hdg (fun H locs hP _ hS => kk H locs hP hS)
theorem gf_X4_103 {k : Nat → Nat} {z : MS} (fx : FX p s m args c RX4 cc nL D q) (hP : va_P D vwCl ws H) (i : Nat) (he : ws[i]? = some (oM k z)) {v : Int64} (hv : M_vented z = v) (hdg : decode cc pc = .ok (.getfield 103, 3)) (kk : W p l e R s m args below meth c H locs cells slots Q (F0 m (pc + 3) ls (.long v :: rest))) : W p l e R s m args below meth c H locs cells slots Q (F0 m pc ls (.ref (k 0) :: rest)) := by
  subst hv
  exact va_get (D := D) (ci := 4) (v := .long (M_vented z)) (C := RX4) (T := TX4) (N := 31) fx.1 fx.2.1 fx.2.2.2.2.1 inlX4 fx.2.2.2.1 fx.2.2.2.2.2.1 hP i he rfl 15 (by decide) (fx.2.2.2.2.1 _ mm_177) (fun _ h9 => h9) rfl hdg kk
theorem pf_X4_103 {k : Nat → Nat} {z : MS} (fx : FX p s m args c RX4 cc nL D q) (hP : va_P D vwCl ws H) (hD : va_D A ws) (hS : va_S A H0 H locs) (i : Nat) (he : ws[i]? = some (oM k z)) {y : Int64} (hdg : decode cc pc = .ok (.putfield 103, 3)) (kk : ∀ (H1 : Heap) (locs1 : List Loc), va_P D vwCl (ws.set i (oM k (M_set_vented z y))) H1 → va_S A H0 H1 locs1 → W p l e R s m args below meth c H1 locs1 cells slots Q (F0 m (pc + 3) ls rest)) : W p l e R s m args below meth c H locs cells slots Q (F0 m pc ls (.long y :: .ref (k 0) :: rest)) :=
  va_put (D := D) (ci := 4) (v := .long y) (ty := .long) (C := RX4) (T := TX4) (N := 31) fx.1 fx.2.1 fx.2.2.2.2.1 inlX4 tyX4 tyX4_ok nmX4 fx.2.2.2.1 fx.2.2.2.2.2.1 hP hD hS i he rfl 15 (by decide) (fx.2.2.2.2.1 _ mm_177) (fun _ h9 => h9) rfl (by decide +kernel) rfl rfl (Nat.le_of_ble_eq_true rfl) hdg (fun H locs hP _ hS => kk H locs hP hS)
theorem pf_X4_96 {k : Nat → Nat} {z : MS} (fx : FX p s m args c RX4 cc nL D q) (hP : va_P D vwCl ws H) (hD : va_D A ws) (hS : va_S A H0 H locs) (i : Nat) (he : ws[i]? = some (oM k z)) {y : Int64} (hdg : decode cc pc = .ok (.putfield 96, 3)) (kk : ∀ (H1 : Heap) (locs1 : List Loc), va_P D vwCl (ws.set i (oM k (M_set_charge z y))) H1 → va_S A H0 H1 locs1 → W p l e R s m args below meth c H1 locs1 cells slots Q (F0 m (pc + 3) ls rest)) : W p l e R s m args below meth c H locs cells slots Q (F0 m pc ls (.long y :: .ref (k 0) :: rest)) :=
  va_put (D := D) (ci := 4) (v := .long y) (ty := .long) (C := RX4) (T := TX4) (N := 31) fx.1 fx.2.1 fx.2.2.2.2.1 inlX4 tyX4 tyX4_ok nmX4 fx.2.2.2.1 fx.2.2.2.2.2.1 hP hD hS i he rfl 10 (by decide) (fx.2.2.2.2.1 _ mm_172) (fun _ h9 => h9) rfl (by decide +kernel) rfl rfl (Nat.le_of_ble_eq_true rfl) hdg (fun H locs hP _ hS => kk H locs hP hS)
theorem pf_X4_87 {k : Nat → Nat} {z : MS} (fx : FX p s m args c RX4 cc nL D q) (hP : va_P D vwCl ws H) (hD : va_D A ws) (hS : va_S A H0 H locs) (i : Nat) (he : ws[i]? = some (oM k z)) {y : Int32} (hdg : decode cc pc = .ok (.putfield 87, 3)) (kk : ∀ (H1 : Heap) (locs1 : List Loc), va_P D vwCl (ws.set i (oM k (M_set_choke z y))) H1 → va_S A H0 H1 locs1 → W p l e R s m args below meth c H1 locs1 cells slots Q (F0 m (pc + 3) ls rest)) : W p l e R s m args below meth c H locs cells slots Q (F0 m pc ls (.int y :: .ref (k 0) :: rest)) :=
  va_put (D := D) (ci := 4) (v := .int y) (ty := .int) (C := RX4) (T := TX4) (N := 31) fx.1 fx.2.1 fx.2.2.2.2.1 inlX4 tyX4 tyX4_ok nmX4 fx.2.2.2.1 fx.2.2.2.2.2.1 hP hD hS i he rfl 9 (by decide) (fx.2.2.2.2.1 _ mm_169) (fun _ h9 => h9) rfl (by decide +kernel) rfl rfl (Nat.le_of_ble_eq_true rfl) hdg (fun H locs hP _ hS => kk H locs hP hS)
theorem gf_X4_30 {k : Nat → Nat} {z : MS} (fx : FX p s m args c RX4 cc nL D q) (hP : va_P D vwCl ws H) (i : Nat) (he : ws[i]? = some (oM k z)) {v : Int32} (hv : M_valve z = v) (hdg : decode cc pc = .ok (.getfield 30, 3)) (kk : W p l e R s m args below meth c H locs cells slots Q (F0 m (pc + 3) ls (.int v :: rest))) : W p l e R s m args below meth c H locs cells slots Q (F0 m pc ls (.ref (k 0) :: rest)) := by
  subst hv
  exact va_get (D := D) (ci := 4) (v := .int (M_valve z)) (C := RX4) (T := TX4) (N := 31) fx.1 fx.2.1 fx.2.2.2.2.1 inlX4 fx.2.2.2.1 fx.2.2.2.2.2.1 hP i he rfl 19 (by decide) (fx.2.2.2.2.1 _ mm_186) (fun _ h9 => h9) rfl hdg kk
theorem pf_X4_70 {k : Nat → Nat} {z : MS} (fx : FX p s m args c RX4 cc nL D q) (hP : va_P D vwCl ws H) (hD : va_D A ws) (hS : va_S A H0 H locs) (i : Nat) (he : ws[i]? = some (oM k z)) {y : Int32} (hz : bz y) (hdg : decode cc pc = .ok (.putfield 70, 3)) (kk : ∀ (H1 : Heap) (locs1 : List Loc), va_P D vwCl (ws.set i (oM k (M_set_isClosed z y))) H1 → va_S A H0 H1 locs1 → W p l e R s m args below meth c H1 locs1 cells slots Q (F0 m (pc + 3) ls rest)) : W p l e R s m args below meth c H locs cells slots Q (F0 m pc ls (.int y :: .ref (k 0) :: rest)) :=
  va_put (D := D) (ci := 4) (v := .int y) (ty := .boolean) (C := RX4) (T := TX4) (N := 31) fx.1 fx.2.1 fx.2.2.2.2.1 inlX4 tyX4 tyX4_ok nmX4 fx.2.2.2.1 fx.2.2.2.2.2.1 hP hD hS i he rfl 8 (by decide) (fx.2.2.2.2.1 _ mm_160) (fun _ h9 => h9) rfl (by decide +kernel) (bz_n hz) (bz_f hz) (Nat.le_of_ble_eq_true rfl) hdg (fun H locs hP _ hS => kk H locs hP hS)
theorem gf_X4_112 {k : Nat → Nat} {z : MS} (fx : FX p s m args c RX4 cc nL D q) (hP : va_P D vwCl ws H) (i : Nat) (he : ws[i]? = some (oM k z)) {v : Int32} (hv : M_tests z = v) (hdg : decode cc pc = .ok (.getfield 112, 3)) (kk : W p l e R s m args below meth c H locs cells slots Q (F0 m (pc + 3) ls (.int v :: rest))) : W p l e R s m args below meth c H locs cells slots Q (F0 m pc ls (.ref (k 0) :: rest)) := by
  subst hv
  exact va_get (D := D) (ci := 4) (v := .int (M_tests z)) (C := RX4) (T := TX4) (N := 31) fx.1 fx.2.1 fx.2.2.2.2.1 inlX4 fx.2.2.2.1 fx.2.2.2.2.2.1 hP i he rfl 25 (by decide) (fx.2.2.2.2.1 _ mm_187) (fun _ h9 => h9) rfl hdg kk
theorem pf_X4_115 {k : Nat → Nat} {z : MS} (fx : FX p s m args c RX4 cc nL D q) (hP : va_P D vwCl ws H) (hD : va_D A ws) (hS : va_S A H0 H locs) (i : Nat) (he : ws[i]? = some (oM k z)) {y : Int32} (hdg : decode cc pc = .ok (.putfield 115, 3)) (kk : ∀ (H1 : Heap) (locs1 : List Loc), va_P D vwCl (ws.set i (oM k (M_set_brokenAfter z y))) H1 → va_S A H0 H1 locs1 → W p l e R s m args below meth c H1 locs1 cells slots Q (F0 m (pc + 3) ls rest)) : W p l e R s m args below meth c H locs cells slots Q (F0 m pc ls (.int y :: .ref (k 0) :: rest)) :=
  va_put (D := D) (ci := 4) (v := .int y) (ty := .int) (C := RX4) (T := TX4) (N := 31) fx.1 fx.2.1 fx.2.2.2.2.1 inlX4 tyX4 tyX4_ok nmX4 fx.2.2.2.1 fx.2.2.2.2.2.1 hP hD hS i he rfl 20 (by decide) (fx.2.2.2.2.1 _ mm_188) (fun _ h9 => h9) rfl (by decide +kernel) rfl rfl (Nat.le_of_ble_eq_true rfl) hdg (fun H locs hP _ hS => kk H locs hP hS)
theorem pf_X4_125 {k : Nat → Nat} {z : MS} (fx : FX p s m args c RX4 cc nL D q) (hP : va_P D vwCl ws H) (hD : va_D A ws) (hS : va_S A H0 H locs) (i : Nat) (he : ws[i]? = some (oM k z)) {y : Int32} (hz : bz y) (hdg : decode cc pc = .ok (.putfield 125, 3)) (kk : ∀ (H1 : Heap) (locs1 : List Loc), va_P D vwCl (ws.set i (oM k (M_set_flowed z y))) H1 → va_S A H0 H1 locs1 → W p l e R s m args below meth c H1 locs1 cells slots Q (F0 m (pc + 3) ls rest)) : W p l e R s m args below meth c H locs cells slots Q (F0 m pc ls (.int y :: .ref (k 0) :: rest)) :=
  va_put (D := D) (ci := 4) (v := .int y) (ty := .boolean) (C := RX4) (T := TX4) (N := 31) fx.1 fx.2.1 fx.2.2.2.2.1 inlX4 tyX4 tyX4_ok nmX4 fx.2.2.2.1 fx.2.2.2.2.2.1 hP hD hS i he rfl 23 (by decide) (fx.2.2.2.2.1 _ mm_195) (fun _ h9 => h9) rfl (by decide +kernel) (bz_n hz) (bz_f hz) (Nat.le_of_ble_eq_true rfl) hdg (fun H locs hP _ hS => kk H locs hP hS)
theorem pf_X4_80 {k : Nat → Nat} {z : MS} (fx : FX p s m args c RX4 cc nL D q) (hP : va_P D vwCl ws H) (hD : va_D A ws) (hS : va_S A H0 H locs) (i : Nat) (he : ws[i]? = some (oM k z)) {y : Int32} (hdg : decode cc pc = .ok (.putfield 80, 3)) (kk : ∀ (H1 : Heap) (locs1 : List Loc), va_P D vwCl (ws.set i (oM k (M_set_liquid z y))) H1 → va_S A H0 H1 locs1 → W p l e R s m args below meth c H1 locs1 cells slots Q (F0 m (pc + 3) ls rest)) : W p l e R s m args below meth c H locs cells slots Q (F0 m pc ls (.int y :: .ref (k 0) :: rest)) :=
  va_put (D := D) (ci := 4) (v := .int y) (ty := .int) (C := RX4) (T := TX4) (N := 31) fx.1 fx.2.1 fx.2.2.2.2.1 inlX4 tyX4 tyX4_ok nmX4 fx.2.2.2.1 fx.2.2.2.2.2.1 hP hD hS i he rfl 13 (by decide) (fx.2.2.2.2.1 _ mm_164) (fun _ h9 => h9) rfl (by decide +kernel) rfl rfl (Nat.le_of_ble_eq_true rfl) hdg (fun H locs hP _ hS => kk H locs hP hS)
theorem gf_X4_128 {k : Nat → Nat} {z : MS} (fx : FX p s m args c RX4 cc nL D q) (hP : va_P D vwCl ws H) (i : Nat) (he : ws[i]? = some (oM k z)) {v : Int32} (hv : M_minutes z = v) (hdg : decode cc pc = .ok (.getfield 128, 3)) (kk : W p l e R s m args below meth c H locs cells slots Q (F0 m (pc + 3) ls (.int v :: rest))) : W p l e R s m args below meth c H locs cells slots Q (F0 m pc ls (.ref (k 0) :: rest)) := by
  subst hv
  exact va_get (D := D) (ci := 4) (v := .int (M_minutes z)) (C := RX4) (T := TX4) (N := 31) fx.1 fx.2.1 fx.2.2.2.2.1 inlX4 fx.2.2.2.1 fx.2.2.2.2.2.1 hP i he rfl 14 (by decide) (fx.2.2.2.2.1 _ mm_196) (fun _ h9 => h9) rfl hdg kk
theorem pf_X4_128 {k : Nat → Nat} {z : MS} (fx : FX p s m args c RX4 cc nL D q) (hP : va_P D vwCl ws H) (hD : va_D A ws) (hS : va_S A H0 H locs) (i : Nat) (he : ws[i]? = some (oM k z)) {y : Int32} (hdg : decode cc pc = .ok (.putfield 128, 3)) (kk : ∀ (H1 : Heap) (locs1 : List Loc), va_P D vwCl (ws.set i (oM k (M_set_minutes z y))) H1 → va_S A H0 H1 locs1 → W p l e R s m args below meth c H1 locs1 cells slots Q (F0 m (pc + 3) ls rest)) : W p l e R s m args below meth c H locs cells slots Q (F0 m pc ls (.int y :: .ref (k 0) :: rest)) :=
  va_put (D := D) (ci := 4) (v := .int y) (ty := .int) (C := RX4) (T := TX4) (N := 31) fx.1 fx.2.1 fx.2.2.2.2.1 inlX4 tyX4 tyX4_ok nmX4 fx.2.2.2.1 fx.2.2.2.2.2.1 hP hD hS i he rfl 14 (by decide) (fx.2.2.2.2.1 _ mm_196) (fun _ h9 => h9) rfl (by decide +kernel) rfl rfl (Nat.le_of_ble_eq_true rfl) hdg (fun H locs hP _ hS => kk H locs hP hS)
theorem gf_X4_141 {k : Nat → Nat} {z : MS} (fx : FX p s m args c RX4 cc nL D q) (hP : va_P D vwCl ws H) (i : Nat) (he : ws[i]? = some (oM k z)) {v : Int64} (hv : M_lost z = v) (hdg : decode cc pc = .ok (.getfield 141, 3)) (kk : W p l e R s m args below meth c H locs cells slots Q (F0 m (pc + 3) ls (.long v :: rest))) : W p l e R s m args below meth c H locs cells slots Q (F0 m pc ls (.ref (k 0) :: rest)) := by
  subst hv
  exact va_get (D := D) (ci := 4) (v := .long (M_lost z)) (C := RX4) (T := TX4) (N := 31) fx.1 fx.2.1 fx.2.2.2.2.1 inlX4 fx.2.2.2.1 fx.2.2.2.2.2.1 hP i he rfl 16 (by decide) (fx.2.2.2.2.1 _ mm_209) (fun _ h9 => h9) rfl hdg kk
theorem pf_X4_141 {k : Nat → Nat} {z : MS} (fx : FX p s m args c RX4 cc nL D q) (hP : va_P D vwCl ws H) (hD : va_D A ws) (hS : va_S A H0 H locs) (i : Nat) (he : ws[i]? = some (oM k z)) {y : Int64} (hdg : decode cc pc = .ok (.putfield 141, 3)) (kk : ∀ (H1 : Heap) (locs1 : List Loc), va_P D vwCl (ws.set i (oM k (M_set_lost z y))) H1 → va_S A H0 H1 locs1 → W p l e R s m args below meth c H1 locs1 cells slots Q (F0 m (pc + 3) ls rest)) : W p l e R s m args below meth c H locs cells slots Q (F0 m pc ls (.long y :: .ref (k 0) :: rest)) :=
  va_put (D := D) (ci := 4) (v := .long y) (ty := .long) (C := RX4) (T := TX4) (N := 31) fx.1 fx.2.1 fx.2.2.2.2.1 inlX4 tyX4 tyX4_ok nmX4 fx.2.2.2.1 fx.2.2.2.2.2.1 hP hD hS i he rfl 16 (by decide) (fx.2.2.2.2.1 _ mm_209) (fun _ h9 => h9) rfl (by decide +kernel) rfl rfl (Nat.le_of_ble_eq_true rfl) hdg (fun H locs hP _ hS => kk H locs hP hS)
theorem gf_X4_37 {k : Nat → Nat} {z : MS} (fx : FX p s m args c RX4 cc nL D q) (hP : va_P D vwCl ws H) (i : Nat) (he : ws[i]? = some (oM k z)) (hdg : decode cc pc = .ok (.getfield 37, 3)) (kk : W p l e R s m args below meth c H locs cells slots Q (F0 m (pc + 3) ls (.ref (k 6) :: rest))) : W p l e R s m args below meth c H locs cells slots Q (F0 m pc ls (.ref (k 0) :: rest)) :=
  va_get (D := D) (ci := 4) (v := .ref (k 6)) (C := RX4) (T := TX4) (N := 31) fx.1 fx.2.1 fx.2.2.2.2.1 inlX4 fx.2.2.2.1 fx.2.2.2.2.2.1 hP i he rfl 26 (by decide) (fx.2.2.2.2.1 _ mm_219) (fun _ h9 => h9) rfl hdg kk
theorem gf_X4_115 {k : Nat → Nat} {z : MS} (fx : FX p s m args c RX4 cc nL D q) (hP : va_P D vwCl ws H) (i : Nat) (he : ws[i]? = some (oM k z)) {v : Int32} (hv : M_brokenAfter z = v) (hdg : decode cc pc = .ok (.getfield 115, 3)) (kk : W p l e R s m args below meth c H locs cells slots Q (F0 m (pc + 3) ls (.int v :: rest))) : W p l e R s m args below meth c H locs cells slots Q (F0 m pc ls (.ref (k 0) :: rest)) := by
  subst hv
  exact va_get (D := D) (ci := 4) (v := .int (M_brokenAfter z)) (C := RX4) (T := TX4) (N := 31) fx.1 fx.2.1 fx.2.2.2.2.1 inlX4 fx.2.2.2.1 fx.2.2.2.2.2.1 hP i he rfl 20 (by decide) (fx.2.2.2.2.1 _ mm_188) (fun _ h9 => h9) rfl hdg kk
theorem gf_X4_43 {k : Nat → Nat} {z : MS} (fx : FX p s m args c RX4 cc nL D q) (hP : va_P D vwCl ws H) (i : Nat) (he : ws[i]? = some (oM k z)) (hdg : decode cc pc = .ok (.getfield 43, 3)) (kk : W p l e R s m args below meth c H locs cells slots Q (F0 m (pc + 3) ls (.ref (k 8) :: rest))) : W p l e R s m args below meth c H locs cells slots Q (F0 m pc ls (.ref (k 0) :: rest)) :=
  va_get (D := D) (ci := 4) (v := .ref (k 8)) (C := RX4) (T := TX4) (N := 31) fx.1 fx.2.1 fx.2.2.2.2.1 inlX4 fx.2.2.2.1 fx.2.2.2.2.2.1 hP i he rfl 28 (by decide) (fx.2.2.2.2.1 _ mm_224) (fun _ h9 => h9) rfl hdg kk
theorem gf_X4_46 {k : Nat → Nat} {z : MS} (fx : FX p s m args c RX4 cc nL D q) (hP : va_P D vwCl ws H) (i : Nat) (he : ws[i]? = some (oM k z)) (hdg : decode cc pc = .ok (.getfield 46, 3)) (kk : W p l e R s m args below meth c H locs cells slots Q (F0 m (pc + 3) ls (.ref (k 9) :: rest))) : W p l e R s m args below meth c H locs cells slots Q (F0 m pc ls (.ref (k 0) :: rest)) :=
  va_get (D := D) (ci := 4) (v := .ref (k 9)) (C := RX4) (T := TX4) (N := 31) fx.1 fx.2.1 fx.2.2.2.2.1 inlX4 fx.2.2.2.1 fx.2.2.2.2.2.1 hP i he rfl 29 (by decide) (fx.2.2.2.2.1 _ mm_225) (fun _ h9 => h9) rfl hdg kk
theorem gf_X4_162 {k : Nat → Nat} {z : MS} (fx : FX p s m args c RX4 cc nL D q) (hP : va_P D vwCl ws H) (i : Nat) (he : ws[i]? = some (oM k z)) {v : Int32} (hv : M_casedAfter z = v) (hdg : decode cc pc = .ok (.getfield 162, 3)) (kk : W p l e R s m args below meth c H locs cells slots Q (F0 m (pc + 3) ls (.int v :: rest))) : W p l e R s m args below meth c H locs cells slots Q (F0 m pc ls (.ref (k 0) :: rest)) := by
  subst hv
  exact va_get (D := D) (ci := 4) (v := .int (M_casedAfter z)) (C := RX4) (T := TX4) (N := 31) fx.1 fx.2.1 fx.2.2.2.2.1 inlX4 fx.2.2.2.1 fx.2.2.2.2.2.1 hP i he rfl 22 (by decide) (fx.2.2.2.2.1 _ mm_226) (fun _ h9 => h9) rfl hdg kk
theorem gf_X4_49 {k : Nat → Nat} {z : MS} (fx : FX p s m args c RX4 cc nL D q) (hP : va_P D vwCl ws H) (i : Nat) (he : ws[i]? = some (oM k z)) (hdg : decode cc pc = .ok (.getfield 49, 3)) (kk : W p l e R s m args below meth c H locs cells slots Q (F0 m (pc + 3) ls (.ref (k 10) :: rest))) : W p l e R s m args below meth c H locs cells slots Q (F0 m pc ls (.ref (k 0) :: rest)) :=
  va_get (D := D) (ci := 4) (v := .ref (k 10)) (C := RX4) (T := TX4) (N := 31) fx.1 fx.2.1 fx.2.2.2.2.1 inlX4 fx.2.2.2.1 fx.2.2.2.2.2.1 hP i he rfl 30 (by decide) (fx.2.2.2.2.1 _ mm_231) (fun _ h9 => h9) rfl hdg kk
theorem pf_X4_63 {k : Nat → Nat} {z : MS} (fx : FX p s m args c RX4 cc nL D q) (hP : va_P D vwCl ws H) (hD : va_D A ws) (hS : va_S A H0 H locs) (i : Nat) (he : ws[i]? = some (oM k z)) {y : Int32} (hdg : decode cc pc = .ok (.putfield 63, 3)) (kk : ∀ (H1 : Heap) (locs1 : List Loc), va_P D vwCl (ws.set i (oM k (M_set_depth z y))) H1 → va_S A H0 H1 locs1 → W p l e R s m args below meth c H1 locs1 cells slots Q (F0 m (pc + 3) ls rest)) : W p l e R s m args below meth c H locs cells slots Q (F0 m pc ls (.int y :: .ref (k 0) :: rest)) :=
  va_put (D := D) (ci := 4) (v := .int y) (ty := .int) (C := RX4) (T := TX4) (N := 31) fx.1 fx.2.1 fx.2.2.2.2.1 inlX4 tyX4 tyX4_ok nmX4 fx.2.2.2.1 fx.2.2.2.2.2.1 hP hD hS i he rfl 5 (by decide) (fx.2.2.2.2.1 _ mm_153) (fun _ h9 => h9) rfl (by decide +kernel) rfl rfl (Nat.le_of_ble_eq_true rfl) hdg (fun H locs hP _ hS => kk H locs hP hS)
theorem gf_X4_125 {k : Nat → Nat} {z : MS} (fx : FX p s m args c RX4 cc nL D q) (hP : va_P D vwCl ws H) (i : Nat) (he : ws[i]? = some (oM k z)) {v : Int32} (hv : M_flowed z = v) (hdg : decode cc pc = .ok (.getfield 125, 3)) (kk : W p l e R s m args below meth c H locs cells slots Q (F0 m (pc + 3) ls (.int v :: rest))) : W p l e R s m args below meth c H locs cells slots Q (F0 m pc ls (.ref (k 0) :: rest)) := by
  subst hv
  exact va_get (D := D) (ci := 4) (v := .int (M_flowed z)) (C := RX4) (T := TX4) (N := 31) fx.1 fx.2.1 fx.2.2.2.2.1 inlX4 fx.2.2.2.1 fx.2.2.2.2.2.1 hP i he rfl 23 (by decide) (fx.2.2.2.2.1 _ mm_195) (fun _ h9 => h9) rfl hdg kk
theorem gf_X4_27 {k : Nat → Nat} {z : MS} (fx : FX p s m args c RX4 cc nL D q) (hP : va_P D vwCl ws H) (i : Nat) (he : ws[i]? = some (oM k z)) {v : Int32} (hv : M_pumpedWeight z = v) (hdg : decode cc pc = .ok (.getfield 27, 3)) (kk : W p l e R s m args below meth c H locs cells slots Q (F0 m (pc + 3) ls (.int v :: rest))) : W p l e R s m args below meth c H locs cells slots Q (F0 m pc ls (.ref (k 0) :: rest)) := by
  subst hv
  exact va_get (D := D) (ci := 4) (v := .int (M_pumpedWeight z)) (C := RX4) (T := TX4) (N := 31) fx.1 fx.2.1 fx.2.2.2.2.1 inlX4 fx.2.2.2.1 fx.2.2.2.2.2.1 hP i he rfl 18 (by decide) (fx.2.2.2.2.1 _ mm_241) (fun _ h9 => h9) rfl hdg kk
theorem gf_X4_74 {k : Nat → Nat} {z : MS} (fx : FX p s m args c RX4 cc nL D q) (hP : va_P D vwCl ws H) (i : Nat) (he : ws[i]? = some (oM k z)) {v : Int32} (hv : M_pumped z = v) (hdg : decode cc pc = .ok (.getfield 74, 3)) (kk : W p l e R s m args below meth c H locs cells slots Q (F0 m (pc + 3) ls (.int v :: rest))) : W p l e R s m args below meth c H locs cells slots Q (F0 m pc ls (.ref (k 0) :: rest)) := by
  subst hv
  exact va_get (D := D) (ci := 4) (v := .int (M_pumped z)) (C := RX4) (T := TX4) (N := 31) fx.1 fx.2.1 fx.2.2.2.2.1 inlX4 fx.2.2.2.1 fx.2.2.2.2.2.1 hP i he rfl 17 (by decide) (fx.2.2.2.2.1 _ mm_162) (fun _ h9 => h9) rfl hdg kk
theorem pf_X4_27 {k : Nat → Nat} {z : MS} (fx : FX p s m args c RX4 cc nL D q) (hP : va_P D vwCl ws H) (hD : va_D A ws) (hS : va_S A H0 H locs) (i : Nat) (he : ws[i]? = some (oM k z)) {y : Int32} (hdg : decode cc pc = .ok (.putfield 27, 3)) (kk : ∀ (H1 : Heap) (locs1 : List Loc), va_P D vwCl (ws.set i (oM k (M_set_pumpedWeight z y))) H1 → va_S A H0 H1 locs1 → W p l e R s m args below meth c H1 locs1 cells slots Q (F0 m (pc + 3) ls rest)) : W p l e R s m args below meth c H locs cells slots Q (F0 m pc ls (.int y :: .ref (k 0) :: rest)) :=
  va_put (D := D) (ci := 4) (v := .int y) (ty := .int) (C := RX4) (T := TX4) (N := 31) fx.1 fx.2.1 fx.2.2.2.2.1 inlX4 tyX4 tyX4_ok nmX4 fx.2.2.2.1 fx.2.2.2.2.2.1 hP hD hS i he rfl 18 (by decide) (fx.2.2.2.2.1 _ mm_241) (fun _ h9 => h9) rfl (by decide +kernel) rfl rfl (Nat.le_of_ble_eq_true rfl) hdg (fun H locs hP _ hS => kk H locs hP hS)
theorem pf_X4_159 {k : Nat → Nat} {z : MS} (fx : FX p s m args c RX4 cc nL D q) (hP : va_P D vwCl ws H) (hD : va_D A ws) (hS : va_S A H0 H locs) (i : Nat) (he : ws[i]? = some (oM k z)) {y : Int32} (hdg : decode cc pc = .ok (.putfield 159, 3)) (kk : ∀ (H1 : Heap) (locs1 : List Loc), va_P D vwCl (ws.set i (oM k (M_set_cement z y))) H1 → va_S A H0 H1 locs1 → W p l e R s m args below meth c H1 locs1 cells slots Q (F0 m (pc + 3) ls rest)) : W p l e R s m args below meth c H locs cells slots Q (F0 m pc ls (.int y :: .ref (k 0) :: rest)) :=
  va_put (D := D) (ci := 4) (v := .int y) (ty := .int) (C := RX4) (T := TX4) (N := 31) fx.1 fx.2.1 fx.2.2.2.2.1 inlX4 tyX4 tyX4_ok nmX4 fx.2.2.2.1 fx.2.2.2.2.2.1 hP hD hS i he rfl 21 (by decide) (fx.2.2.2.2.1 _ mm_242) (fun _ h9 => h9) rfl (by decide +kernel) rfl rfl (Nat.le_of_ble_eq_true rfl) hdg (fun H locs hP _ hS => kk H locs hP hS)
theorem pf_X4_93 {k : Nat → Nat} {z : MS} (fx : FX p s m args c RX4 cc nL D q) (hP : va_P D vwCl ws H) (hD : va_D A ws) (hS : va_S A H0 H locs) (i : Nat) (he : ws[i]? = some (oM k z)) {y : Int32} (hdg : decode cc pc = .ok (.putfield 93, 3)) (kk : ∀ (H1 : Heap) (locs1 : List Loc), va_P D vwCl (ws.set i (oM k (M_set_shoe z y))) H1 → va_S A H0 H1 locs1 → W p l e R s m args below meth c H1 locs1 cells slots Q (F0 m (pc + 3) ls rest)) : W p l e R s m args below meth c H locs cells slots Q (F0 m pc ls (.int y :: .ref (k 0) :: rest)) :=
  va_put (D := D) (ci := 4) (v := .int y) (ty := .int) (C := RX4) (T := TX4) (N := 31) fx.1 fx.2.1 fx.2.2.2.2.1 inlX4 tyX4 tyX4_ok nmX4 fx.2.2.2.1 fx.2.2.2.2.2.1 hP hD hS i he rfl 6 (by decide) (fx.2.2.2.2.1 _ mm_171) (fun _ h9 => h9) rfl (by decide +kernel) rfl rfl (Nat.le_of_ble_eq_true rfl) hdg (fun H locs hP _ hS => kk H locs hP hS)
theorem pf_X4_162 {k : Nat → Nat} {z : MS} (fx : FX p s m args c RX4 cc nL D q) (hP : va_P D vwCl ws H) (hD : va_D A ws) (hS : va_S A H0 H locs) (i : Nat) (he : ws[i]? = some (oM k z)) {y : Int32} (hdg : decode cc pc = .ok (.putfield 162, 3)) (kk : ∀ (H1 : Heap) (locs1 : List Loc), va_P D vwCl (ws.set i (oM k (M_set_casedAfter z y))) H1 → va_S A H0 H1 locs1 → W p l e R s m args below meth c H1 locs1 cells slots Q (F0 m (pc + 3) ls rest)) : W p l e R s m args below meth c H locs cells slots Q (F0 m pc ls (.int y :: .ref (k 0) :: rest)) :=
  va_put (D := D) (ci := 4) (v := .int y) (ty := .int) (C := RX4) (T := TX4) (N := 31) fx.1 fx.2.1 fx.2.2.2.2.1 inlX4 tyX4 tyX4_ok nmX4 fx.2.2.2.1 fx.2.2.2.2.2.1 hP hD hS i he rfl 22 (by decide) (fx.2.2.2.2.1 _ mm_226) (fun _ h9 => h9) rfl (by decide +kernel) rfl rfl (Nat.le_of_ble_eq_true rfl) hdg (fun H locs hP _ hS => kk H locs hP hS)
theorem gf_X4_159 {k : Nat → Nat} {z : MS} (fx : FX p s m args c RX4 cc nL D q) (hP : va_P D vwCl ws H) (i : Nat) (he : ws[i]? = some (oM k z)) {v : Int32} (hv : M_cement z = v) (hdg : decode cc pc = .ok (.getfield 159, 3)) (kk : W p l e R s m args below meth c H locs cells slots Q (F0 m (pc + 3) ls (.int v :: rest))) : W p l e R s m args below meth c H locs cells slots Q (F0 m pc ls (.ref (k 0) :: rest)) := by
  subst hv
  exact va_get (D := D) (ci := 4) (v := .int (M_cement z)) (C := RX4) (T := TX4) (N := 31) fx.1 fx.2.1 fx.2.2.2.2.1 inlX4 fx.2.2.2.1 fx.2.2.2.2.2.1 hP i he rfl 21 (by decide) (fx.2.2.2.2.1 _ mm_242) (fun _ h9 => h9) rfl hdg kk
theorem pf_X4_30 {k : Nat → Nat} {z : MS} (fx : FX p s m args c RX4 cc nL D q) (hP : va_P D vwCl ws H) (hD : va_D A ws) (hS : va_S A H0 H locs) (i : Nat) (he : ws[i]? = some (oM k z)) {y : Int32} (hdg : decode cc pc = .ok (.putfield 30, 3)) (kk : ∀ (H1 : Heap) (locs1 : List Loc), va_P D vwCl (ws.set i (oM k (M_set_valve z y))) H1 → va_S A H0 H1 locs1 → W p l e R s m args below meth c H1 locs1 cells slots Q (F0 m (pc + 3) ls rest)) : W p l e R s m args below meth c H locs cells slots Q (F0 m pc ls (.int y :: .ref (k 0) :: rest)) :=
  va_put (D := D) (ci := 4) (v := .int y) (ty := .int) (C := RX4) (T := TX4) (N := 31) fx.1 fx.2.1 fx.2.2.2.2.1 inlX4 tyX4 tyX4_ok nmX4 fx.2.2.2.1 fx.2.2.2.2.2.1 hP hD hS i he rfl 19 (by decide) (fx.2.2.2.2.1 _ mm_186) (fun _ h9 => h9) rfl (by decide +kernel) rfl rfl (Nat.le_of_ble_eq_true rfl) hdg (fun H locs hP _ hS => kk H locs hP hS)
theorem gf_X4_40 {k : Nat → Nat} {z : MS} (fx : FX p s m args c RX4 cc nL D q) (hP : va_P D vwCl ws H) (i : Nat) (he : ws[i]? = some (oM k z)) (hdg : decode cc pc = .ok (.getfield 40, 3)) (kk : W p l e R s m args below meth c H locs cells slots Q (F0 m (pc + 3) ls (.ref (k 7) :: rest))) : W p l e R s m args below meth c H locs cells slots Q (F0 m pc ls (.ref (k 0) :: rest)) :=
  va_get (D := D) (ci := 4) (v := .ref (k 7)) (C := RX4) (T := TX4) (N := 31) fx.1 fx.2.1 fx.2.2.2.2.1 inlX4 fx.2.2.2.1 fx.2.2.2.2.2.1 hP i he rfl 27 (by decide) (fx.2.2.2.2.1 _ mm_243) (fun _ h9 => h9) rfl hdg kk
theorem pf_X4_112 {k : Nat → Nat} {z : MS} (fx : FX p s m args c RX4 cc nL D q) (hP : va_P D vwCl ws H) (hD : va_D A ws) (hS : va_S A H0 H locs) (i : Nat) (he : ws[i]? = some (oM k z)) {y : Int32} (hdg : decode cc pc = .ok (.putfield 112, 3)) (kk : ∀ (H1 : Heap) (locs1 : List Loc), va_P D vwCl (ws.set i (oM k (M_set_tests z y))) H1 → va_S A H0 H1 locs1 → W p l e R s m args below meth c H1 locs1 cells slots Q (F0 m (pc + 3) ls rest)) : W p l e R s m args below meth c H locs cells slots Q (F0 m pc ls (.int y :: .ref (k 0) :: rest)) :=
  va_put (D := D) (ci := 4) (v := .int y) (ty := .int) (C := RX4) (T := TX4) (N := 31) fx.1 fx.2.1 fx.2.2.2.2.1 inlX4 tyX4 tyX4_ok nmX4 fx.2.2.2.1 fx.2.2.2.2.2.1 hP hD hS i he rfl 25 (by decide) (fx.2.2.2.2.1 _ mm_187) (fun _ h9 => h9) rfl (by decide +kernel) rfl rfl (Nat.le_of_ble_eq_true rfl) hdg (fun H locs hP _ hS => kk H locs hP hS)
theorem gf_X4_33 {k : Nat → Nat} {z : MS} (fx : FX p s m args c RX4 cc nL D q) (hP : va_P D vwCl ws H) (i : Nat) (he : ws[i]? = some (oM k z)) (hdg : decode cc pc = .ok (.getfield 33, 3)) (kk : W p l e R s m args below meth c H locs cells slots Q (F0 m (pc + 3) ls (.ref (k 5) :: rest))) : W p l e R s m args below meth c H locs cells slots Q (F0 m pc ls (.ref (k 0) :: rest)) :=
  va_get (D := D) (ci := 4) (v := .ref (k 5)) (C := RX4) (T := TX4) (N := 31) fx.1 fx.2.1 fx.2.2.2.2.1 inlX4 fx.2.2.2.1 fx.2.2.2.2.2.1 hP i he rfl 24 (by decide) (fx.2.2.2.2.1 _ mm_253) (fun _ h9 => h9) rfl hdg kk
theorem pf_X4_52_M {km : Nat → Nat} {z : MS} (fx : FX p s m args c RX4 cc nL D q) (hP : va_P D vwCl (cModel km q z) H) (hD : va_D A (cModel km q z)) (hS : va_S A H0 H locs) {y : Int32} (hdg : decode cc pc = .ok (.putfield 52, 3)) (kk : ∀ (H1 : Heap) (locs1 : List Loc), va_P D vwCl (cModel km q (M_set_thrown z y)) H1 → va_S A H0 H1 locs1 → W p l e R s m args below meth c H1 locs1 cells slots Q (F0 m (pc + 3) ls rest)) : W p l e R s m args below meth c H locs cells slots Q (F0 m pc ls (.int y :: .ref (km 0) :: rest)) :=
  pf_X4_52 fx hP hD hS 0 rfl hdg (fun H locs hP hS => kk H locs (by rw [sf_thrown] at hP; exact hP) hS)
theorem pf_X4_23_M {km : Nat → Nat} {z : MS} (fx : FX p s m args c RX4 cc nL D q) (hP : va_P D vwCl (cModel km q z) H) (hD : va_D A (cModel km q z)) (hS : va_S A H0 H locs) {y : Int32} (hdg : decode cc pc = .ok (.putfield 23, 3)) (kk : ∀ (H1 : Heap) (locs1 : List Loc), va_P D vwCl (cModel km q (M_set_weight z y)) H1 → va_S A H0 H1 locs1 → W p l e R s m args below meth c H1 locs1 cells slots Q (F0 m (pc + 3) ls rest)) : W p l e R s m args below meth c H locs cells slots Q (F0 m pc ls (.int y :: .ref (km 0) :: rest)) :=
  pf_X4_23 fx hP hD hS 0 rfl hdg (fun H locs hP hS => kk H locs (by rw [sf_weight] at hP; exact hP) hS)
theorem pf_X4_74_M {km : Nat → Nat} {z : MS} (fx : FX p s m args c RX4 cc nL D q) (hP : va_P D vwCl (cModel km q z) H) (hD : va_D A (cModel km q z)) (hS : va_S A H0 H locs) {y : Int32} (hdg : decode cc pc = .ok (.putfield 74, 3)) (kk : ∀ (H1 : Heap) (locs1 : List Loc), va_P D vwCl (cModel km q (M_set_pumped z y)) H1 → va_S A H0 H1 locs1 → W p l e R s m args below meth c H1 locs1 cells slots Q (F0 m (pc + 3) ls rest)) : W p l e R s m args below meth c H locs cells slots Q (F0 m pc ls (.int y :: .ref (km 0) :: rest)) :=
  pf_X4_74 fx hP hD hS 0 rfl hdg (fun H locs hP hS => kk H locs (by rw [sf_pumped] at hP; exact hP) hS)
theorem pf_X4_77_M {km : Nat → Nat} {z : MS} (fx : FX p s m args c RX4 cc nL D q) (hP : va_P D vwCl (cModel km q z) H) (hD : va_D A (cModel km q z)) (hS : va_S A H0 H locs) {y : Int32} (hdg : decode cc pc = .ok (.putfield 77, 3)) (kk : ∀ (H1 : Heap) (locs1 : List Loc), va_P D vwCl (cModel km q (M_set_gas z y)) H1 → va_S A H0 H1 locs1 → W p l e R s m args below meth c H1 locs1 cells slots Q (F0 m (pc + 3) ls rest)) : W p l e R s m args below meth c H locs cells slots Q (F0 m pc ls (.int y :: .ref (km 0) :: rest)) :=
  pf_X4_77 fx hP hD hS 0 rfl hdg (fun H locs hP hS => kk H locs (by rw [sf_gas] at hP; exact hP) hS)
theorem pf_X4_90_M {km : Nat → Nat} {z : MS} (fx : FX p s m args c RX4 cc nL D q) (hP : va_P D vwCl (cModel km q z) H) (hD : va_D A (cModel km q z)) (hS : va_S A H0 H locs) {y : Int32} (hdg : decode cc pc = .ok (.putfield 90, 3)) (kk : ∀ (H1 : Heap) (locs1 : List Loc), va_P D vwCl (cModel km q (M_set_place z y)) H1 → va_S A H0 H1 locs1 → W p l e R s m args below meth c H1 locs1 cells slots Q (F0 m (pc + 3) ls rest)) : W p l e R s m args below meth c H locs cells slots Q (F0 m pc ls (.int y :: .ref (km 0) :: rest)) :=
  pf_X4_90 fx hP hD hS 0 rfl hdg (fun H locs hP hS => kk H locs (by rw [sf_place] at hP; exact hP) hS)
theorem pf_X4_103_M {km : Nat → Nat} {z : MS} (fx : FX p s m args c RX4 cc nL D q) (hP : va_P D vwCl (cModel km q z) H) (hD : va_D A (cModel km q z)) (hS : va_S A H0 H locs) {y : Int64} (hdg : decode cc pc = .ok (.putfield 103, 3)) (kk : ∀ (H1 : Heap) (locs1 : List Loc), va_P D vwCl (cModel km q (M_set_vented z y)) H1 → va_S A H0 H1 locs1 → W p l e R s m args below meth c H1 locs1 cells slots Q (F0 m (pc + 3) ls rest)) : W p l e R s m args below meth c H locs cells slots Q (F0 m pc ls (.long y :: .ref (km 0) :: rest)) :=
  pf_X4_103 fx hP hD hS 0 rfl hdg (fun H locs hP hS => kk H locs (by rw [sf_vented] at hP; exact hP) hS)
theorem pf_X4_96_M {km : Nat → Nat} {z : MS} (fx : FX p s m args c RX4 cc nL D q) (hP : va_P D vwCl (cModel km q z) H) (hD : va_D A (cModel km q z)) (hS : va_S A H0 H locs) {y : Int64} (hdg : decode cc pc = .ok (.putfield 96, 3)) (kk : ∀ (H1 : Heap) (locs1 : List Loc), va_P D vwCl (cModel km q (M_set_charge z y)) H1 → va_S A H0 H1 locs1 → W p l e R s m args below meth c H1 locs1 cells slots Q (F0 m (pc + 3) ls rest)) : W p l e R s m args below meth c H locs cells slots Q (F0 m pc ls (.long y :: .ref (km 0) :: rest)) :=
  pf_X4_96 fx hP hD hS 0 rfl hdg (fun H locs hP hS => kk H locs (by rw [sf_charge] at hP; exact hP) hS)
theorem pf_X4_87_M {km : Nat → Nat} {z : MS} (fx : FX p s m args c RX4 cc nL D q) (hP : va_P D vwCl (cModel km q z) H) (hD : va_D A (cModel km q z)) (hS : va_S A H0 H locs) {y : Int32} (hdg : decode cc pc = .ok (.putfield 87, 3)) (kk : ∀ (H1 : Heap) (locs1 : List Loc), va_P D vwCl (cModel km q (M_set_choke z y)) H1 → va_S A H0 H1 locs1 → W p l e R s m args below meth c H1 locs1 cells slots Q (F0 m (pc + 3) ls rest)) : W p l e R s m args below meth c H locs cells slots Q (F0 m pc ls (.int y :: .ref (km 0) :: rest)) :=
  pf_X4_87 fx hP hD hS 0 rfl hdg (fun H locs hP hS => kk H locs (by rw [sf_choke] at hP; exact hP) hS)
theorem pf_X4_70_M {km : Nat → Nat} {z : MS} (fx : FX p s m args c RX4 cc nL D q) (hP : va_P D vwCl (cModel km q z) H) (hD : va_D A (cModel km q z)) (hS : va_S A H0 H locs) {y : Int32} (hz : bz y) (hdg : decode cc pc = .ok (.putfield 70, 3)) (kk : ∀ (H1 : Heap) (locs1 : List Loc), va_P D vwCl (cModel km q (M_set_isClosed z y)) H1 → va_S A H0 H1 locs1 → W p l e R s m args below meth c H1 locs1 cells slots Q (F0 m (pc + 3) ls rest)) : W p l e R s m args below meth c H locs cells slots Q (F0 m pc ls (.int y :: .ref (km 0) :: rest)) :=
  pf_X4_70 fx hP hD hS 0 rfl (hz := hz) hdg (fun H locs hP hS => kk H locs (by rw [sf_isClosed] at hP; exact hP) hS)
theorem pf_X4_115_M {km : Nat → Nat} {z : MS} (fx : FX p s m args c RX4 cc nL D q) (hP : va_P D vwCl (cModel km q z) H) (hD : va_D A (cModel km q z)) (hS : va_S A H0 H locs) {y : Int32} (hdg : decode cc pc = .ok (.putfield 115, 3)) (kk : ∀ (H1 : Heap) (locs1 : List Loc), va_P D vwCl (cModel km q (M_set_brokenAfter z y)) H1 → va_S A H0 H1 locs1 → W p l e R s m args below meth c H1 locs1 cells slots Q (F0 m (pc + 3) ls rest)) : W p l e R s m args below meth c H locs cells slots Q (F0 m pc ls (.int y :: .ref (km 0) :: rest)) :=
  pf_X4_115 fx hP hD hS 0 rfl hdg (fun H locs hP hS => kk H locs (by rw [sf_brokenAfter] at hP; exact hP) hS)
theorem pf_X4_125_M {km : Nat → Nat} {z : MS} (fx : FX p s m args c RX4 cc nL D q) (hP : va_P D vwCl (cModel km q z) H) (hD : va_D A (cModel km q z)) (hS : va_S A H0 H locs) {y : Int32} (hz : bz y) (hdg : decode cc pc = .ok (.putfield 125, 3)) (kk : ∀ (H1 : Heap) (locs1 : List Loc), va_P D vwCl (cModel km q (M_set_flowed z y)) H1 → va_S A H0 H1 locs1 → W p l e R s m args below meth c H1 locs1 cells slots Q (F0 m (pc + 3) ls rest)) : W p l e R s m args below meth c H locs cells slots Q (F0 m pc ls (.int y :: .ref (km 0) :: rest)) :=
  pf_X4_125 fx hP hD hS 0 rfl (hz := hz) hdg (fun H locs hP hS => kk H locs (by rw [sf_flowed] at hP; exact hP) hS)
theorem pf_X4_80_M {km : Nat → Nat} {z : MS} (fx : FX p s m args c RX4 cc nL D q) (hP : va_P D vwCl (cModel km q z) H) (hD : va_D A (cModel km q z)) (hS : va_S A H0 H locs) {y : Int32} (hdg : decode cc pc = .ok (.putfield 80, 3)) (kk : ∀ (H1 : Heap) (locs1 : List Loc), va_P D vwCl (cModel km q (M_set_liquid z y)) H1 → va_S A H0 H1 locs1 → W p l e R s m args below meth c H1 locs1 cells slots Q (F0 m (pc + 3) ls rest)) : W p l e R s m args below meth c H locs cells slots Q (F0 m pc ls (.int y :: .ref (km 0) :: rest)) :=
  pf_X4_80 fx hP hD hS 0 rfl hdg (fun H locs hP hS => kk H locs (by rw [sf_liquid] at hP; exact hP) hS)
theorem pf_X4_128_M {km : Nat → Nat} {z : MS} (fx : FX p s m args c RX4 cc nL D q) (hP : va_P D vwCl (cModel km q z) H) (hD : va_D A (cModel km q z)) (hS : va_S A H0 H locs) {y : Int32} (hdg : decode cc pc = .ok (.putfield 128, 3)) (kk : ∀ (H1 : Heap) (locs1 : List Loc), va_P D vwCl (cModel km q (M_set_minutes z y)) H1 → va_S A H0 H1 locs1 → W p l e R s m args below meth c H1 locs1 cells slots Q (F0 m (pc + 3) ls rest)) : W p l e R s m args below meth c H locs cells slots Q (F0 m pc ls (.int y :: .ref (km 0) :: rest)) :=
  pf_X4_128 fx hP hD hS 0 rfl hdg (fun H locs hP hS => kk H locs (by rw [sf_minutes] at hP; exact hP) hS)
theorem pf_X4_141_M {km : Nat → Nat} {z : MS} (fx : FX p s m args c RX4 cc nL D q) (hP : va_P D vwCl (cModel km q z) H) (hD : va_D A (cModel km q z)) (hS : va_S A H0 H locs) {y : Int64} (hdg : decode cc pc = .ok (.putfield 141, 3)) (kk : ∀ (H1 : Heap) (locs1 : List Loc), va_P D vwCl (cModel km q (M_set_lost z y)) H1 → va_S A H0 H1 locs1 → W p l e R s m args below meth c H1 locs1 cells slots Q (F0 m (pc + 3) ls rest)) : W p l e R s m args below meth c H locs cells slots Q (F0 m pc ls (.long y :: .ref (km 0) :: rest)) :=
  pf_X4_141 fx hP hD hS 0 rfl hdg (fun H locs hP hS => kk H locs (by rw [sf_lost] at hP; exact hP) hS)
theorem pf_X4_63_M {km : Nat → Nat} {z : MS} (fx : FX p s m args c RX4 cc nL D q) (hP : va_P D vwCl (cModel km q z) H) (hD : va_D A (cModel km q z)) (hS : va_S A H0 H locs) {y : Int32} (hdg : decode cc pc = .ok (.putfield 63, 3)) (kk : ∀ (H1 : Heap) (locs1 : List Loc), va_P D vwCl (cModel km q (M_set_depth z y)) H1 → va_S A H0 H1 locs1 → W p l e R s m args below meth c H1 locs1 cells slots Q (F0 m (pc + 3) ls rest)) : W p l e R s m args below meth c H locs cells slots Q (F0 m pc ls (.int y :: .ref (km 0) :: rest)) :=
  pf_X4_63 fx hP hD hS 0 rfl hdg (fun H locs hP hS => kk H locs (by rw [sf_depth] at hP; exact hP) hS)
theorem pf_X4_27_M {km : Nat → Nat} {z : MS} (fx : FX p s m args c RX4 cc nL D q) (hP : va_P D vwCl (cModel km q z) H) (hD : va_D A (cModel km q z)) (hS : va_S A H0 H locs) {y : Int32} (hdg : decode cc pc = .ok (.putfield 27, 3)) (kk : ∀ (H1 : Heap) (locs1 : List Loc), va_P D vwCl (cModel km q (M_set_pumpedWeight z y)) H1 → va_S A H0 H1 locs1 → W p l e R s m args below meth c H1 locs1 cells slots Q (F0 m (pc + 3) ls rest)) : W p l e R s m args below meth c H locs cells slots Q (F0 m pc ls (.int y :: .ref (km 0) :: rest)) :=
  pf_X4_27 fx hP hD hS 0 rfl hdg (fun H locs hP hS => kk H locs (by rw [sf_pumpedWeight] at hP; exact hP) hS)
theorem pf_X4_159_M {km : Nat → Nat} {z : MS} (fx : FX p s m args c RX4 cc nL D q) (hP : va_P D vwCl (cModel km q z) H) (hD : va_D A (cModel km q z)) (hS : va_S A H0 H locs) {y : Int32} (hdg : decode cc pc = .ok (.putfield 159, 3)) (kk : ∀ (H1 : Heap) (locs1 : List Loc), va_P D vwCl (cModel km q (M_set_cement z y)) H1 → va_S A H0 H1 locs1 → W p l e R s m args below meth c H1 locs1 cells slots Q (F0 m (pc + 3) ls rest)) : W p l e R s m args below meth c H locs cells slots Q (F0 m pc ls (.int y :: .ref (km 0) :: rest)) :=
  pf_X4_159 fx hP hD hS 0 rfl hdg (fun H locs hP hS => kk H locs (by rw [sf_cement] at hP; exact hP) hS)
theorem pf_X4_93_M {km : Nat → Nat} {z : MS} (fx : FX p s m args c RX4 cc nL D q) (hP : va_P D vwCl (cModel km q z) H) (hD : va_D A (cModel km q z)) (hS : va_S A H0 H locs) {y : Int32} (hdg : decode cc pc = .ok (.putfield 93, 3)) (kk : ∀ (H1 : Heap) (locs1 : List Loc), va_P D vwCl (cModel km q (M_set_shoe z y)) H1 → va_S A H0 H1 locs1 → W p l e R s m args below meth c H1 locs1 cells slots Q (F0 m (pc + 3) ls rest)) : W p l e R s m args below meth c H locs cells slots Q (F0 m pc ls (.int y :: .ref (km 0) :: rest)) :=
  pf_X4_93 fx hP hD hS 0 rfl hdg (fun H locs hP hS => kk H locs (by rw [sf_shoe] at hP; exact hP) hS)
theorem pf_X4_162_M {km : Nat → Nat} {z : MS} (fx : FX p s m args c RX4 cc nL D q) (hP : va_P D vwCl (cModel km q z) H) (hD : va_D A (cModel km q z)) (hS : va_S A H0 H locs) {y : Int32} (hdg : decode cc pc = .ok (.putfield 162, 3)) (kk : ∀ (H1 : Heap) (locs1 : List Loc), va_P D vwCl (cModel km q (M_set_casedAfter z y)) H1 → va_S A H0 H1 locs1 → W p l e R s m args below meth c H1 locs1 cells slots Q (F0 m (pc + 3) ls rest)) : W p l e R s m args below meth c H locs cells slots Q (F0 m pc ls (.int y :: .ref (km 0) :: rest)) :=
  pf_X4_162 fx hP hD hS 0 rfl hdg (fun H locs hP hS => kk H locs (by rw [sf_casedAfter] at hP; exact hP) hS)
theorem pf_X4_30_M {km : Nat → Nat} {z : MS} (fx : FX p s m args c RX4 cc nL D q) (hP : va_P D vwCl (cModel km q z) H) (hD : va_D A (cModel km q z)) (hS : va_S A H0 H locs) {y : Int32} (hdg : decode cc pc = .ok (.putfield 30, 3)) (kk : ∀ (H1 : Heap) (locs1 : List Loc), va_P D vwCl (cModel km q (M_set_valve z y)) H1 → va_S A H0 H1 locs1 → W p l e R s m args below meth c H1 locs1 cells slots Q (F0 m (pc + 3) ls rest)) : W p l e R s m args below meth c H locs cells slots Q (F0 m pc ls (.int y :: .ref (km 0) :: rest)) :=
  pf_X4_30 fx hP hD hS 0 rfl hdg (fun H locs hP hS => kk H locs (by rw [sf_valve] at hP; exact hP) hS)
theorem pf_X4_112_M {km : Nat → Nat} {z : MS} (fx : FX p s m args c RX4 cc nL D q) (hP : va_P D vwCl (cModel km q z) H) (hD : va_D A (cModel km q z)) (hS : va_S A H0 H locs) {y : Int32} (hdg : decode cc pc = .ok (.putfield 112, 3)) (kk : ∀ (H1 : Heap) (locs1 : List Loc), va_P D vwCl (cModel km q (M_set_tests z y)) H1 → va_S A H0 H1 locs1 → W p l e R s m args below meth c H1 locs1 cells slots Q (F0 m (pc + 3) ls rest)) : W p l e R s m args below meth c H locs cells slots Q (F0 m pc ls (.int y :: .ref (km 0) :: rest)) :=
  pf_X4_112 fx hP hD hS 0 rfl hdg (fun H locs hP hS => kk H locs (by rw [sf_tests] at hP; exact hP) hS)
theorem al_pore {own : String} {km : Nat → Nat} {z : MS} (fx : FX p s m args c own cc nL D q) (hP : va_P D vwCl (cModel km q z) H) {f : Nat → Int32} (hf : M_pore z = f) {i : Int32} (hin : vp_in i 50) (hdg : decode cc pc = .ok (.iaload, 1)) (kk : W p l e R s m args below meth c H locs cells slots Q (F0 m (pc + 1) ls (.int (f i.toNatClampNeg) :: rest))) : W p l e R s m args below meth c H locs cells slots Q (F0 m pc ls (.int i :: .ref (km 1) :: rest)) := by
  subst hf
  exact va_iald fx.1 fx.2.1 fx.2.2.2.2.2.1 hP 1 0 (f := M_pore z) rfl rfl hin hdg kk
theorem as_pore {own : String} {km : Nat → Nat} {z : MS} (fx : FX p s m args c own cc nL D q) (hP : va_P D vwCl (cModel km q z) H) (hD : va_D A (cModel km q z)) (hS : va_S A H0 H locs) {f : Nat → Int32} (hf : M_pore z = f) {i : Int32} {y : Int32} (hin : vp_in i 50) (hdg : decode cc pc = .ok (.iastore, 1)) (kk : ∀ (H1 : Heap) (locs1 : List Loc), va_P D vwCl (cModel km q (M_set_pore z (upd f i.toNatClampNeg y))) H1 → va_S A H0 H1 locs1 → W p l e R s m args below meth c H1 locs1 cells slots Q (F0 m (pc + 1) ls rest)) : W p l e R s m args below meth c H locs cells slots Q (F0 m pc ls (.int y :: .int i :: .ref (km 1) :: rest)) := by
  subst hf
  exact va_iast fx.1 fx.2.1 fx.2.2.2.2.2.1 hP hD hS 1 0 (f := M_pore z) rfl rfl hin hdg (fun H locs hP _ hS => kk H locs (by rw [← sa_pore]; exact hP) hS)
theorem al_breaks {own : String} {km : Nat → Nat} {z : MS} (fx : FX p s m args c own cc nL D q) (hP : va_P D vwCl (cModel km q z) H) {f : Nat → Int32} (hf : M_breaks z = f) {i : Int32} (hin : vp_in i 50) (hdg : decode cc pc = .ok (.iaload, 1)) (kk : W p l e R s m args below meth c H locs cells slots Q (F0 m (pc + 1) ls (.int (f i.toNatClampNeg) :: rest))) : W p l e R s m args below meth c H locs cells slots Q (F0 m pc ls (.int i :: .ref (km 2) :: rest)) := by
  subst hf
  exact va_iald fx.1 fx.2.1 fx.2.2.2.2.2.1 hP 2 0 (f := M_breaks z) rfl rfl hin hdg kk
theorem as_breaks {own : String} {km : Nat → Nat} {z : MS} (fx : FX p s m args c own cc nL D q) (hP : va_P D vwCl (cModel km q z) H) (hD : va_D A (cModel km q z)) (hS : va_S A H0 H locs) {f : Nat → Int32} (hf : M_breaks z = f) {i : Int32} {y : Int32} (hin : vp_in i 50) (hdg : decode cc pc = .ok (.iastore, 1)) (kk : ∀ (H1 : Heap) (locs1 : List Loc), va_P D vwCl (cModel km q (M_set_breaks z (upd f i.toNatClampNeg y))) H1 → va_S A H0 H1 locs1 → W p l e R s m args below meth c H1 locs1 cells slots Q (F0 m (pc + 1) ls rest)) : W p l e R s m args below meth c H locs cells slots Q (F0 m pc ls (.int y :: .int i :: .ref (km 2) :: rest)) := by
  subst hf
  exact va_iast fx.1 fx.2.1 fx.2.2.2.2.2.1 hP hD hS 2 0 (f := M_breaks z) rfl rfl hin hdg (fun H locs hP _ hS => kk H locs (by rw [← sa_breaks]; exact hP) hS)
theorem al_rate {own : String} {km : Nat → Nat} {z : MS} (fx : FX p s m args c own cc nL D q) (hP : va_P D vwCl (cModel km q z) H) {f : Nat → Int32} (hf : M_rate z = f) {i : Int32} (hin : vp_in i 50) (hdg : decode cc pc = .ok (.iaload, 1)) (kk : W p l e R s m args below meth c H locs cells slots Q (F0 m (pc + 1) ls (.int (f i.toNatClampNeg) :: rest))) : W p l e R s m args below meth c H locs cells slots Q (F0 m pc ls (.int i :: .ref (km 3) :: rest)) := by
  subst hf
  exact va_iald fx.1 fx.2.1 fx.2.2.2.2.2.1 hP 3 0 (f := M_rate z) rfl rfl hin hdg kk
theorem as_rate {own : String} {km : Nat → Nat} {z : MS} (fx : FX p s m args c own cc nL D q) (hP : va_P D vwCl (cModel km q z) H) (hD : va_D A (cModel km q z)) (hS : va_S A H0 H locs) {f : Nat → Int32} (hf : M_rate z = f) {i : Int32} {y : Int32} (hin : vp_in i 50) (hdg : decode cc pc = .ok (.iastore, 1)) (kk : ∀ (H1 : Heap) (locs1 : List Loc), va_P D vwCl (cModel km q (M_set_rate z (upd f i.toNatClampNeg y))) H1 → va_S A H0 H1 locs1 → W p l e R s m args below meth c H1 locs1 cells slots Q (F0 m (pc + 1) ls rest)) : W p l e R s m args below meth c H locs cells slots Q (F0 m pc ls (.int y :: .int i :: .ref (km 3) :: rest)) := by
  subst hf
  exact va_iast fx.1 fx.2.1 fx.2.2.2.2.2.1 hP hD hS 3 0 (f := M_rate z) rfl rfl hin hdg (fun H locs hP _ hS => kk H locs (by rw [← sa_rate]; exact hP) hS)
theorem al_bearsGas {own : String} {km : Nat → Nat} {z : MS} (fx : FX p s m args c own cc nL D q) (hP : va_P D vwCl (cModel km q z) H) {f : Nat → Int32} (hf : M_bearsGas z = f) {i : Int32} (hin : vp_in i 50) (hdg : decode cc pc = .ok (.baload, 1)) (kk : W p l e R s m args below meth c H locs cells slots Q (F0 m (pc + 1) ls (.int (f i.toNatClampNeg) :: rest))) : W p l e R s m args below meth c H locs cells slots Q (F0 m pc ls (.int i :: .ref (km 4) :: rest)) := by
  subst hf
  exact va_zald fx.1 fx.2.1 fx.2.2.2.2.2.1 hP 4 1 (f := M_bearsGas z) rfl rfl hin hdg kk
theorem as_bearsGas {own : String} {km : Nat → Nat} {z : MS} (fx : FX p s m args c own cc nL D q) (hP : va_P D vwCl (cModel km q z) H) (hD : va_D A (cModel km q z)) (hS : va_S A H0 H locs) {f : Nat → Int32} (hf : M_bearsGas z = f) {i : Int32} {y : Int32} (hin : vp_in i 50) (hdg : decode cc pc = .ok (.bastore, 1)) (kk : ∀ (H1 : Heap) (locs1 : List Loc), va_P D vwCl (cModel km q (M_set_bearsGas z (upd f i.toNatClampNeg (vp_nar .boolean y)))) H1 → va_S A H0 H1 locs1 → W p l e R s m args below meth c H1 locs1 cells slots Q (F0 m (pc + 1) ls rest)) : W p l e R s m args below meth c H locs cells slots Q (F0 m pc ls (.int y :: .int i :: .ref (km 4) :: rest)) := by
  subst hf
  exact va_zast fx.1 fx.2.1 fx.2.2.2.2.2.1 hP hD hS 4 1 (f := M_bearsGas z) rfl rfl hin hdg (fun H locs hP _ hS => kk H locs (by rw [← sa_bearsGas]; exact hP) hS)
theorem al_kept {own : String} {km : Nat → Nat} {z : MS} (fx : FX p s m args c own cc nL D q) (hP : va_P D vwCl (cModel km q z) H) {f : Nat → Int64} (hf : M_kept z = f) {i : Int32} (hin : vp_in i 16) (hdg : decode cc pc = .ok (.laload, 1)) (kk : W p l e R s m args below meth c H locs cells slots Q (F0 m (pc + 1) ls (.long (f i.toNatClampNeg) :: rest))) : W p l e R s m args below meth c H locs cells slots Q (F0 m pc ls (.int i :: .ref (km 5) :: rest)) := by
  subst hf
  exact va_lald fx.1 fx.2.1 fx.2.2.2.2.2.1 hP 5 2 (f := M_kept z) rfl rfl hin hdg kk
theorem as_kept {own : String} {km : Nat → Nat} {z : MS} (fx : FX p s m args c own cc nL D q) (hP : va_P D vwCl (cModel km q z) H) (hD : va_D A (cModel km q z)) (hS : va_S A H0 H locs) {f : Nat → Int64} (hf : M_kept z = f) {i : Int32} {y : Int64} (hin : vp_in i 16) (hdg : decode cc pc = .ok (.lastore, 1)) (kk : ∀ (H1 : Heap) (locs1 : List Loc), va_P D vwCl (cModel km q (M_set_kept z (vp_updL f i.toNatClampNeg y))) H1 → va_S A H0 H1 locs1 → W p l e R s m args below meth c H1 locs1 cells slots Q (F0 m (pc + 1) ls rest)) : W p l e R s m args below meth c H locs cells slots Q (F0 m pc ls (.long y :: .int i :: .ref (km 5) :: rest)) := by
  subst hf
  exact va_last fx.1 fx.2.1 fx.2.2.2.2.2.1 hP hD hS 5 2 (f := M_kept z) rfl rfl hin hdg (fun H locs hP _ hS => kk H locs (by rw [← sa_kept]; exact hP) hS)
theorem al_tested {own : String} {km : Nat → Nat} {z : MS} (fx : FX p s m args c own cc nL D q) (hP : va_P D vwCl (cModel km q z) H) {f : Nat → Int32} (hf : M_tested z = f) {i : Int32} (hin : vp_in i 60) (hdg : decode cc pc = .ok (.iaload, 1)) (kk : W p l e R s m args below meth c H locs cells slots Q (F0 m (pc + 1) ls (.int (f i.toNatClampNeg) :: rest))) : W p l e R s m args below meth c H locs cells slots Q (F0 m pc ls (.int i :: .ref (km 6) :: rest)) := by
  subst hf
  exact va_iald fx.1 fx.2.1 fx.2.2.2.2.2.1 hP 6 0 (f := M_tested z) rfl rfl hin hdg kk
theorem as_tested {own : String} {km : Nat → Nat} {z : MS} (fx : FX p s m args c own cc nL D q) (hP : va_P D vwCl (cModel km q z) H) (hD : va_D A (cModel km q z)) (hS : va_S A H0 H locs) {f : Nat → Int32} (hf : M_tested z = f) {i : Int32} {y : Int32} (hin : vp_in i 60) (hdg : decode cc pc = .ok (.iastore, 1)) (kk : ∀ (H1 : Heap) (locs1 : List Loc), va_P D vwCl (cModel km q (M_set_tested z (upd f i.toNatClampNeg y))) H1 → va_S A H0 H1 locs1 → W p l e R s m args below meth c H1 locs1 cells slots Q (F0 m (pc + 1) ls rest)) : W p l e R s m args below meth c H locs cells slots Q (F0 m pc ls (.int y :: .int i :: .ref (km 6) :: rest)) := by
  subst hf
  exact va_iast fx.1 fx.2.1 fx.2.2.2.2.2.1 hP hD hS 6 0 (f := M_tested z) rfl rfl hin hdg (fun H locs hP _ hS => kk H locs (by rw [← sa_tested]; exact hP) hS)
theorem al_by {own : String} {km : Nat → Nat} {z : MS} (fx : FX p s m args c own cc nL D q) (hP : va_P D vwCl (cModel km q z) H) {f : Nat → Int32} (hf : M_by z = f) {i : Int32} (hin : vp_in i 60) (hdg : decode cc pc = .ok (.iaload, 1)) (kk : W p l e R s m args below meth c H locs cells slots Q (F0 m (pc + 1) ls (.int (f i.toNatClampNeg) :: rest))) : W p l e R s m args below meth c H locs cells slots Q (F0 m pc ls (.int i :: .ref (km 7) :: rest)) := by
  subst hf
  exact va_iald fx.1 fx.2.1 fx.2.2.2.2.2.1 hP 7 0 (f := M_by z) rfl rfl hin hdg kk
theorem as_by {own : String} {km : Nat → Nat} {z : MS} (fx : FX p s m args c own cc nL D q) (hP : va_P D vwCl (cModel km q z) H) (hD : va_D A (cModel km q z)) (hS : va_S A H0 H locs) {f : Nat → Int32} (hf : M_by z = f) {i : Int32} {y : Int32} (hin : vp_in i 60) (hdg : decode cc pc = .ok (.iastore, 1)) (kk : ∀ (H1 : Heap) (locs1 : List Loc), va_P D vwCl (cModel km q (M_set_by z (upd f i.toNatClampNeg y))) H1 → va_S A H0 H1 locs1 → W p l e R s m args below meth c H1 locs1 cells slots Q (F0 m (pc + 1) ls rest)) : W p l e R s m args below meth c H locs cells slots Q (F0 m pc ls (.int y :: .int i :: .ref (km 7) :: rest)) := by
  subst hf
  exact va_iast fx.1 fx.2.1 fx.2.2.2.2.2.1 hP hD hS 7 0 (f := M_by z) rfl rfl hin hdg (fun H locs hP _ hS => kk H locs (by rw [← sa_by]; exact hP) hS)
theorem al_isPassed {own : String} {km : Nat → Nat} {z : MS} (fx : FX p s m args c own cc nL D q) (hP : va_P D vwCl (cModel km q z) H) {f : Nat → Int32} (hf : M_isPassed z = f) {i : Int32} (hin : vp_in i 60) (hdg : decode cc pc = .ok (.baload, 1)) (kk : W p l e R s m args below meth c H locs cells slots Q (F0 m (pc + 1) ls (.int (f i.toNatClampNeg) :: rest))) : W p l e R s m args below meth c H locs cells slots Q (F0 m pc ls (.int i :: .ref (km 8) :: rest)) := by
  subst hf
  exact va_zald fx.1 fx.2.1 fx.2.2.2.2.2.1 hP 8 1 (f := M_isPassed z) rfl rfl hin hdg kk
theorem as_isPassed {own : String} {km : Nat → Nat} {z : MS} (fx : FX p s m args c own cc nL D q) (hP : va_P D vwCl (cModel km q z) H) (hD : va_D A (cModel km q z)) (hS : va_S A H0 H locs) {f : Nat → Int32} (hf : M_isPassed z = f) {i : Int32} {y : Int32} (hin : vp_in i 60) (hdg : decode cc pc = .ok (.bastore, 1)) (kk : ∀ (H1 : Heap) (locs1 : List Loc), va_P D vwCl (cModel km q (M_set_isPassed z (upd f i.toNatClampNeg (vp_nar .boolean y)))) H1 → va_S A H0 H1 locs1 → W p l e R s m args below meth c H1 locs1 cells slots Q (F0 m (pc + 1) ls rest)) : W p l e R s m args below meth c H locs cells slots Q (F0 m pc ls (.int y :: .int i :: .ref (km 8) :: rest)) := by
  subst hf
  exact va_zast fx.1 fx.2.1 fx.2.2.2.2.2.1 hP hD hS 8 1 (f := M_isPassed z) rfl rfl hin hdg (fun H locs hP _ hS => kk H locs (by rw [← sa_isPassed]; exact hP) hS)
theorem al_testedAt {own : String} {km : Nat → Nat} {z : MS} (fx : FX p s m args c own cc nL D q) (hP : va_P D vwCl (cModel km q z) H) {f : Nat → Int32} (hf : M_testedAt z = f) {i : Int32} (hin : vp_in i 60) (hdg : decode cc pc = .ok (.iaload, 1)) (kk : W p l e R s m args below meth c H locs cells slots Q (F0 m (pc + 1) ls (.int (f i.toNatClampNeg) :: rest))) : W p l e R s m args below meth c H locs cells slots Q (F0 m pc ls (.int i :: .ref (km 9) :: rest)) := by
  subst hf
  exact va_iald fx.1 fx.2.1 fx.2.2.2.2.2.1 hP 9 0 (f := M_testedAt z) rfl rfl hin hdg kk
theorem as_testedAt {own : String} {km : Nat → Nat} {z : MS} (fx : FX p s m args c own cc nL D q) (hP : va_P D vwCl (cModel km q z) H) (hD : va_D A (cModel km q z)) (hS : va_S A H0 H locs) {f : Nat → Int32} (hf : M_testedAt z = f) {i : Int32} {y : Int32} (hin : vp_in i 60) (hdg : decode cc pc = .ok (.iastore, 1)) (kk : ∀ (H1 : Heap) (locs1 : List Loc), va_P D vwCl (cModel km q (M_set_testedAt z (upd f i.toNatClampNeg y))) H1 → va_S A H0 H1 locs1 → W p l e R s m args below meth c H1 locs1 cells slots Q (F0 m (pc + 1) ls rest)) : W p l e R s m args below meth c H locs cells slots Q (F0 m pc ls (.int y :: .int i :: .ref (km 9) :: rest)) := by
  subst hf
  exact va_iast fx.1 fx.2.1 fx.2.2.2.2.2.1 hP hD hS 9 0 (f := M_testedAt z) rfl rfl hin hdg (fun H locs hP _ hS => kk H locs (by rw [← sa_testedAt]; exact hP) hS)
theorem al_stops {own : String} {km : Nat → Nat} {z : MS} (fx : FX p s m args c own cc nL D q) (hP : va_P D vwCl (cModel km q z) H) {f : Nat → Int32} (hf : M_stops z = f) {i : Int32} (hin : vp_in i 6) (hdg : decode cc pc = .ok (.baload, 1)) (kk : W p l e R s m args below meth c H locs cells slots Q (F0 m (pc + 1) ls (.int (f i.toNatClampNeg) :: rest))) : W p l e R s m args below meth c H locs cells slots Q (F0 m pc ls (.int i :: .ref (km 10) :: rest)) := by
  subst hf
  exact va_zald fx.1 fx.2.1 fx.2.2.2.2.2.1 hP 10 1 (f := M_stops z) rfl rfl hin hdg kk
theorem as_stops {own : String} {km : Nat → Nat} {z : MS} (fx : FX p s m args c own cc nL D q) (hP : va_P D vwCl (cModel km q z) H) (hD : va_D A (cModel km q z)) (hS : va_S A H0 H locs) {f : Nat → Int32} (hf : M_stops z = f) {i : Int32} {y : Int32} (hin : vp_in i 6) (hdg : decode cc pc = .ok (.bastore, 1)) (kk : ∀ (H1 : Heap) (locs1 : List Loc), va_P D vwCl (cModel km q (M_set_stops z (upd f i.toNatClampNeg (vp_nar .boolean y)))) H1 → va_S A H0 H1 locs1 → W p l e R s m args below meth c H1 locs1 cells slots Q (F0 m (pc + 1) ls rest)) : W p l e R s m args below meth c H locs cells slots Q (F0 m pc ls (.int y :: .int i :: .ref (km 10) :: rest)) := by
  subst hf
  exact va_zast fx.1 fx.2.1 fx.2.2.2.2.2.1 hP hD hS 10 1 (f := M_stops z) rfl rfl hin hdg (fun H locs hP _ hS => kk H locs (by rw [← sa_stops]; exact hP) hS)
theorem runM {y : MethodName} {bytes : ByteArray} {maxL n idx mc ms : Nat} {ret : Option FieldType} {rm : Room} {Qc : Array Value → State → Outcome → State → Prop} {free : Addr → Prop} {As : List Value} {own : String} {km : Nat → Nat} {z : MS} (fx : FX p s m args c own cc nL D q) (hM : Met l y (Cond.code y bytes maxL ret :: ALL) rm (PC D q (.ref (km 0) :: As) (cModel km q z) H.size) Qc mc ms free) (lk : LKV own idx RX4 y bytes maxL ret n) (hroom : rm.frames + 1 ≤ R.frames ∧ 8 + (maxL + 11) + rm.locals ≤ R.locals) (hrm : rm.cells = mc ∧ rm.slots = ms)
    (hP : va_P D vwCl (cModel km q z) H) (hD : va_D A (cModel km q z)) (hn : As.length = n) (hl : ls.size = nL) (hst : st = As.reverse ++ .ref (km 0) :: rest) (hW : (rest.map fun v => v.category).sum ≤ 8) (hdg : decode cc pc = .ok (.invokevirtual idx, 3)) (hf : cells + mc ≤ R.cells ∧ slots + ms ≤ R.slots) :
    va_Run p l e R s m args below meth c H locs cells slots mc ms (F0 m pc ls st) rest (Qc (Value.ref (km 0) :: As).toArray) free :=
  runV fx hM lk hroom hrm hP hD [0, 1, 2, 3, 4, 5, 6, 7, 8, 9, 10] (pl_Model km q z) rfl (ci := 4) rfl rfl hn hl hst hW hdg hf
theorem kM_i {a : Array Value} {km : Nat → Nat} {z : MS} {post : Int32 → MS → Prop} (hr : va_Run p l e R s m args below meth c H locs cells slots 0 0 (F0 m pc ls st) rest (va_Qi post (fun u t => va_P D vwCl (cModel km q u) t.heap) (va_A (cModel km q z) H.size) a) (va_A (cModel km q z) H.size)) (hP : va_P D vwCl (cModel km q z) H) (hD : va_D A (cModel km q z)) (hS : va_S A H0 H locs) (hA : ∀ q, H0.size ≤ q → A q)
    (kk : ∀ (r : Int32) (u : MS) (H1 : Heap) (locs1 : List Loc), post r u → va_P D vwCl (cModel km q u) H1 → va_S A H0 H1 locs1 → W p l e R s m args below meth c H1 locs1 cells slots Q (F0 m (pc + 3) ls (.int r :: rest))) : W p l e R s m args below meth c H locs cells slots Q (F0 m pc ls st) :=
  kW_i hr hP hD hS hA [0, 1, 2, 3, 4, 5, 6, 7, 8, 9, 10] (pl_Model km q z) (fun _ => rfl) (fun r u H1 locs1 hp hP1 hS1 => kk r u H1 locs1 hp (by rw [all_Model] at hP1; exact hP1) hS1)
theorem kM_v {a : Array Value} {km : Nat → Nat} {z : MS} {post : MS → Prop} (hr : va_Run p l e R s m args below meth c H locs cells slots 0 0 (F0 m pc ls st) rest (va_Qv post (fun u t => va_P D vwCl (cModel km q u) t.heap) (va_A (cModel km q z) H.size) a) (va_A (cModel km q z) H.size)) (hP : va_P D vwCl (cModel km q z) H) (hD : va_D A (cModel km q z)) (hS : va_S A H0 H locs) (hA : ∀ q, H0.size ≤ q → A q)
    (kk : ∀ (u : MS) (H1 : Heap) (locs1 : List Loc), post u → va_P D vwCl (cModel km q u) H1 → va_S A H0 H1 locs1 → W p l e R s m args below meth c H1 locs1 cells slots Q (F0 m (pc + 3) ls rest)) : W p l e R s m args below meth c H locs cells slots Q (F0 m pc ls st) :=
  kW_v hr hP hD hS hA [0, 1, 2, 3, 4, 5, 6, 7, 8, 9, 10] (pl_Model km q z) (fun _ => rfl) (fun u H1 locs1 hp hP1 hS1 => kk u H1 locs1 hp (by rw [all_Model] at hP1; exact hP1) hS1)

theorem kimax {own : String} {idx : Nat} (fx : FX p s m args c own cc nL D q) (hlk : Cond.methodLink own idx Lib.Math.max.name ∈ ALL) (hsz : ls.size = nL) (hf : 1 ≤ R.frames) (hlo : (rest.map fun v => v.category).sum + 13 ≤ R.locals) (hc : cells ≤ R.cells) (hs : slots ≤ R.slots) {x y : Int32} (hdg : decode cc pc = .ok (.invokestatic idx, 3)) (kk : W p l e R s m args below meth c H locs cells slots Q (F0 m (pc + 3) ls (.int (imax x y) :: rest))) : W p l e R s m args below meth c H locs cells slots Q (F0 m pc ls (.int y :: .int x :: rest)) :=
  va_mmax fx.1 fx.2.1 (fx.2.2.1.trans hsz.symm) fx.2.2.2.1 (fx.2.2.2.2.1 _ hlk) (fx.2.2.2.2.1 _ mm_262) (fx.2.2.2.2.1 _ mm_263) (fx.2.2.2.2.1 _ mm_264) hf hlo hc hs hdg kk
theorem kimin {own : String} {idx : Nat} (fx : FX p s m args c own cc nL D q) (hlk : Cond.methodLink own idx Lib.Math.min.name ∈ ALL) (hsz : ls.size = nL) (hf : 1 ≤ R.frames) (hlo : (rest.map fun v => v.category).sum + 13 ≤ R.locals) (hc : cells ≤ R.cells) (hs : slots ≤ R.slots) {x y : Int32} (hdg : decode cc pc = .ok (.invokestatic idx, 3)) (kk : W p l e R s m args below meth c H locs cells slots Q (F0 m (pc + 3) ls (.int (imin x y) :: rest))) : W p l e R s m args below meth c H locs cells slots Q (F0 m pc ls (.int y :: .int x :: rest)) :=
  va_mmin fx.1 fx.2.1 (fx.2.2.1.trans hsz.symm) fx.2.2.2.1 (fx.2.2.2.2.1 _ hlk) (fx.2.2.2.2.1 _ mm_265) (fx.2.2.2.2.1 _ mm_263) (fx.2.2.2.2.1 _ mm_266) hf hlo hc hs hdg kk
theorem klmin {own : String} {idx : Nat} (fx : FX p s m args c own cc nL D q) (hlk : Cond.methodLink own idx Lib.MathLoose.min_long.x ∈ ALL) (hsz : ls.size = nL) (hf : 1 ≤ R.frames) (hlo : (rest.map fun v => v.category).sum + 15 ≤ R.locals) (hc : cells ≤ R.cells) (hs : slots ≤ R.slots) {x y : Int64} (hdg : decode cc pc = .ok (.invokestatic idx, 3)) (kk : W p l e R s m args below meth c H locs cells slots Q (F0 m (pc + 3) ls (.long (lmin x y) :: rest))) : W p l e R s m args below meth c H locs cells slots Q (F0 m pc ls (.long y :: .long x :: rest)) :=
  va_mmin_long fx.1 fx.2.1 (fx.2.2.1.trans hsz.symm) fx.2.2.2.1 (fx.2.2.2.2.1 _ hlk) (fx.2.2.2.2.1 _ mm_267) (fx.2.2.2.2.1 _ mm_263) (fx.2.2.2.2.1 _ mm_268) hf hlo hc hs hdg kk

end FR
end
section
/-! Methods that throw: what a throw needs of the tables, what the caller has of it. -/
def excName : Nat → String
  | 1 => "java/lang/IndexOutOfBoundsException"
  | 2 => "java/lang/IllegalArgumentException"
  | _ => "java/lang/IllegalStateException"
def tik : Nat → Nat
  | 1 => 43
  | 2 => 50
  | _ => 58
def tic : Nat → Nat
  | 1 => 47
  | 2 => 54
  | _ => 62
def EN : List String := ["java/lang/RuntimeException", "java/lang/Exception"]
def atK (k : Nat) : List Cond := vx_atS RX3 (tic k) (excName k) EN
/-- the words of a throw that a warming does not keep by themselves -/
def XB : List Cond := [.castable "java/lang/IndexOutOfBoundsException" "java/lang/IndexOutOfBoundsException", .castable "java/lang/IllegalArgumentException" "java/lang/IllegalArgumentException", .castable "java/lang/IllegalStateException" "java/lang/IllegalStateException",
  .declares ⟨"java/lang/RuntimeException", "<init>", "(Ljava/lang/String;)V"⟩, .declares ⟨"java/lang/Exception", "<init>", "(Ljava/lang/String;)V"⟩, .declares ⟨"java/lang/Throwable", "<init>", "(Ljava/lang/String;)V"⟩]
def SL : List (Nat × String) := [(45, "there is no such layer"), (52, "pore, breaks or rate is out of range"), (60, "the layer is drilled into"), (67, "weight is out of range"), (73, "the well is closed"), (81, "metres is out of range"), (91, "drilling is barred, or would go too deep or too long"), (97, "minutes is out of range"), (99, "the minutes would be too many"), (105, "the well is open"), (110, "minutes or weight is out of range"), (112, "the well is open or has no depth, or the minutes would be too many"), (121, "barrels is out of range"), (130, "the depth is the shoe, or there is gas or liquid"), (139, "strength is out of range"), (144, "what or pressure is out of range"), (149, "the well is closed, there were 60 tests, or there is no casing"), (161, "there is no such person"), (189, "what is out of range"), (218, "there is no such test"), (236, "the depth is 0"), (238, "from or to is out of range"), (250, "to is out of range"), (258, "the shoe is 0")]
def NCL : List (Nat × Nat) := [(1, 2), (1, 3), (2, 1), (2, 3), (3, 1), (3, 2)]
theorem XB_tab : ∀ w ∈ XB, w.onTables = true := by decide +kernel
theorem at1_g : ∀ w ∈ (atK 1).filter goodWord, w ∈ lw_tbl := by decide +kernel
theorem at2_g : ∀ w ∈ (atK 2).filter goodWord, w ∈ lw_tbl := by decide +kernel
theorem at3_g : ∀ w ∈ (atK 3).filter goodWord, w ∈ lw_tbl := by decide +kernel
theorem at1_b : ∀ w ∈ (atK 1).filter (fun w => !goodWord w), w ∈ XB := by decide +kernel
theorem at2_b : ∀ w ∈ (atK 2).filter (fun w => !goodWord w), w ∈ XB := by decide +kernel
theorem at3_b : ∀ w ∈ (atK 3).filter (fun w => !goodWord w), w ∈ XB := by decide +kernel
theorem at1_o : ∀ w ∈ Cond.classLink RX3 (tik 1) (excName 1) :: Cond.initialized (excName 1) :: atK 1, vx_ot w = true := by decide +kernel
theorem at2_o : ∀ w ∈ Cond.classLink RX3 (tik 2) (excName 2) :: Cond.initialized (excName 2) :: atK 2, vx_ot w = true := by decide +kernel
theorem at3_o : ∀ w ∈ Cond.classLink RX3 (tik 3) (excName 3) :: Cond.initialized (excName 3) :: atK 3, vx_ot w = true := by decide +kernel
theorem kl1 : Cond.classLink RX3 (tik 1) (excName 1) ∈ ALL := ALL_i (List.mem_append_right _ (List.mem_append_right _ (List.mem_append_left _ (List.mem_of_getElem? (i := 9) (by decide +kernel))))) (by decide +kernel)
theorem kl2 : Cond.classLink RX3 (tik 2) (excName 2) ∈ ALL := ALL_i (List.mem_append_right _ (List.mem_append_right _ (List.mem_append_left _ (List.mem_of_getElem? (i := 77) (by decide +kernel))))) (by decide +kernel)
theorem kl3 : Cond.classLink RX3 (tik 3) (excName 3) ∈ ALL := ALL_i (List.mem_append_right _ (List.mem_append_right _ (List.mem_append_left _ (List.mem_of_getElem? (i := 93) (by decide +kernel))))) (by decide +kernel)
theorem ki1 : Cond.initialized (excName 1) ∈ ALL := ALL_i (List.mem_append_right _ (List.mem_append_left _ (List.mem_of_getElem? (i := 10) (by decide +kernel)))) (by decide +kernel)
theorem ki2 : Cond.initialized (excName 2) ∈ ALL := ALL_i (List.mem_append_right _ (List.mem_append_left _ (List.mem_of_getElem? (i := 11) (by decide +kernel)))) (by decide +kernel)
theorem ki3 : Cond.initialized (excName 3) ∈ ALL := ALL_i (List.mem_append_right _ (List.mem_append_left _ (List.mem_of_getElem? (i := 12) (by decide +kernel)))) (by decide +kernel)
theorem EN_fit : ∀ n ∈ EN, Bundle.fit n = true := by decide +kernel
def SX (U : State) : Prop := (∀ w ∈ XB, va_Nw w U) ∧ (∀ z ∈ SL, ∃ sa, vk_R RX3 z.1 z.2 sa U) ∧ (∀ z ∈ NCL, va_Nc (excName z.1) (excName z.2) U)
theorem xb_warm {w : Cond} (hw : w ∈ XB) {s U : State} (hW : s.WarmedH U.vm) (h : va_Nw w s) : va_Nw w U := by
  simp only [XB, List.mem_cons, List.not_mem_nil, or_false] at hw
  rcases hw with rfl | rfl | rfl | rfl | rfl | rfl
  · exact va_Nw.warmC hW h
  · exact va_Nw.warmC hW h
  · exact va_Nw.warmC hW h
  · exact va_Nw.warmD hW h
  · exact va_Nw.warmD hW h
  · exact va_Nw.warmD hW h
theorem SX.warm {s U : State} (hW : s.WarmedH U.vm) (h : SX s) : SX U :=
  ⟨fun w hw => xb_warm hw hW (h.1 w hw), fun z hz => (h.2.1 z hz).elim fun sa h => ⟨sa, vk_R.warm hW h⟩, fun z hz => va_Nc.moved hW.alike (h.2.2 z hz)⟩
theorem SX.same {u U : State} (hv : u.vm = U.vm) (h : SX u) : SX U :=
  ⟨fun w hw => va_Nw.same (XB_tab w hw) hv (h.1 w hw), fun z hz => (h.2.1 z hz).elim fun sa h => ⟨sa, vk_R.same hv.symm h⟩, fun z hz => va_Nc.moved (by rw [hv]; exact Vm.Alike.refl _) (h.2.2 z hz)⟩
/-- where Throwable's two statics lie, outside of what may be written -/
def SZ (A : Nat → Prop) (U : State) (H : Heap) : Prop := vx_Zq Bundle.tN "UNASSIGNED_STACK" Bundle.steD A U H ∧ vx_Zq Bundle.tN "SUPPRESSED_SENTINEL" Bundle.listD A U H
theorem SZ.moved {A : Nat → Prop} {u U : State} {H : Heap} (hvm : u.vm.Alike U.vm) (h : SZ A u H) : SZ A U H := ⟨vx_Zq.moved hvm h.1, vx_Zq.moved hvm h.2⟩
theorem SZ.kept {A : Nat → Prop} {U : State} {H H1 : Heap} (h : SZ A U H) (hq : ∀ a : Nat, a < H.size → ¬ A a → H1[a]? = H[a]?) : SZ A U H1 := ⟨vx_Zq.kept h.1 hq, vx_Zq.kept h.2 hq⟩
theorem SZ.narrow {A B : Nat → Prop} {U : State} {H : Heap} (h : SZ A U H) (hAB : ∀ q, B q → A q) : SZ B U H := ⟨vx_Zq.narrow h.1 hAB, vx_Zq.narrow h.2 hAB⟩
def PX (D : va_G) (q : Nat → ClassId) (av : List Value) (ws : va_W) (sz : Nat) : Array Value → State → Prop :=
  va_Pc av (fun U => U.heap.size = sz ∧ va_P D vwCl ws U.heap ∧ KK D q U ∧ va_D (fun _ => True) ws ∧ SX U ∧ SZ (va_A ws sz) U U.heap)
theorem PX_blind {D : va_G} {q : Nat → ClassId} {av : List Value} {ws : va_W} {sz : Nat} : FrameBlind (PX D q av ws sz) := fun a U g mk h => by
  obtain ⟨e, h1, h2, h3, h4, h5, h6⟩ := h
  exact ⟨e, h1, h2, KK.same (u := U) (U := U.calling g mk a) rfl h3, h4, SX.same (u := U) (U := U.calling g mk a) rfl h5, SZ.moved (u := U) (U := U.calling g mk a) (Vm.Alike.refl U.vm) h6⟩
/-- what the caller has of a throw: which exception (k), the method's world as it was -/
def XCk (D : va_G) (ws : va_W) (sz : Nat) (px : Nat → Prop) : String → State → State → Prop :=
  vx_X (fun k : Nat => (k = 1 ∨ k = 2 ∨ k = 3) ∧ px k) (fun E k t => E = excName k ∧ va_P D vwCl ws t.heap) (va_A ws sz)
section THR
variable {p : Program} {l : Launch} {e : Env} {R : Room} {s : State} {m : MethodId} {args : Array Value} {below : List Frame} {meth : Method} {c : Code} {H : Heap} {locs : List Loc} {cells slots : Nat} {Q : State → Prop}
variable {D : va_G} {q : Nat → ClassId} {ws : va_W} {A : Nat → Prop} {H0 : Heap} {own : String} {cc : ByteArray} {nL : Nat} {pc : Nat} {ls : Array Slot} {rest st : List Value}
theorem at_all {k : Nat} (hk : k = 1 ∨ k = 2 ∨ k = 3) (hts : ∀ w ∈ ALL, w.before args s = true) (hSX : SX s) : ∀ w ∈ atK k, w.before args s = true := by
  have hB : ∀ w ∈ XB, w.before args s = true := fun w hw => va_Nw.use (XB_tab w hw) (hSX.1 w hw)
  have hG : ∀ L : List Cond, (∀ w ∈ L.filter goodWord, w ∈ lw_tbl) → ∀ w ∈ L.filter goodWord, w.before args s = true := fun L hL w hw => hts w (ALL_i (hL w hw) (List.mem_filter.mp hw).2)
  rcases hk with rfl | rfl | rfl
  · exact vx_hat (hG _ at1_g) at1_b hB
  · exact vx_hat (hG _ at2_g) at2_b hB
  · exact vx_hat (hG _ at3_g) at3_b hB
theorem thr_row {sz k is : Nat} {text : String} {rm : Room} {px : Nat → Prop} {Qc : Array Value → State → Outcome → State → Prop} (hstk : l.stackTraces = false) (fx : FX p s m args c RX3 cc nL D q) (htab : ∀ x ∈ c.exceptionTable.toList, False) (hlocks : meth.locks = false) (hSX : SX s) (hSZ : SZ (va_A ws sz) s s.heap)
    (hk : k = 1 ∨ k = 2 ∨ k = 3) (hls : ls.size = nL) (hcat : (rest.map fun v => v.category).sum ≤ 8) (hsl : (is, text) ∈ SL)
    (hd : decode cc pc = .ok (.new (tik k), 3) ∧ decode cc (pc + 3) = .ok (.dup, 1) ∧ ((decode cc (pc + 4) = .ok (.ldc is, 2) ∧ decode cc (pc + 6) = .ok (.invokespecial (tic k), 3) ∧ decode cc (pc + 9) = .ok (.athrow, 1)) ∨ (decode cc (pc + 4) = .ok (.ldc_w is, 3) ∧ decode cc (pc + 7) = .ok (.invokespecial (tic k), 3) ∧ decode cc (pc + 10) = .ok (.athrow, 1))))
    (hp : px k) (hP : va_P D vwCl ws H) (hS : va_S (va_A ws sz) s.heap H locs) (hrm : 5 < rm.frames ∧ 90 ≤ rm.locals ∧ rm.cells = 1 ∧ rm.slots = 6) :
    W p l e rm s m args below meth c H locs 0 0 (vx_MQ below Qc (XCk D ws sz px) args s 1 6 (va_A ws sz)) (F0 m pc ls rest) := by
  obtain ⟨sa, hstr⟩ := hSX.2.1 _ hsl
  have hat := at_all (args := args) hk fx.2.2.2.2.1 hSX
  have hx : ∀ t : State, s.vm.Alike t.vm → H.size ≤ t.heap.size → (∀ q : Nat, q < H.size → t.heap[q]? = H[q]?) → XCk D ws sz px (excName k) s t := fun t h1 h2 h3 =>
    ⟨k, ⟨hk, hp⟩, ⟨rfl, hP.kept (fun j x hx => h3 x.1 ((hP j x hx).lt))⟩, Nat.le_trans hS.1 h2, fun a ha hn => (h3 a (Nat.lt_of_lt_of_le ha hS.1)).trans (hS.2.1 a ha hn)⟩
  have hfit : Bundle.fit (excName k) = true := by rcases hk with rfl | rfl | rfl <;> decide +kernel
  have hkl : (Cond.classLink RX3 (tik k) (excName k)).before args s = true := fx.2.2.2.2.1 _ (by rcases hk with rfl | rfl | rfl; exact kl1; exact kl2; exact kl3)
  have hki : (Cond.initialized (excName k)).before args s = true := fx.2.2.2.2.1 _ (by rcases hk with rfl | rfl | rfl; exact ki1; exact ki2; exact ki3)
  have hgo : ∀ w ∈ Cond.classLink RX3 (tik k) (excName k) :: Cond.initialized (excName k) :: vx_atS RX3 (tic k) (excName k) EN, vx_ot w = true := by rcases hk with rfl | rfl | rfl; exact at1_o; exact at2_o; exact at3_o
  obtain ⟨h1, h2, h3, h4⟩ := hrm
  obtain ⟨d0, d3, ⟨d4, d6, d9⟩ | ⟨d4, d6, d9⟩⟩ := hd
  · exact vx_throwS (names := EN) fx.1 fx.2.1 hstk fx.2.2.2.1 hfit EN_fit hkl hki hstr hat hgo hSZ.1 hSZ.2 hS (hls.trans fx.2.2.1.symm) d0 d3 d4 d6 d9 (fun x hx => (htab x hx).elim) h1 (by show _ + 82 ≤ _; omega) (by omega) (by omega) hlocks hx hS.2.2 (Nat.le_refl _) (Nat.le_refl _)
  · exact vx_throwSW (names := EN) fx.1 fx.2.1 hstk fx.2.2.2.1 hfit EN_fit hkl hki hstr hat hgo hSZ.1 hSZ.2 hS (hls.trans fx.2.2.1.symm) d0 d3 d4 d6 d9 (fun x hx => (htab x hx).elim) h1 (by show _ + 82 ≤ _; omega) (by omega) (by omega) hlocks hx hS.2.2 (Nat.le_refl _) (Nat.le_refl _)
variable {y : MethodName} {rm : Room} {av : List Value} {sz : Nat} {S : Type} {C : S → va_W}
theorem en_xi {post : Int32 → S → Prop} {px : Nat → Prop} (hstk : l.stackTraces = false) (hcls : y.cls = RX3) (hy : plainName y.cls = true) (hav : (lg_sl av).length ≤ nL) (hrm : 5 < rm.frames ∧ 90 ≤ rm.locals ∧ rm.cells = 1 ∧ rm.slots = 6)
    (body : ∀ (p : Program) (e : Env) (s : State) (m : MethodId) (args : Array Value) (below : List Frame) (meth : Method) (c : Code) (Q : State → Prop) (A : Nat → Prop) (H : Heap) (locs : List Loc) (ls : Array Slot), FX p s m args c RX3 cc nL D q → va_D A ws → (∀ a, s.heap.size ≤ a → A a) → va_P D vwCl ws H → va_S A s.heap H locs → lv_has ls nL (lv_args 0 av) →
      (∀ (r : Int32) (u : S) (pc : Nat) (H : Heap) (locs : List Loc) (ls : Array Slot), decode cc pc = .ok (.ireturn, 1) → post r u → va_P D vwCl (C u) H → va_S A s.heap H locs → W p l e rm s m args below meth c H locs 0 0 Q (F0 m pc ls [.int r])) →
      (∀ (k is : Nat) (text : String) (pc : Nat) (H : Heap) (locs : List Loc) (ls : Array Slot) (rest : List Value), (k = 1 ∨ k = 2 ∨ k = 3) → ls.size = nL → (rest.map fun v => v.category).sum ≤ 8 → (is, text) ∈ SL →
        (decode cc pc = .ok (.new (tik k), 3) ∧ decode cc (pc + 3) = .ok (.dup, 1) ∧ ((decode cc (pc + 4) = .ok (.ldc is, 2) ∧ decode cc (pc + 6) = .ok (.invokespecial (tic k), 3) ∧ decode cc (pc + 9) = .ok (.athrow, 1)) ∨ (decode cc (pc + 4) = .ok (.ldc_w is, 3) ∧ decode cc (pc + 7) = .ok (.invokespecial (tic k), 3) ∧ decode cc (pc + 10) = .ok (.athrow, 1)))) →
        px k → va_P D vwCl ws H → va_S A s.heap H locs → W p l e rm s m args below meth c H locs 0 0 Q (F0 m pc ls rest)) →
      W p l e rm s m args below meth c H locs 0 0 Q (F0 m 0 ls [])) :
    vx_Met l y (Cond.code y cc nL (some .int) :: ALL) rm (PX D q av ws sz) (va_Qi post (fun u t => va_P D vwCl (C u) t.heap) (va_A ws sz)) (XCk D ws sz px) 1 6 (va_A ws sz) := by
  refine vx_ofW (cc := cc) (maxL := nL) (ret := some .int) hy rfl ?_
  intro p e s m args below meth c s₁ B hml htab hv
  obtain ⟨rfl, hsz, hP, hK, hD, hSX, hSZ⟩ := hv
  have fx : FX p s m av.toArray c RX3 cc nL D q := fx_of hcls B (fun h w hw => atoms_spec (ws := Cond.code y cc nL (some .int) :: ALL) h w (List.mem_cons_of_mem _ hw)) hml hK
  have hl := lv_entry av hav
  rw [lg_entry_eq]
  generalize (lg_sl av ++ List.replicate (nL - (lg_sl av).length) Slot.unset).toArray = ls at hl ⊢
  refine body p e s m av.toArray below meth c _ (va_A ws sz) s.heap [] ls fx hD.self (fun a h => Or.inr (hsz ▸ h)) hP va_S.rf hl (fun r u pc H locs ls hdg hp hB hS => ?_) (fun k is text pc H locs ls rest hk hls hcat hsl hd hp hP2 hS => ?_)
  · refine W.widen (k := 1) (n := 6) (Nat.zero_le _) (Nat.zero_le _) (vx_ret ?_)
    exact W.iret fx.1 fx.2.1 B.returns (fun t ht hW => ⟨⟨r, u, rfl, hp, by show va_P D vwCl (C u) t.heap; rw [ht]; exact hB⟩, hS.F ht⟩) hS.2.2 hdg B.notSynchronized
  · exact thr_row hstk fx htab B.notSynchronized hSX hSZ hk hls hcat hsl hd hp hP2 hS hrm
theorem en_xz {post : Int32 → S → Prop} {px : Nat → Prop} (hstk : l.stackTraces = false) (hcls : y.cls = RX3) (hy : plainName y.cls = true) (hav : (lg_sl av).length ≤ nL) (hrm : 5 < rm.frames ∧ 90 ≤ rm.locals ∧ rm.cells = 1 ∧ rm.slots = 6)
    (body : ∀ (p : Program) (e : Env) (s : State) (m : MethodId) (args : Array Value) (below : List Frame) (meth : Method) (c : Code) (Q : State → Prop) (A : Nat → Prop) (H : Heap) (locs : List Loc) (ls : Array Slot), FX p s m args c RX3 cc nL D q → va_D A ws → (∀ a, s.heap.size ≤ a → A a) → va_P D vwCl ws H → va_S A s.heap H locs → lv_has ls nL (lv_args 0 av) →
      (∀ (r : Int32) (u : S) (pc : Nat) (H : Heap) (locs : List Loc) (ls : Array Slot), decode cc pc = .ok (.ireturn, 1) → bz r → post r u → va_P D vwCl (C u) H → va_S A s.heap H locs → W p l e rm s m args below meth c H locs 0 0 Q (F0 m pc ls [.int r])) →
      (∀ (k is : Nat) (text : String) (pc : Nat) (H : Heap) (locs : List Loc) (ls : Array Slot) (rest : List Value), (k = 1 ∨ k = 2 ∨ k = 3) → ls.size = nL → (rest.map fun v => v.category).sum ≤ 8 → (is, text) ∈ SL →
        (decode cc pc = .ok (.new (tik k), 3) ∧ decode cc (pc + 3) = .ok (.dup, 1) ∧ ((decode cc (pc + 4) = .ok (.ldc is, 2) ∧ decode cc (pc + 6) = .ok (.invokespecial (tic k), 3) ∧ decode cc (pc + 9) = .ok (.athrow, 1)) ∨ (decode cc (pc + 4) = .ok (.ldc_w is, 3) ∧ decode cc (pc + 7) = .ok (.invokespecial (tic k), 3) ∧ decode cc (pc + 10) = .ok (.athrow, 1)))) →
        px k → va_P D vwCl ws H → va_S A s.heap H locs → W p l e rm s m args below meth c H locs 0 0 Q (F0 m pc ls rest)) →
      W p l e rm s m args below meth c H locs 0 0 Q (F0 m 0 ls [])) :
    vx_Met l y (Cond.code y cc nL (some .boolean) :: ALL) rm (PX D q av ws sz) (va_Qi (fun r u => post r u ∧ bz r) (fun u t => va_P D vwCl (C u) t.heap) (va_A ws sz)) (XCk D ws sz px) 1 6 (va_A ws sz) := by
  refine vx_ofW (cc := cc) (maxL := nL) (ret := some .boolean) hy rfl ?_
  intro p e s m args below meth c s₁ B hml htab hv
  obtain ⟨rfl, hsz, hP, hK, hD, hSX, hSZ⟩ := hv
  have fx : FX p s m av.toArray c RX3 cc nL D q := fx_of hcls B (fun h w hw => atoms_spec (ws := Cond.code y cc nL (some .boolean) :: ALL) h w (List.mem_cons_of_mem _ hw)) hml hK
  have hl := lv_entry av hav
  rw [lg_entry_eq]
  generalize (lg_sl av ++ List.replicate (nL - (lg_sl av).length) Slot.unset).toArray = ls at hl ⊢
  refine body p e s m av.toArray below meth c _ (va_A ws sz) s.heap [] ls fx hD.self (fun a h => Or.inr (hsz ▸ h)) hP va_S.rf hl (fun r u pc H locs ls hdg hz hp hB hS => ?_) (fun k is text pc H locs ls rest hk hls hcat hsl hd hp hP2 hS => ?_)
  · refine W.widen (k := 1) (n := 6) (Nat.zero_le _) (Nat.zero_le _) (vx_ret ?_)
    exact W.zret fx.1 fx.2.1 B.returns (bz_n hz) (fun t ht hW => ⟨⟨r, u, rfl, ⟨hp, hz⟩, by show va_P D vwCl (C u) t.heap; rw [ht]; exact hB⟩, hS.F ht⟩) hS.2.2 hdg B.notSynchronized
  · exact thr_row hstk fx htab B.notSynchronized hSX hSZ hk hls hcat hsl hd hp hP2 hS hrm
theorem en_xl {post : Int64 → S → Prop} {px : Nat → Prop} (hstk : l.stackTraces = false) (hcls : y.cls = RX3) (hy : plainName y.cls = true) (hav : (lg_sl av).length ≤ nL) (hrm : 5 < rm.frames ∧ 90 ≤ rm.locals ∧ rm.cells = 1 ∧ rm.slots = 6)
    (body : ∀ (p : Program) (e : Env) (s : State) (m : MethodId) (args : Array Value) (below : List Frame) (meth : Method) (c : Code) (Q : State → Prop) (A : Nat → Prop) (H : Heap) (locs : List Loc) (ls : Array Slot), FX p s m args c RX3 cc nL D q → va_D A ws → (∀ a, s.heap.size ≤ a → A a) → va_P D vwCl ws H → va_S A s.heap H locs → lv_has ls nL (lv_args 0 av) →
      (∀ (r : Int64) (u : S) (pc : Nat) (H : Heap) (locs : List Loc) (ls : Array Slot), decode cc pc = .ok (.lreturn, 1) → post r u → va_P D vwCl (C u) H → va_S A s.heap H locs → W p l e rm s m args below meth c H locs 0 0 Q (F0 m pc ls [.long r])) →
      (∀ (k is : Nat) (text : String) (pc : Nat) (H : Heap) (locs : List Loc) (ls : Array Slot) (rest : List Value), (k = 1 ∨ k = 2 ∨ k = 3) → ls.size = nL → (rest.map fun v => v.category).sum ≤ 8 → (is, text) ∈ SL →
        (decode cc pc = .ok (.new (tik k), 3) ∧ decode cc (pc + 3) = .ok (.dup, 1) ∧ ((decode cc (pc + 4) = .ok (.ldc is, 2) ∧ decode cc (pc + 6) = .ok (.invokespecial (tic k), 3) ∧ decode cc (pc + 9) = .ok (.athrow, 1)) ∨ (decode cc (pc + 4) = .ok (.ldc_w is, 3) ∧ decode cc (pc + 7) = .ok (.invokespecial (tic k), 3) ∧ decode cc (pc + 10) = .ok (.athrow, 1)))) →
        px k → va_P D vwCl ws H → va_S A s.heap H locs → W p l e rm s m args below meth c H locs 0 0 Q (F0 m pc ls rest)) →
      W p l e rm s m args below meth c H locs 0 0 Q (F0 m 0 ls [])) :
    vx_Met l y (Cond.code y cc nL (some .long) :: ALL) rm (PX D q av ws sz) (va_Ql post (fun u t => va_P D vwCl (C u) t.heap) (va_A ws sz)) (XCk D ws sz px) 1 6 (va_A ws sz) := by
  refine vx_ofW (cc := cc) (maxL := nL) (ret := some .long) hy rfl ?_
  intro p e s m args below meth c s₁ B hml htab hv
  obtain ⟨rfl, hsz, hP, hK, hD, hSX, hSZ⟩ := hv
  have fx : FX p s m av.toArray c RX3 cc nL D q := fx_of hcls B (fun h w hw => atoms_spec (ws := Cond.code y cc nL (some .long) :: ALL) h w (List.mem_cons_of_mem _ hw)) hml hK
  have hl := lv_entry av hav
  rw [lg_entry_eq]
  generalize (lg_sl av ++ List.replicate (nL - (lg_sl av).length) Slot.unset).toArray = ls at hl ⊢
  refine body p e s m av.toArray below meth c _ (va_A ws sz) s.heap [] ls fx hD.self (fun a h => Or.inr (hsz ▸ h)) hP va_S.rf hl (fun r u pc H locs ls hdg hp hB hS => ?_) (fun k is text pc H locs ls rest hk hls hcat hsl hd hp hP2 hS => ?_)
  · refine W.widen (k := 1) (n := 6) (Nat.zero_le _) (Nat.zero_le _) (vx_ret ?_)
    exact W.lret fx.1 fx.2.1 B.returns (fun t ht hW => ⟨⟨r, u, rfl, hp, by show va_P D vwCl (C u) t.heap; rw [ht]; exact hB⟩, hS.F ht⟩) hS.2.2 hdg B.notSynchronized
  · exact thr_row hstk fx htab B.notSynchronized hSX hSZ hk hls hcat hsl hd hp hP2 hS hrm
theorem en_xf {post : UInt32 → S → Prop} {px : Nat → Prop} (hstk : l.stackTraces = false) (hcls : y.cls = RX3) (hy : plainName y.cls = true) (hav : (lg_sl av).length ≤ nL) (hrm : 5 < rm.frames ∧ 90 ≤ rm.locals ∧ rm.cells = 1 ∧ rm.slots = 6)
    (body : ∀ (p : Program) (e : Env) (s : State) (m : MethodId) (args : Array Value) (below : List Frame) (meth : Method) (c : Code) (Q : State → Prop) (A : Nat → Prop) (H : Heap) (locs : List Loc) (ls : Array Slot), FX p s m args c RX3 cc nL D q → va_D A ws → (∀ a, s.heap.size ≤ a → A a) → va_P D vwCl ws H → va_S A s.heap H locs → lv_has ls nL (lv_args 0 av) →
      (∀ (r : UInt32) (u : S) (pc : Nat) (H : Heap) (locs : List Loc) (ls : Array Slot), decode cc pc = .ok (.freturn, 1) → post r u → va_P D vwCl (C u) H → va_S A s.heap H locs → W p l e rm s m args below meth c H locs 0 0 Q (F0 m pc ls [.float r])) →
      (∀ (k is : Nat) (text : String) (pc : Nat) (H : Heap) (locs : List Loc) (ls : Array Slot) (rest : List Value), (k = 1 ∨ k = 2 ∨ k = 3) → ls.size = nL → (rest.map fun v => v.category).sum ≤ 8 → (is, text) ∈ SL →
        (decode cc pc = .ok (.new (tik k), 3) ∧ decode cc (pc + 3) = .ok (.dup, 1) ∧ ((decode cc (pc + 4) = .ok (.ldc is, 2) ∧ decode cc (pc + 6) = .ok (.invokespecial (tic k), 3) ∧ decode cc (pc + 9) = .ok (.athrow, 1)) ∨ (decode cc (pc + 4) = .ok (.ldc_w is, 3) ∧ decode cc (pc + 7) = .ok (.invokespecial (tic k), 3) ∧ decode cc (pc + 10) = .ok (.athrow, 1)))) →
        px k → va_P D vwCl ws H → va_S A s.heap H locs → W p l e rm s m args below meth c H locs 0 0 Q (F0 m pc ls rest)) →
      W p l e rm s m args below meth c H locs 0 0 Q (F0 m 0 ls [])) :
    vx_Met l y (Cond.code y cc nL (some .float) :: ALL) rm (PX D q av ws sz) (va_Qf post (fun u t => va_P D vwCl (C u) t.heap) (va_A ws sz)) (XCk D ws sz px) 1 6 (va_A ws sz) := by
  refine vx_ofW (cc := cc) (maxL := nL) (ret := some .float) hy rfl ?_
  intro p e s m args below meth c s₁ B hml htab hv
  obtain ⟨rfl, hsz, hP, hK, hD, hSX, hSZ⟩ := hv
  have fx : FX p s m av.toArray c RX3 cc nL D q := fx_of hcls B (fun h w hw => atoms_spec (ws := Cond.code y cc nL (some .float) :: ALL) h w (List.mem_cons_of_mem _ hw)) hml hK
  have hl := lv_entry av hav
  rw [lg_entry_eq]
  generalize (lg_sl av ++ List.replicate (nL - (lg_sl av).length) Slot.unset).toArray = ls at hl ⊢
  refine body p e s m av.toArray below meth c _ (va_A ws sz) s.heap [] ls fx hD.self (fun a h => Or.inr (hsz ▸ h)) hP va_S.rf hl (fun r u pc H locs ls hdg hp hB hS => ?_) (fun k is text pc H locs ls rest hk hls hcat hsl hd hp hP2 hS => ?_)
  · refine W.widen (k := 1) (n := 6) (Nat.zero_le _) (Nat.zero_le _) (vx_ret ?_)
    exact W.fret fx.1 fx.2.1 B.returns (fun t ht hW => ⟨⟨r, u, rfl, hp, by show va_P D vwCl (C u) t.heap; rw [ht]; exact hB⟩, hS.F ht⟩) hS.2.2 hdg B.notSynchronized
  · exact thr_row hstk fx htab B.notSynchronized hSX hSZ hk hls hcat hsl hd hp hP2 hS hrm
theorem en_xv {post : S → Prop} {px : Nat → Prop} (hstk : l.stackTraces = false) (hcls : y.cls = RX3) (hy : plainName y.cls = true) (hav : (lg_sl av).length ≤ nL) (hrm : 5 < rm.frames ∧ 90 ≤ rm.locals ∧ rm.cells = 1 ∧ rm.slots = 6)
    (body : ∀ (p : Program) (e : Env) (s : State) (m : MethodId) (args : Array Value) (below : List Frame) (meth : Method) (c : Code) (Q : State → Prop) (A : Nat → Prop) (H : Heap) (locs : List Loc) (ls : Array Slot), FX p s m args c RX3 cc nL D q → va_D A ws → (∀ a, s.heap.size ≤ a → A a) → va_P D vwCl ws H → va_S A s.heap H locs → lv_has ls nL (lv_args 0 av) →
      (∀ (u : S) (pc : Nat) (H : Heap) (locs : List Loc) (ls : Array Slot), decode cc pc = .ok (.return_, 1) → post u → va_P D vwCl (C u) H → va_S A s.heap H locs → W p l e rm s m args below meth c H locs 0 0 Q (F0 m pc ls [])) →
      (∀ (k is : Nat) (text : String) (pc : Nat) (H : Heap) (locs : List Loc) (ls : Array Slot) (rest : List Value), (k = 1 ∨ k = 2 ∨ k = 3) → ls.size = nL → (rest.map fun v => v.category).sum ≤ 8 → (is, text) ∈ SL →
        (decode cc pc = .ok (.new (tik k), 3) ∧ decode cc (pc + 3) = .ok (.dup, 1) ∧ ((decode cc (pc + 4) = .ok (.ldc is, 2) ∧ decode cc (pc + 6) = .ok (.invokespecial (tic k), 3) ∧ decode cc (pc + 9) = .ok (.athrow, 1)) ∨ (decode cc (pc + 4) = .ok (.ldc_w is, 3) ∧ decode cc (pc + 7) = .ok (.invokespecial (tic k), 3) ∧ decode cc (pc + 10) = .ok (.athrow, 1)))) →
        px k → va_P D vwCl ws H → va_S A s.heap H locs → W p l e rm s m args below meth c H locs 0 0 Q (F0 m pc ls rest)) →
      W p l e rm s m args below meth c H locs 0 0 Q (F0 m 0 ls [])) :
    vx_Met l y (Cond.code y cc nL (none) :: ALL) rm (PX D q av ws sz) (va_Qv post (fun u t => va_P D vwCl (C u) t.heap) (va_A ws sz)) (XCk D ws sz px) 1 6 (va_A ws sz) := by
  refine vx_ofW (cc := cc) (maxL := nL) (ret := none) hy rfl ?_
  intro p e s m args below meth c s₁ B hml htab hv
  obtain ⟨rfl, hsz, hP, hK, hD, hSX, hSZ⟩ := hv
  have fx : FX p s m av.toArray c RX3 cc nL D q := fx_of hcls B (fun h w hw => atoms_spec (ws := Cond.code y cc nL (none) :: ALL) h w (List.mem_cons_of_mem _ hw)) hml hK
  have hl := lv_entry av hav
  rw [lg_entry_eq]
  generalize (lg_sl av ++ List.replicate (nL - (lg_sl av).length) Slot.unset).toArray = ls at hl ⊢
  refine body p e s m av.toArray below meth c _ (va_A ws sz) s.heap [] ls fx hD.self (fun a h => Or.inr (hsz ▸ h)) hP va_S.rf hl (fun u pc H locs ls hdg hp hB hS => ?_) (fun k is text pc H locs ls rest hk hls hcat hsl hd hp hP2 hS => ?_)
  · refine W.widen (k := 1) (n := 6) (Nat.zero_le _) (Nat.zero_le _) (vx_ret ?_)
    exact W.vret fx.1 fx.2.1 B.returns (fun t ht hW => ⟨⟨u, rfl, hp, by show va_P D vwCl (C u) t.heap; rw [ht]; exact hB⟩, hS.F ht⟩) hS.2.2 hdg B.notSynchronized
  · exact thr_row hstk fx htab B.notSynchronized hSX hSZ hk hls hcat hsl hd hp hP2 hS hrm
end THR
end
