section
-- ===== PART A: goes FIRST, ahead of the names: the tables' words, and 'selects' of the private methods out of them =====
/-- a private method of a class that the tables say can be made, by its rows of tables_1 -/
def lw_okq (q : MethodName × Nat) : Prop := (q.1.cls ≠ "java/lang/invoke/MethodHandle" ∧ q.1.cls ≠ "java/lang/invoke/VarHandle") ∧ Cond.instantiable q.1.cls q.2 ∈ tables_1 ∧ Cond.privateMethod q.1 ∈ tables_1 ∧ Cond.instanceMethod q.1 ∈ tables_1
theorem lw_p0 : lw_okq (⟨"PillowCourt$Reader", "advance", "()V"⟩, 6) := ⟨⟨by decide +kernel, by decide +kernel⟩, List.mem_of_getElem? (i := 27) (by decide +kernel), List.mem_of_getElem? (i := 285) (by decide +kernel), List.mem_of_getElem? (i := 286) (by decide +kernel)⟩
theorem lw_p1 : lw_okq (⟨"PillowCourt$Reader", "scanNumber", "()I"⟩, 6) := ⟨⟨by decide +kernel, by decide +kernel⟩, List.mem_of_getElem? (i := 27) (by decide +kernel), List.mem_of_getElem? (i := 292) (by decide +kernel), List.mem_of_getElem? (i := 293) (by decide +kernel)⟩
theorem lw_p2 : lw_okq (⟨"PillowCourt$Reader", "readItem", "(LPillowCourt$Told;Z)Z"⟩, 6) := ⟨⟨by decide +kernel, by decide +kernel⟩, List.mem_of_getElem? (i := 27) (by decide +kernel), List.mem_of_getElem? (i := 299) (by decide +kernel), List.mem_of_getElem? (i := 300) (by decide +kernel)⟩
theorem lw_p3 : lw_okq (⟨"PillowCourt$Reader", "readPillows", "(LPillowCourt$Told;)Z"⟩, 6) := ⟨⟨by decide +kernel, by decide +kernel⟩, List.mem_of_getElem? (i := 27) (by decide +kernel), List.mem_of_getElem? (i := 303) (by decide +kernel), List.mem_of_getElem? (i := 304) (by decide +kernel)⟩
theorem lw_p4 : lw_okq (⟨"PillowCourt$Reader", "readNumber", "(II)Z"⟩, 6) := ⟨⟨by decide +kernel, by decide +kernel⟩, List.mem_of_getElem? (i := 27) (by decide +kernel), List.mem_of_getElem? (i := 307) (by decide +kernel), List.mem_of_getElem? (i := 308) (by decide +kernel)⟩
theorem lw_p5 : lw_okq (⟨"PillowCourt$Reader", "readItemEnd", "()Z"⟩, 6) := ⟨⟨by decide +kernel, by decide +kernel⟩, List.mem_of_getElem? (i := 27) (by decide +kernel), List.mem_of_getElem? (i := 311) (by decide +kernel), List.mem_of_getElem? (i := 312) (by decide +kernel)⟩
theorem lw_p6 : lw_okq (⟨"PillowCourt$Reader", "readPerson", "(LPillowCourt$Told;)Z"⟩, 6) := ⟨⟨by decide +kernel, by decide +kernel⟩, List.mem_of_getElem? (i := 27) (by decide +kernel), List.mem_of_getElem? (i := 315) (by decide +kernel), List.mem_of_getElem? (i := 316) (by decide +kernel)⟩
theorem lw_p7 : lw_okq (⟨"PillowCourt$Reader", "readClash", "(LPillowCourt$Told;)Z"⟩, 6) := ⟨⟨by decide +kernel, by decide +kernel⟩, List.mem_of_getElem? (i := 27) (by decide +kernel), List.mem_of_getElem? (i := 323) (by decide +kernel), List.mem_of_getElem? (i := 324) (by decide +kernel)⟩
theorem lw_p8 : lw_okq (⟨"PillowCourt", "safePillows", "(I)I"⟩, 13) := ⟨⟨by decide +kernel, by decide +kernel⟩, List.mem_of_getElem? (i := 19) (by decide +kernel), List.mem_of_getElem? (i := 344) (by decide +kernel), List.mem_of_getElem? (i := 345) (by decide +kernel)⟩
theorem lw_p9 : lw_okq (⟨"PillowCourt$Scene", "hear", "(II)V"⟩, 1) := ⟨⟨by decide +kernel, by decide +kernel⟩, List.mem_of_getElem? (i := 54) (by decide +kernel), List.mem_of_getElem? (i := 460) (by decide +kernel), List.mem_of_getElem? (i := 461) (by decide +kernel)⟩
theorem lw_p10 : lw_okq (⟨"PillowCourt$Scene", "setTimes", "(III)V"⟩, 1) := ⟨⟨by decide +kernel, by decide +kernel⟩, List.mem_of_getElem? (i := 54) (by decide +kernel), List.mem_of_getElem? (i := 464) (by decide +kernel), List.mem_of_getElem? (i := 465) (by decide +kernel)⟩
theorem lw_p11 : lw_okq (⟨"PillowCourt", "areTwoPillows", "(II)Z"⟩, 13) := ⟨⟨by decide +kernel, by decide +kernel⟩, List.mem_of_getElem? (i := 19) (by decide +kernel), List.mem_of_getElem? (i := 482) (by decide +kernel), List.mem_of_getElem? (i := 483) (by decide +kernel)⟩
theorem lw_p12 : lw_okq (⟨"PillowCourt$Fitting", "bestOf", "(LPillowCourt$Told;II)I"⟩, 2) := ⟨⟨by decide +kernel, by decide +kernel⟩, List.mem_of_getElem? (i := 89) (by decide +kernel), List.mem_of_getElem? (i := 542) (by decide +kernel), List.mem_of_getElem? (i := 543) (by decide +kernel)⟩
theorem lw_p13 : lw_okq (⟨"PillowCourt$Fitting", "mostWith", "(III)I"⟩, 2) := ⟨⟨by decide +kernel, by decide +kernel⟩, List.mem_of_getElem? (i := 89) (by decide +kernel), List.mem_of_getElem? (i := 546) (by decide +kernel), List.mem_of_getElem? (i := 547) (by decide +kernel)⟩
theorem lw_p14 : lw_okq (⟨"PillowCourt$Fitting", "firstBest", "(LPillowCourt$Told;II)I"⟩, 2) := ⟨⟨by decide +kernel, by decide +kernel⟩, List.mem_of_getElem? (i := 89) (by decide +kernel), List.mem_of_getElem? (i := 561) (by decide +kernel), List.mem_of_getElem? (i := 562) (by decide +kernel)⟩
theorem lw_p15 : lw_okq (⟨"PillowCourt", "listen", "(II)V"⟩, 13) := ⟨⟨by decide +kernel, by decide +kernel⟩, List.mem_of_getElem? (i := 19) (by decide +kernel), List.mem_of_getElem? (i := 578) (by decide +kernel), List.mem_of_getElem? (i := 579) (by decide +kernel)⟩
def lw_privs_1 : List (MethodName × Nat) := [(⟨"PillowCourt$Reader", "advance", "()V"⟩, 6), (⟨"PillowCourt$Reader", "scanNumber", "()I"⟩, 6), (⟨"PillowCourt$Reader", "readItem", "(LPillowCourt$Told;Z)Z"⟩, 6), (⟨"PillowCourt$Reader", "readPillows", "(LPillowCourt$Told;)Z"⟩, 6), (⟨"PillowCourt$Reader", "readNumber", "(II)Z"⟩, 6), (⟨"PillowCourt$Reader", "readItemEnd", "()Z"⟩, 6), (⟨"PillowCourt$Reader", "readPerson", "(LPillowCourt$Told;)Z"⟩, 6), (⟨"PillowCourt$Reader", "readClash", "(LPillowCourt$Told;)Z"⟩, 6), (⟨"PillowCourt", "safePillows", "(I)I"⟩, 13), (⟨"PillowCourt$Scene", "hear", "(II)V"⟩, 1), (⟨"PillowCourt$Scene", "setTimes", "(III)V"⟩, 1), (⟨"PillowCourt", "areTwoPillows", "(II)Z"⟩, 13), (⟨"PillowCourt$Fitting", "bestOf", "(LPillowCourt$Told;II)I"⟩, 2), (⟨"PillowCourt$Fitting", "mostWith", "(III)I"⟩, 2), (⟨"PillowCourt$Fitting", "firstBest", "(LPillowCourt$Told;II)I"⟩, 2), (⟨"PillowCourt", "listen", "(II)V"⟩, 13)]
theorem lw_r1 : ∀ q ∈ lw_privs_1, lw_okq q := List.forall_mem_cons.mpr ⟨lw_p0, List.forall_mem_cons.mpr ⟨lw_p1, List.forall_mem_cons.mpr ⟨lw_p2, List.forall_mem_cons.mpr ⟨lw_p3, List.forall_mem_cons.mpr ⟨lw_p4, List.forall_mem_cons.mpr ⟨lw_p5, List.forall_mem_cons.mpr ⟨lw_p6, List.forall_mem_cons.mpr ⟨lw_p7, List.forall_mem_cons.mpr ⟨lw_p8, List.forall_mem_cons.mpr ⟨lw_p9, List.forall_mem_cons.mpr ⟨lw_p10, List.forall_mem_cons.mpr ⟨lw_p11, List.forall_mem_cons.mpr ⟨lw_p12, List.forall_mem_cons.mpr ⟨lw_p13, List.forall_mem_cons.mpr ⟨lw_p14, List.forall_mem_cons.mpr ⟨lw_p15, fun _ h => absurd h List.not_mem_nil⟩⟩⟩⟩⟩⟩⟩⟩⟩⟩⟩⟩⟩⟩⟩⟩
theorem lw_p16 : lw_okq (⟨"PillowCourt", "agreesWithNotes", "()Z"⟩, 13) := ⟨⟨by decide +kernel, by decide +kernel⟩, List.mem_of_getElem? (i := 19) (by decide +kernel), List.mem_of_getElem? (i := 596) (by decide +kernel), List.mem_of_getElem? (i := 597) (by decide +kernel)⟩
theorem lw_p17 : lw_okq (⟨"PillowCourtModel", "plain", "()V"⟩, 18) := ⟨⟨by decide +kernel, by decide +kernel⟩, List.mem_of_getElem? (i := 676) (by decide +kernel), List.mem_of_getElem? (i := 682) (by decide +kernel), List.mem_of_getElem? (i := 683) (by decide +kernel)⟩
theorem lw_p18 : lw_okq (⟨"PillowCourtModel", "takes", "()V"⟩, 18) := ⟨⟨by decide +kernel, by decide +kernel⟩, List.mem_of_getElem? (i := 676) (by decide +kernel), List.mem_of_getElem? (i := 686) (by decide +kernel), List.mem_of_getElem? (i := 687) (by decide +kernel)⟩
theorem lw_p19 : lw_okq (⟨"PillowCourtModel", "reads", "()V"⟩, 18) := ⟨⟨by decide +kernel, by decide +kernel⟩, List.mem_of_getElem? (i := 676) (by decide +kernel), List.mem_of_getElem? (i := 761) (by decide +kernel), List.mem_of_getElem? (i := 762) (by decide +kernel)⟩
theorem lw_p20 : lw_okq (⟨"PillowCourtModel", "readItem", "(I)Z"⟩, 18) := ⟨⟨by decide +kernel, by decide +kernel⟩, List.mem_of_getElem? (i := 676) (by decide +kernel), List.mem_of_getElem? (i := 770) (by decide +kernel), List.mem_of_getElem? (i := 771) (by decide +kernel)⟩
theorem lw_p21 : lw_okq (⟨"PillowCourtModel", "number", "(II)Z"⟩, 18) := ⟨⟨by decide +kernel, by decide +kernel⟩, List.mem_of_getElem? (i := 676) (by decide +kernel), List.mem_of_getElem? (i := 774) (by decide +kernel), List.mem_of_getElem? (i := 775) (by decide +kernel)⟩
theorem lw_p22 : lw_okq (⟨"PillowCourtModel", "itemEnds", "()Z"⟩, 18) := ⟨⟨by decide +kernel, by decide +kernel⟩, List.mem_of_getElem? (i := 676) (by decide +kernel), List.mem_of_getElem? (i := 778) (by decide +kernel), List.mem_of_getElem? (i := 779) (by decide +kernel)⟩
theorem lw_p23 : lw_okq (⟨"PillowCourtModel", "readClash", "()Z"⟩, 18) := ⟨⟨by decide +kernel, by decide +kernel⟩, List.mem_of_getElem? (i := 676) (by decide +kernel), List.mem_of_getElem? (i := 782) (by decide +kernel), List.mem_of_getElem? (i := 783) (by decide +kernel)⟩
theorem lw_p24 : lw_okq (⟨"PillowCourtModel", "isPerson", "(I)Z"⟩, 18) := ⟨⟨by decide +kernel, by decide +kernel⟩, List.mem_of_getElem? (i := 676) (by decide +kernel), List.mem_of_getElem? (i := 790) (by decide +kernel), List.mem_of_getElem? (i := 791) (by decide +kernel)⟩
theorem lw_p25 : lw_okq (⟨"PillowCourtModel", "safe", "(I)I"⟩, 18) := ⟨⟨by decide +kernel, by decide +kernel⟩, List.mem_of_getElem? (i := 676) (by decide +kernel), List.mem_of_getElem? (i := 795) (by decide +kernel), List.mem_of_getElem? (i := 796) (by decide +kernel)⟩
theorem lw_p26 : lw_okq (⟨"PillowCourtModel", "knows", "(I)I"⟩, 18) := ⟨⟨by decide +kernel, by decide +kernel⟩, List.mem_of_getElem? (i := 676) (by decide +kernel), List.mem_of_getElem? (i := 799) (by decide +kernel), List.mem_of_getElem? (i := 800) (by decide +kernel)⟩
theorem lw_p27 : lw_okq (⟨"PillowCourtModel", "isPillow", "(I)Z"⟩, 18) := ⟨⟨by decide +kernel, by decide +kernel⟩, List.mem_of_getElem? (i := 676) (by decide +kernel), List.mem_of_getElem? (i := 815) (by decide +kernel), List.mem_of_getElem? (i := 816) (by decide +kernel)⟩
theorem lw_p28 : lw_okq (⟨"PillowCourtModel", "hears", "(I)I"⟩, 18) := ⟨⟨by decide +kernel, by decide +kernel⟩, List.mem_of_getElem? (i := 676) (by decide +kernel), List.mem_of_getElem? (i := 820) (by decide +kernel), List.mem_of_getElem? (i := 821) (by decide +kernel)⟩
theorem lw_p29 : lw_okq (⟨"PillowCourtModel", "often", "(II)I"⟩, 18) := ⟨⟨by decide +kernel, by decide +kernel⟩, List.mem_of_getElem? (i := 676) (by decide +kernel), List.mem_of_getElem? (i := 824) (by decide +kernel), List.mem_of_getElem? (i := 825) (by decide +kernel)⟩
theorem lw_p30 : lw_okq (⟨"PillowCourtModel", "lieOn", "(I)I"⟩, 18) := ⟨⟨by decide +kernel, by decide +kernel⟩, List.mem_of_getElem? (i := 676) (by decide +kernel), List.mem_of_getElem? (i := 828) (by decide +kernel), List.mem_of_getElem? (i := 829) (by decide +kernel)⟩
theorem lw_p31 : lw_okq (⟨"PillowCourtModel", "hear", "(I)I"⟩, 18) := ⟨⟨by decide +kernel, by decide +kernel⟩, List.mem_of_getElem? (i := 676) (by decide +kernel), List.mem_of_getElem? (i := 840) (by decide +kernel), List.mem_of_getElem? (i := 841) (by decide +kernel)⟩
def lw_privs_2 : List (MethodName × Nat) := [(⟨"PillowCourt", "agreesWithNotes", "()Z"⟩, 13), (⟨"PillowCourtModel", "plain", "()V"⟩, 18), (⟨"PillowCourtModel", "takes", "()V"⟩, 18), (⟨"PillowCourtModel", "reads", "()V"⟩, 18), (⟨"PillowCourtModel", "readItem", "(I)Z"⟩, 18), (⟨"PillowCourtModel", "number", "(II)Z"⟩, 18), (⟨"PillowCourtModel", "itemEnds", "()Z"⟩, 18), (⟨"PillowCourtModel", "readClash", "()Z"⟩, 18), (⟨"PillowCourtModel", "isPerson", "(I)Z"⟩, 18), (⟨"PillowCourtModel", "safe", "(I)I"⟩, 18), (⟨"PillowCourtModel", "knows", "(I)I"⟩, 18), (⟨"PillowCourtModel", "isPillow", "(I)Z"⟩, 18), (⟨"PillowCourtModel", "hears", "(I)I"⟩, 18), (⟨"PillowCourtModel", "often", "(II)I"⟩, 18), (⟨"PillowCourtModel", "lieOn", "(I)I"⟩, 18), (⟨"PillowCourtModel", "hear", "(I)I"⟩, 18)]
theorem lw_r2 : ∀ q ∈ lw_privs_2, lw_okq q := List.forall_mem_cons.mpr ⟨lw_p16, List.forall_mem_cons.mpr ⟨lw_p17, List.forall_mem_cons.mpr ⟨lw_p18, List.forall_mem_cons.mpr ⟨lw_p19, List.forall_mem_cons.mpr ⟨lw_p20, List.forall_mem_cons.mpr ⟨lw_p21, List.forall_mem_cons.mpr ⟨lw_p22, List.forall_mem_cons.mpr ⟨lw_p23, List.forall_mem_cons.mpr ⟨lw_p24, List.forall_mem_cons.mpr ⟨lw_p25, List.forall_mem_cons.mpr ⟨lw_p26, List.forall_mem_cons.mpr ⟨lw_p27, List.forall_mem_cons.mpr ⟨lw_p28, List.forall_mem_cons.mpr ⟨lw_p29, List.forall_mem_cons.mpr ⟨lw_p30, List.forall_mem_cons.mpr ⟨lw_p31, fun _ h => absurd h List.not_mem_nil⟩⟩⟩⟩⟩⟩⟩⟩⟩⟩⟩⟩⟩⟩⟩⟩
theorem lw_p32 : lw_okq (⟨"PillowCourtModel", "against", "()I"⟩, 18) := ⟨⟨by decide +kernel, by decide +kernel⟩, List.mem_of_getElem? (i := 676) (by decide +kernel), List.mem_of_getElem? (i := 844) (by decide +kernel), List.mem_of_getElem? (i := 845) (by decide +kernel)⟩
theorem lw_p33 : lw_okq (⟨"PillowCourtModel", "alone", "()I"⟩, 18) := ⟨⟨by decide +kernel, by decide +kernel⟩, List.mem_of_getElem? (i := 676) (by decide +kernel), List.mem_of_getElem? (i := 851) (by decide +kernel), List.mem_of_getElem? (i := 852) (by decide +kernel)⟩
theorem lw_p34 : lw_okq (⟨"PillowCourtModel", "keepsUndo", "()V"⟩, 18) := ⟨⟨by decide +kernel, by decide +kernel⟩, List.mem_of_getElem? (i := 676) (by decide +kernel), List.mem_of_getElem? (i := 859) (by decide +kernel), List.mem_of_getElem? (i := 860) (by decide +kernel)⟩
theorem lw_p35 : lw_okq (⟨"PillowCourtModel", "goesBy", "(I)I"⟩, 18) := ⟨⟨by decide +kernel, by decide +kernel⟩, List.mem_of_getElem? (i := 676) (by decide +kernel), List.mem_of_getElem? (i := 868) (by decide +kernel), List.mem_of_getElem? (i := 869) (by decide +kernel)⟩
theorem lw_p36 : lw_okq (⟨"PillowCourtModel", "says", "(II)I"⟩, 18) := ⟨⟨by decide +kernel, by decide +kernel⟩, List.mem_of_getElem? (i := 676) (by decide +kernel), List.mem_of_getElem? (i := 872) (by decide +kernel), List.mem_of_getElem? (i := 873) (by decide +kernel)⟩
theorem lw_p37 : lw_okq (⟨"PillowCourtModel", "works", "()V"⟩, 18) := ⟨⟨by decide +kernel, by decide +kernel⟩, List.mem_of_getElem? (i := 676) (by decide +kernel), List.mem_of_getElem? (i := 913) (by decide +kernel), List.mem_of_getElem? (i := 914) (by decide +kernel)⟩
theorem lw_p38 : lw_okq (⟨"PillowCourtModel", "explains", "(II)I"⟩, 18) := ⟨⟨by decide +kernel, by decide +kernel⟩, List.mem_of_getElem? (i := 676) (by decide +kernel), List.mem_of_getElem? (i := 917) (by decide +kernel), List.mem_of_getElem? (i := 918) (by decide +kernel)⟩
theorem lw_p39 : lw_okq (⟨"PillowCourtModel", "asides", "()V"⟩, 18) := ⟨⟨by decide +kernel, by decide +kernel⟩, List.mem_of_getElem? (i := 676) (by decide +kernel), List.mem_of_getElem? (i := 934) (by decide +kernel), List.mem_of_getElem? (i := 935) (by decide +kernel)⟩
theorem lw_p40 : lw_okq (⟨"PillowCourtModel", "backs", "()V"⟩, 18) := ⟨⟨by decide +kernel, by decide +kernel⟩, List.mem_of_getElem? (i := 676) (by decide +kernel), List.mem_of_getElem? (i := 938) (by decide +kernel), List.mem_of_getElem? (i := 939) (by decide +kernel)⟩
theorem lw_p41 : lw_okq (⟨"PillowCourtModel", "isSo", "(I)Z"⟩, 18) := ⟨⟨by decide +kernel, by decide +kernel⟩, List.mem_of_getElem? (i := 676) (by decide +kernel), List.mem_of_getElem? (i := 954) (by decide +kernel), List.mem_of_getElem? (i := 955) (by decide +kernel)⟩
def lw_privs_3 : List (MethodName × Nat) := [(⟨"PillowCourtModel", "against", "()I"⟩, 18), (⟨"PillowCourtModel", "alone", "()I"⟩, 18), (⟨"PillowCourtModel", "keepsUndo", "()V"⟩, 18), (⟨"PillowCourtModel", "goesBy", "(I)I"⟩, 18), (⟨"PillowCourtModel", "says", "(II)I"⟩, 18), (⟨"PillowCourtModel", "works", "()V"⟩, 18), (⟨"PillowCourtModel", "explains", "(II)I"⟩, 18), (⟨"PillowCourtModel", "asides", "()V"⟩, 18), (⟨"PillowCourtModel", "backs", "()V"⟩, 18), (⟨"PillowCourtModel", "isSo", "(I)Z"⟩, 18)]
theorem lw_r3 : ∀ q ∈ lw_privs_3, lw_okq q := List.forall_mem_cons.mpr ⟨lw_p32, List.forall_mem_cons.mpr ⟨lw_p33, List.forall_mem_cons.mpr ⟨lw_p34, List.forall_mem_cons.mpr ⟨lw_p35, List.forall_mem_cons.mpr ⟨lw_p36, List.forall_mem_cons.mpr ⟨lw_p37, List.forall_mem_cons.mpr ⟨lw_p38, List.forall_mem_cons.mpr ⟨lw_p39, List.forall_mem_cons.mpr ⟨lw_p40, List.forall_mem_cons.mpr ⟨lw_p41, fun _ h => absurd h List.not_mem_nil⟩⟩⟩⟩⟩⟩⟩⟩⟩⟩
def lw_privs : List (MethodName × Nat) := lw_privs_1 ++ (lw_privs_2 ++ (lw_privs_3))
def lw_tbl : List Cond := k2_sels lw_privs ++ tables_1
theorem lw_privs_ok : ∀ q ∈ lw_privs, lw_okq q := by
  show ∀ q ∈ lw_privs_1 ++ (lw_privs_2 ++ (lw_privs_3)), lw_okq q
  exact List.forall_mem_append.mpr ⟨lw_r1, List.forall_mem_append.mpr ⟨lw_r2, lw_r3⟩⟩
end
section
/-! ===== BEGIN words of one list among another's, by their places ===== -/
theorem goodIn_r {big : List Cond} (ws : List Cond) (ps : List Nat) (hp : ws = ps.filterMap (fun i => big[i]?)) (h : ws.all goodWord = true) : GoodIn big ws := by
  intro w hw
  have h1 := List.all_eq_true.mp h w hw
  rw [hp] at hw
  obtain ⟨i, -, hi⟩ := List.mem_filterMap.mp hw
  have hm : w ∈ big := by first | exact List.mem_of_getElem? hi | exact List.getElem?_mem hi
  exact ⟨hm, good_of_word h1⟩
theorem goodIn_app {big a b : List Cond} (ha : GoodIn big a) (hb : GoodIn big b) : GoodIn big (a ++ b) := fun w h => (List.mem_append.mp h).elim (ha w) (hb w)
theorem goodIn_ca {big a b : List Cond} {c : Cond} (ha : GoodIn big (c :: a)) (hb : GoodIn big b) : GoodIn big (c :: (a ++ b)) := fun w h => (List.mem_cons.mp h).elim (fun e => ha w (List.mem_cons.mpr (Or.inl e))) (fun h => (List.mem_append.mp h).elim (fun h => ha w (List.mem_cons.mpr (Or.inr h))) (hb w))
theorem goodIn_sub {big ws : List Cond} (hm : ∀ w ∈ ws, w ∈ big) (h : ws.all goodWord = true) : GoodIn big ws := fun w hw => ⟨hm w hw, good_of_word (List.all_eq_true.mp h w hw)⟩
/-! ===== END ===== -/

/-! ===== BEGIN printed: names, fields, word lists, decode rows ===== -/
def RX0 : String := "PillowCourt$Fitting"
def TX0 : u_T := fun k => match k with
  | 0 => ("PillowCourt$Fitting", "gains", "[I", true)
  | _ => ("PillowCourt$Fitting", "most", "[I", true)
def tyX0 : Nat → FieldType := fun k => match k with
  | 0 => .array .int
  | _ => .array .int
abbrev wsX00 : List Cond := u_ws RX0 TX0 2
theorem nmX0 : ∀ a, a < 2 → ∀ b, b < 2 → a ≠ b → (TX0 a).2.1 ≠ (TX0 b).2.1 := by decide +kernel
theorem tyX0_ok : ∀ k, k < 2 → parseFieldDescriptor (TX0 k).2.2.1 = some (tyX0 k) := by decide +kernel
abbrev cX0_init : ByteArray := prog_2_method_1_code
def yX0_init : MethodName := ⟨RX0, "<init>", "()V"⟩
abbrev cX0_weigh : ByteArray := prog_2_method_2_code
def yX0_weigh : MethodName := ⟨RX0, "weigh", "(LPillowCourt$Told;LPillowCourt$Scene;)V"⟩
abbrev cX0_bestOf : ByteArray := prog_2_method_3_code
def yX0_bestOf : MethodName := ⟨RX0, "bestOf", "(LPillowCourt$Told;II)I"⟩
abbrev cX0_mostWith : ByteArray := prog_2_method_4_code
def yX0_mostWith : MethodName := ⟨RX0, "mostWith", "(III)I"⟩
abbrev cX0_explained : ByteArray := prog_2_method_5_code
def yX0_explained : MethodName := ⟨RX0, "explained", "()I"⟩
abbrev cX0_pillowOf : ByteArray := prog_2_method_6_code
def yX0_pillowOf : MethodName := ⟨RX0, "pillowOf", "(LPillowCourt$Told;I)I"⟩
abbrev cX0_firstBest : ByteArray := prog_2_method_7_code
def yX0_firstBest : MethodName := ⟨RX0, "firstBest", "(LPillowCourt$Told;II)I"⟩
def RX1 : String := "PillowCourt$KindBench"
def TX1 : u_T := fun k => match k with
  | _ => ("PillowCourt$KindPillow", "added", "J", false)
def tyX1 : Nat → FieldType := fun k => match k with
  | _ => .long
abbrev wsX10 : List Cond := u_ws RX1 TX1 1
theorem nmX1 : ∀ a, a < 1 → ∀ b, b < 1 → a ≠ b → (TX1 a).2.1 ≠ (TX1 b).2.1 := by decide +kernel
theorem tyX1_ok : ∀ k, k < 1 → parseFieldDescriptor (TX1 k).2.2.1 = some (tyX1 k) := by decide +kernel
abbrev cX1_init : ByteArray := prog_3_method_1_code
def yX1_init : MethodName := ⟨RX1, "<init>", "()V"⟩
abbrev cX1_rating : ByteArray := prog_3_method_2_code
def yX1_rating : MethodName := ⟨RX1, "rating", "(LPillowCourt$Scene;I)I"⟩
def RX2 : String := "PillowCourt$KindBolster"
def TX2 : u_T := fun k => match k with
  | _ => ("PillowCourt$KindPillow", "added", "J", false)
def tyX2 : Nat → FieldType := fun k => match k with
  | _ => .long
abbrev wsX20 : List Cond := u_ws RX2 TX2 1
theorem nmX2 : ∀ a, a < 1 → ∀ b, b < 1 → a ≠ b → (TX2 a).2.1 ≠ (TX2 b).2.1 := by decide +kernel
theorem tyX2_ok : ∀ k, k < 1 → parseFieldDescriptor (TX2 k).2.2.1 = some (tyX2 k) := by decide +kernel
abbrev cX2_init : ByteArray := prog_4_method_1_code
def yX2_init : MethodName := ⟨RX2, "<init>", "()V"⟩
abbrev cX2_rating : ByteArray := prog_4_method_2_code
def yX2_rating : MethodName := ⟨RX2, "rating", "(LPillowCourt$Scene;I)I"⟩
def RX3 : String := "PillowCourt$KindDown"
def TX3 : u_T := fun k => match k with
  | _ => ("PillowCourt$KindPillow", "added", "J", false)
def tyX3 : Nat → FieldType := fun k => match k with
  | _ => .long
abbrev wsX30 : List Cond := u_ws RX3 TX3 1
theorem nmX3 : ∀ a, a < 1 → ∀ b, b < 1 → a ≠ b → (TX3 a).2.1 ≠ (TX3 b).2.1 := by decide +kernel
theorem tyX3_ok : ∀ k, k < 1 → parseFieldDescriptor (TX3 k).2.2.1 = some (tyX3 k) := by decide +kernel
abbrev cX3_init : ByteArray := prog_5_method_1_code
def yX3_init : MethodName := ⟨RX3, "<init>", "()V"⟩
abbrev cX3_rating : ByteArray := prog_5_method_2_code
def yX3_rating : MethodName := ⟨RX3, "rating", "(LPillowCourt$Scene;I)I"⟩
def RX4 : String := "PillowCourt$KindGoose"
def TX4 : u_T := fun k => match k with
  | _ => ("PillowCourt$KindPillow", "added", "J", false)
def tyX4 : Nat → FieldType := fun k => match k with
  | _ => .long
abbrev wsX40 : List Cond := u_ws RX4 TX4 1
theorem nmX4 : ∀ a, a < 1 → ∀ b, b < 1 → a ≠ b → (TX4 a).2.1 ≠ (TX4 b).2.1 := by decide +kernel
theorem tyX4_ok : ∀ k, k < 1 → parseFieldDescriptor (TX4 k).2.2.1 = some (tyX4 k) := by decide +kernel
abbrev cX4_init : ByteArray := prog_6_method_1_code
def yX4_init : MethodName := ⟨RX4, "<init>", "()V"⟩
abbrev cX4_rating : ByteArray := prog_6_method_2_code
def yX4_rating : MethodName := ⟨RX4, "rating", "(LPillowCourt$Scene;I)I"⟩
def RX5 : String := "PillowCourt$KindHotel"
def TX5 : u_T := fun k => match k with
  | _ => ("PillowCourt$KindPillow", "added", "J", false)
def tyX5 : Nat → FieldType := fun k => match k with
  | _ => .long
abbrev wsX50 : List Cond := u_ws RX5 TX5 1
theorem nmX5 : ∀ a, a < 1 → ∀ b, b < 1 → a ≠ b → (TX5 a).2.1 ≠ (TX5 b).2.1 := by decide +kernel
theorem tyX5_ok : ∀ k, k < 1 → parseFieldDescriptor (TX5 k).2.2.1 = some (tyX5 k) := by decide +kernel
abbrev cX5_init : ByteArray := prog_7_method_1_code
def yX5_init : MethodName := ⟨RX5, "<init>", "()V"⟩
abbrev cX5_rating : ByteArray := prog_7_method_2_code
def yX5_rating : MethodName := ⟨RX5, "rating", "(LPillowCourt$Scene;I)I"⟩
def RX6 : String := "PillowCourt$KindPillow"
def TX6 : u_T := fun k => match k with
  | _ => ("PillowCourt$KindPillow", "added", "J", false)
def tyX6 : Nat → FieldType := fun k => match k with
  | _ => .long
abbrev wsX60 : List Cond := u_ws RX6 TX6 1
theorem nmX6 : ∀ a, a < 1 → ∀ b, b < 1 → a ≠ b → (TX6 a).2.1 ≠ (TX6 b).2.1 := by decide +kernel
theorem tyX6_ok : ∀ k, k < 1 → parseFieldDescriptor (TX6 k).2.2.1 = some (tyX6 k) := by decide +kernel
abbrev cX6_init : ByteArray := prog_8_method_1_code
def yX6_init : MethodName := ⟨RX6, "<init>", "()V"⟩
abbrev cX6_rating : ByteArray := prog_8_method_2_code
def yX6_rating : MethodName := ⟨RX6, "rating", "(LPillowCourt$Scene;I)I"⟩
def RX7 : String := "PillowCourt$Reader"
def TX7 : u_T := fun k => match k with
  | 0 => ("PillowCourt$Reader", "letters", "[I", true)
  | 1 => ("PillowCourt$Reader", "length", "I", false)
  | 2 => ("PillowCourt$Reader", "place", "I", false)
  | 3 => ("PillowCourt$Reader", "token", "I", false)
  | 4 => ("PillowCourt$Reader", "start", "I", false)
  | _ => ("PillowCourt$Reader", "number", "I", false)
def tyX7 : Nat → FieldType := fun k => match k with
  | 0 => .array .int
  | 1 => .int
  | 2 => .int
  | 3 => .int
  | 4 => .int
  | _ => .int
abbrev wsX70 : List Cond := u_ws RX7 TX7 6
theorem nmX7 : ∀ a, a < 6 → ∀ b, b < 6 → a ≠ b → (TX7 a).2.1 ≠ (TX7 b).2.1 := by decide +kernel
theorem tyX7_ok : ∀ k, k < 6 → parseFieldDescriptor (TX7 k).2.2.1 = some (tyX7 k) := by decide +kernel
abbrev cX7_init : ByteArray := prog_9_method_1_code
def yX7_init : MethodName := ⟨RX7, "<init>", "()V"⟩
abbrev cX7_append : ByteArray := prog_9_method_2_code
def yX7_append : MethodName := ⟨RX7, "append", "(I)Z"⟩
abbrev cX7_empty : ByteArray := prog_9_method_3_code
def yX7_empty : MethodName := ⟨RX7, "empty", "()I"⟩
abbrev cX7_read : ByteArray := prog_9_method_4_code
def yX7_read : MethodName := ⟨RX7, "read", "(LPillowCourt$Told;)I"⟩
abbrev cX7_readItem : ByteArray := prog_9_method_5_code
def yX7_readItem : MethodName := ⟨RX7, "readItem", "(LPillowCourt$Told;Z)Z"⟩
abbrev cX7_readPillows : ByteArray := prog_9_method_6_code
def yX7_readPillows : MethodName := ⟨RX7, "readPillows", "(LPillowCourt$Told;)Z"⟩
abbrev cX7_readPerson : ByteArray := prog_9_method_7_code
def yX7_readPerson : MethodName := ⟨RX7, "readPerson", "(LPillowCourt$Told;)Z"⟩
abbrev cX7_readClash : ByteArray := prog_9_method_8_code
def yX7_readClash : MethodName := ⟨RX7, "readClash", "(LPillowCourt$Told;)Z"⟩
abbrev cX7_readNumber : ByteArray := prog_9_method_9_code
def yX7_readNumber : MethodName := ⟨RX7, "readNumber", "(II)Z"⟩
abbrev cX7_readItemEnd : ByteArray := prog_9_method_10_code
def yX7_readItemEnd : MethodName := ⟨RX7, "readItemEnd", "()Z"⟩
abbrev cX7_advance : ByteArray := prog_9_method_11_code
def yX7_advance : MethodName := ⟨RX7, "advance", "()V"⟩
abbrev cX7_isDigit : ByteArray := prog_9_method_12_code
def yX7_isDigit : MethodName := ⟨RX7, "isDigit", "(I)Z"⟩
abbrev cX7_scanNumber : ByteArray := prog_9_method_13_code
def yX7_scanNumber : MethodName := ⟨RX7, "scanNumber", "()I"⟩
abbrev cX7_tokenOf : ByteArray := prog_9_method_14_code
def yX7_tokenOf : MethodName := ⟨RX7, "tokenOf", "(I)I"⟩
def RX8 : String := "PillowCourt$Scene"
def TX8 : u_T := fun k => match k with
  | _ => ("PillowCourt$Scene", "cells", "[I", true)
def tyX8 : Nat → FieldType := fun k => match k with
  | _ => .array .int
abbrev wsX80 : List Cond := u_ws RX8 TX8 1
theorem nmX8 : ∀ a, a < 1 → ∀ b, b < 1 → a ≠ b → (TX8 a).2.1 ≠ (TX8 b).2.1 := by decide +kernel
theorem tyX8_ok : ∀ k, k < 1 → parseFieldDescriptor (TX8 k).2.2.1 = some (tyX8 k) := by decide +kernel
abbrev cX8_init : ByteArray := prog_10_method_1_code
def yX8_init : MethodName := ⟨RX8, "<init>", "()V"⟩
abbrev cX8_begin : ByteArray := prog_10_method_2_code
def yX8_begin : MethodName := ⟨RX8, "begin", "(LPillowCourt$Told;)V"⟩
abbrev cX8_times : ByteArray := prog_10_method_3_code
def yX8_times : MethodName := ⟨RX8, "times", "(II)I"⟩
abbrev cX8_setTimes : ByteArray := prog_10_method_4_code
def yX8_setTimes : MethodName := ⟨RX8, "setTimes", "(III)V"⟩
abbrev cX8_bedOf : ByteArray := prog_10_method_5_code
def yX8_bedOf : MethodName := ⟨RX8, "bedOf", "(I)I"⟩
abbrev cX8_lay : ByteArray := prog_10_method_6_code
def yX8_lay : MethodName := ⟨RX8, "lay", "(II)V"⟩
abbrev cX8_nightNumber : ByteArray := prog_10_method_7_code
def yX8_nightNumber : MethodName := ⟨RX8, "nightNumber", "()I"⟩
abbrev cX8_isExamined : ByteArray := prog_10_method_8_code
def yX8_isExamined : MethodName := ⟨RX8, "isExamined", "(I)Z"⟩
abbrev cX8_examine : ByteArray := prog_10_method_9_code
def yX8_examine : MethodName := ⟨RX8, "examine", "(I)V"⟩
abbrev cX8_thingsOn : ByteArray := prog_10_method_10_code
def yX8_thingsOn : MethodName := ⟨RX8, "thingsOn", "(I)I"⟩
abbrev cX8_thingsOnSet : ByteArray := prog_10_method_11_code
def yX8_thingsOnSet : MethodName := ⟨RX8, "thingsOnSet", "(I)I"⟩
abbrev cX8_allThings : ByteArray := prog_10_method_12_code
def yX8_allThings : MethodName := ⟨RX8, "allThings", "()I"⟩
abbrev cX8_knownThings : ByteArray := prog_10_method_13_code
def yX8_knownThings : MethodName := ⟨RX8, "knownThings", "()I"⟩
abbrev cX8_timesOn : ByteArray := prog_10_method_14_code
def yX8_timesOn : MethodName := ⟨RX8, "timesOn", "(II)I"⟩
abbrev cX8_timesOfSet : ByteArray := prog_10_method_15_code
def yX8_timesOfSet : MethodName := ⟨RX8, "timesOfSet", "(I)I"⟩
abbrev cX8_sleepersOn : ByteArray := prog_10_method_16_code
def yX8_sleepersOn : MethodName := ⟨RX8, "sleepersOn", "(I)I"⟩
abbrev cX8_sleep : ByteArray := prog_10_method_17_code
def yX8_sleep : MethodName := ⟨RX8, "sleep", "(LPillowCourt$Told;I)I"⟩
abbrev cX8_hear : ByteArray := prog_10_method_18_code
def yX8_hear : MethodName := ⟨RX8, "hear", "(II)V"⟩
abbrev cX8_slip : ByteArray := prog_10_method_19_code
def yX8_slip : MethodName := ⟨RX8, "slip", "(I)V"⟩
abbrev cX8_mix : ByteArray := prog_10_method_20_code
def yX8_mix : MethodName := ⟨RX8, "mix", "(II)V"⟩
def RX9 : String := "PillowCourt$Shelf"
def TX9 : u_T := fun k => match k with
  | 0 => ("PillowCourt$Shelf", "past", "[I", true)
  | 1 => ("PillowCourt$Shelf", "images", "[I", true)
  | 2 => ("PillowCourt$Shelf", "isKept", "[Z", true)
  | 3 => ("PillowCourt$Shelf", "undoable", "I", false)
  | _ => ("PillowCourt$Shelf", "top", "I", false)
def tyX9 : Nat → FieldType := fun k => match k with
  | 0 => .array .int
  | 1 => .array .int
  | 2 => .array .boolean
  | 3 => .int
  | _ => .int
abbrev wsX90 : List Cond := u_ws RX9 TX9 5
theorem nmX9 : ∀ a, a < 5 → ∀ b, b < 5 → a ≠ b → (TX9 a).2.1 ≠ (TX9 b).2.1 := by decide +kernel
theorem tyX9_ok : ∀ k, k < 5 → parseFieldDescriptor (TX9 k).2.2.1 = some (tyX9 k) := by decide +kernel
abbrev cX9_init : ByteArray := prog_11_method_1_code
def yX9_init : MethodName := ⟨RX9, "<init>", "()V"⟩
abbrev cX9_empty : ByteArray := prog_11_method_2_code
def yX9_empty : MethodName := ⟨RX9, "empty", "()V"⟩
abbrev cX9_remember : ByteArray := prog_11_method_3_code
def yX9_remember : MethodName := ⟨RX9, "remember", "(LPillowCourt$Scene;)V"⟩
abbrev cX9_restoreLatest : ByteArray := prog_11_method_4_code
def yX9_restoreLatest : MethodName := ⟨RX9, "restoreLatest", "(LPillowCourt$Scene;)Z"⟩
abbrev cX9_keepImage : ByteArray := prog_11_method_5_code
def yX9_keepImage : MethodName := ⟨RX9, "keepImage", "(ILPillowCourt$Scene;)V"⟩
abbrev cX9_restoreImage : ByteArray := prog_11_method_6_code
def yX9_restoreImage : MethodName := ⟨RX9, "restoreImage", "(ILPillowCourt$Scene;)Z"⟩
def RX10 : String := "PillowCourt$Told"
def TX10 : u_T := fun k => match k with
  | 0 => ("PillowCourt$Told", "knows", "[I", true)
  | 1 => ("PillowCourt$Told", "talks", "[I", true)
  | 2 => ("PillowCourt$Told", "clashing", "[I", true)
  | 3 => ("PillowCourt$Told", "people", "I", false)
  | _ => ("PillowCourt$Told", "pillows", "I", false)
def tyX10 : Nat → FieldType := fun k => match k with
  | 0 => .array .int
  | 1 => .array .int
  | 2 => .array .int
  | 3 => .int
  | _ => .int
abbrev wsX100 : List Cond := u_ws RX10 TX10 5
theorem nmX10 : ∀ a, a < 5 → ∀ b, b < 5 → a ≠ b → (TX10 a).2.1 ≠ (TX10 b).2.1 := by decide +kernel
theorem tyX10_ok : ∀ k, k < 5 → parseFieldDescriptor (TX10 k).2.2.1 = some (tyX10 k) := by decide +kernel
abbrev cX10_init : ByteArray := prog_12_method_1_code
def yX10_init : MethodName := ⟨RX10, "<init>", "()V"⟩
abbrev cX10_begin : ByteArray := prog_12_method_2_code
def yX10_begin : MethodName := ⟨RX10, "begin", "()V"⟩
abbrev cX10_hasPerson : ByteArray := prog_12_method_3_code
def yX10_hasPerson : MethodName := ⟨RX10, "hasPerson", "(I)Z"⟩
abbrev cX10_hasPillow : ByteArray := prog_12_method_4_code
def yX10_hasPillow : MethodName := ⟨RX10, "hasPillow", "(I)Z"⟩
abbrev cX10_addPerson : ByteArray := prog_12_method_5_code
def yX10_addPerson : MethodName := ⟨RX10, "addPerson", "(II)V"⟩
abbrev cX10_addClash : ByteArray := prog_12_method_6_code
def yX10_addClash : MethodName := ⟨RX10, "addClash", "(II)V"⟩
abbrev cX10_knownTo : ByteArray := prog_12_method_7_code
def yX10_knownTo : MethodName := ⟨RX10, "knownTo", "(I)I"⟩
abbrev cX10_knownToOne : ByteArray := prog_12_method_8_code
def yX10_knownToOne : MethodName := ⟨RX10, "knownToOne", "()I"⟩
abbrev cX10_clashesWithin : ByteArray := prog_12_method_9_code
def yX10_clashesWithin : MethodName := ⟨RX10, "clashesWithin", "(I)I"⟩
abbrev cX10_thingSaid : ByteArray := prog_12_method_10_code
def yX10_thingSaid : MethodName := ⟨RX10, "thingSaid", "(III)I"⟩
abbrev cX10_thingAt : ByteArray := prog_12_method_11_code
def yX10_thingAt : MethodName := ⟨RX10, "thingAt", "(II)I"⟩
def RX11 : String := "PillowCourt"
def TX11 : u_T := fun k => match k with
  | 0 => ("PillowCourt", "reader", "LPillowCourt$Reader;", true)
  | 1 => ("PillowCourt", "scene", "LPillowCourt$Scene;", true)
  | 2 => ("PillowCourt", "shelf", "LPillowCourt$Shelf;", true)
  | 3 => ("PillowCourt", "fitting", "LPillowCourt$Fitting;", true)
  | 4 => ("PillowCourt", "kinds", "[LPillowCourt$KindPillow;", true)
  | 5 => ("PillowCourt", "notedPillow", "[I", true)
  | 6 => ("PillowCourt", "notedThing", "[I", true)
  | 7 => ("PillowCourt", "notedIs", "[I", true)
  | 8 => ("PillowCourt", "ears", "[I", true)
  | 9 => ("PillowCourt", "told", "LPillowCourt$Told;", false)
  | 10 => ("PillowCourt", "spare", "LPillowCourt$Told;", false)
  | 11 => ("PillowCourt", "noted", "I", false)
  | _ => ("PillowCourt", "traced", "J", false)
def tyX11 : Nat → FieldType := fun k => match k with
  | 0 => .object "PillowCourt$Reader"
  | 1 => .object "PillowCourt$Scene"
  | 2 => .object "PillowCourt$Shelf"
  | 3 => .object "PillowCourt$Fitting"
  | 4 => .array (.object "PillowCourt$KindPillow")
  | 5 => .array .int
  | 6 => .array .int
  | 7 => .array .int
  | 8 => .array .int
  | 9 => .object "PillowCourt$Told"
  | 10 => .object "PillowCourt$Told"
  | 11 => .int
  | _ => .long
abbrev wsX110 : List Cond := u_ws RX11 TX11 13
theorem nmX11 : ∀ a, a < 13 → ∀ b, b < 13 → a ≠ b → (TX11 a).2.1 ≠ (TX11 b).2.1 := by decide +kernel
theorem tyX11_ok : ∀ k, k < 13 → parseFieldDescriptor (TX11 k).2.2.1 = some (tyX11 k) := by decide +kernel
abbrev cX11_init : ByteArray := prog_1_method_1_code
def yX11_init : MethodName := ⟨RX11, "<init>", "()V"⟩
abbrev cX11_type : ByteArray := prog_1_method_2_code
def yX11_type : MethodName := ⟨RX11, "type", "(I)I"⟩
abbrev cX11_clear : ByteArray := prog_1_method_3_code
def yX11_clear : MethodName := ⟨RX11, "clear", "()I"⟩
abbrev cX11_court : ByteArray := prog_1_method_4_code
def yX11_court : MethodName := ⟨RX11, "court", "()I"⟩
abbrev cX11_person : ByteArray := prog_1_method_5_code
def yX11_person : MethodName := ⟨RX11, "person", "(II)I"⟩
abbrev cX11_clashes : ByteArray := prog_1_method_6_code
def yX11_clashes : MethodName := ⟨RX11, "clashes", "(I)I"⟩
abbrev cX11_pillow : ByteArray := prog_1_method_7_code
def yX11_pillow : MethodName := ⟨RX11, "pillow", "(II)I"⟩
abbrev cX11_heard : ByteArray := prog_1_method_8_code
def yX11_heard : MethodName := ⟨RX11, "heard", "(II)I"⟩
abbrev cX11_now : ByteArray := prog_1_method_9_code
def yX11_now : MethodName := ⟨RX11, "now", "(I)I"⟩
abbrev cX11_lays : ByteArray := prog_1_method_10_code
def yX11_lays : MethodName := ⟨RX11, "lays", "(II)I"⟩
abbrev cX11_night : ByteArray := prog_1_method_11_code
def yX11_night : MethodName := ⟨RX11, "night", "(I)I"⟩
abbrev cX11_slips : ByteArray := prog_1_method_12_code
def yX11_slips : MethodName := ⟨RX11, "slips", "(I)I"⟩
abbrev cX11_mixes : ByteArray := prog_1_method_13_code
def yX11_mixes : MethodName := ⟨RX11, "mixes", "(II)I"⟩
abbrev cX11_examines : ByteArray := prog_1_method_14_code
def yX11_examines : MethodName := ⟨RX11, "examines", "(I)I"⟩
abbrev cX11_undo : ByteArray := prog_1_method_15_code
def yX11_undo : MethodName := ⟨RX11, "undo", "()I"⟩
abbrev cX11_whose : ByteArray := prog_1_method_16_code
def yX11_whose : MethodName := ⟨RX11, "whose", "(II)I"⟩
abbrev cX11_so : ByteArray := prog_1_method_17_code
def yX11_so : MethodName := ⟨RX11, "so", "(I)I"⟩
abbrev cX11_tally : ByteArray := prog_1_method_18_code
def yX11_tally : MethodName := ⟨RX11, "tally", "(II)I"⟩
abbrev cX11_fit : ByteArray := prog_1_method_19_code
def yX11_fit : MethodName := ⟨RX11, "fit", "(I)I"⟩
abbrev cX11_looks : ByteArray := prog_1_method_20_code
def yX11_looks : MethodName := ⟨RX11, "looks", "()I"⟩
abbrev cX11_next : ByteArray := prog_1_method_21_code
def yX11_next : MethodName := ⟨RX11, "next", "()I"⟩
abbrev cX11_inNights : ByteArray := prog_1_method_22_code
def yX11_inNights : MethodName := ⟨RX11, "inNights", "(III)I"⟩
abbrev cX11_notes : ByteArray := prog_1_method_23_code
def yX11_notes : MethodName := ⟨RX11, "notes", "(III)I"⟩
abbrev cX11_forget : ByteArray := prog_1_method_24_code
def yX11_forget : MethodName := ⟨RX11, "forget", "()I"⟩
abbrev cX11_which : ByteArray := prog_1_method_25_code
def yX11_which : MethodName := ⟨RX11, "which", "(I)I"⟩
abbrev cX11_odds : ByteArray := prog_1_method_26_code
def yX11_odds : MethodName := ⟨RX11, "odds", "(IIII)J"⟩
abbrev cX11_rate : ByteArray := prog_1_method_27_code
def yX11_rate : MethodName := ⟨RX11, "rate", "(II)I"⟩
abbrev cX11_keep : ByteArray := prog_1_method_28_code
def yX11_keep : MethodName := ⟨RX11, "keep", "(I)I"⟩
abbrev cX11_back : ByteArray := prog_1_method_29_code
def yX11_back : MethodName := ⟨RX11, "back", "(I)I"⟩
abbrev cX11_count : ByteArray := prog_1_method_30_code
def yX11_count : MethodName := ⟨RX11, "count", "(I)I"⟩
abbrev cX11_trace : ByteArray := prog_1_method_31_code
def yX11_trace : MethodName := ⟨RX11, "trace", "()J"⟩
abbrev cX11_isThing : ByteArray := prog_1_method_32_code
def yX11_isThing : MethodName := ⟨RX11, "isThing", "(I)Z"⟩
abbrev cX11_isDraw : ByteArray := prog_1_method_33_code
def yX11_isDraw : MethodName := ⟨RX11, "isDraw", "(I)Z"⟩
abbrev cX11_isZeroOrOne : ByteArray := prog_1_method_34_code
def yX11_isZeroOrOne : MethodName := ⟨RX11, "isZeroOrOne", "(I)Z"⟩
abbrev cX11_areTwoPillows : ByteArray := prog_1_method_35_code
def yX11_areTwoPillows : MethodName := ⟨RX11, "areTwoPillows", "(II)Z"⟩
abbrev cX11_fewerOf : ByteArray := prog_1_method_36_code
def yX11_fewerOf : MethodName := ⟨RX11, "fewerOf", "(II)I"⟩
abbrev cX11_safePillows : ByteArray := prog_1_method_37_code
def yX11_safePillows : MethodName := ⟨RX11, "safePillows", "(I)I"⟩
abbrev cX11_listen : ByteArray := prog_1_method_38_code
def yX11_listen : MethodName := ⟨RX11, "listen", "(II)V"⟩
abbrev cX11_agreesWithNotes : ByteArray := prog_1_method_39_code
def yX11_agreesWithNotes : MethodName := ⟨RX11, "agreesWithNotes", "()Z"⟩
abbrev cX11_commonDivisor : ByteArray := prog_1_method_40_code
def yX11_commonDivisor : MethodName := ⟨RX11, "commonDivisor", "(II)I"⟩
abbrev cX11_power : ByteArray := prog_1_method_41_code
def yX11_power : MethodName := ⟨RX11, "power", "(II)J"⟩
def RX12 : String := "PillowCourtModel"
def TX12 : u_T := fun k => match k with
  | 0 => ("PillowCourtModel", "text", "[I", true)
  | 1 => ("PillowCourtModel", "size", "I", false)
  | 2 => ("PillowCourtModel", "at", "I", false)
  | 3 => ("PillowCourtModel", "begin", "I", false)
  | 4 => ("PillowCourtModel", "token", "I", false)
  | 5 => ("PillowCourtModel", "told", "I", false)
  | 6 => ("PillowCourtModel", "read", "[I", true)
  | 7 => ("PillowCourtModel", "paper", "[I", true)
  | 8 => ("PillowCourtModel", "now", "[I", true)
  | 9 => ("PillowCourtModel", "undone", "[I", true)
  | 10 => ("PillowCourtModel", "undos", "I", false)
  | 11 => ("PillowCourtModel", "fits", "[I", true)
  | 12 => ("PillowCourtModel", "aside", "[I", true)
  | 13 => ("PillowCourtModel", "noted", "I", false)
  | 14 => ("PillowCourtModel", "notes", "[I", true)
  | 15 => ("PillowCourtModel", "news", "[I", true)
  | 16 => ("PillowCourtModel", "trace", "J", false)
  | _ => ("PillowCourtModel", "kept", "[I", true)
def tyX12 : Nat → FieldType := fun k => match k with
  | 0 => .array .int
  | 1 => .int
  | 2 => .int
  | 3 => .int
  | 4 => .int
  | 5 => .int
  | 6 => .array .int
  | 7 => .array .int
  | 8 => .array .int
  | 9 => .array .int
  | 10 => .int
  | 11 => .array .int
  | 12 => .array .int
  | 13 => .int
  | 14 => .array .int
  | 15 => .array .int
  | 16 => .long
  | _ => .array .int
abbrev wsX120 : List Cond := u_ws RX12 TX12 18
theorem nmX12 : ∀ a, a < 18 → ∀ b, b < 18 → a ≠ b → (TX12 a).2.1 ≠ (TX12 b).2.1 := by decide +kernel
theorem tyX12_ok : ∀ k, k < 18 → parseFieldDescriptor (TX12 k).2.2.1 = some (tyX12 k) := by decide +kernel
abbrev cX12_in : ByteArray := prog_14_method_2_code
def yX12_in : MethodName := ⟨RX12, "in", "(JJJ)Z"⟩
abbrev cX12_init : ByteArray := prog_14_method_3_code
def yX12_init : MethodName := ⟨RX12, "<init>", "()V"⟩
abbrev cX12_type : ByteArray := prog_14_method_4_code
def yX12_type : MethodName := ⟨RX12, "type", "(I)I"⟩
abbrev cX12_clear : ByteArray := prog_14_method_5_code
def yX12_clear : MethodName := ⟨RX12, "clear", "()I"⟩
abbrev cX12_isFigure : ByteArray := prog_14_method_6_code
def yX12_isFigure : MethodName := ⟨RX12, "isFigure", "(I)Z"⟩
abbrev cX12_reads : ByteArray := prog_14_method_7_code
def yX12_reads : MethodName := ⟨RX12, "reads", "()V"⟩
abbrev cX12_number : ByteArray := prog_14_method_8_code
def yX12_number : MethodName := ⟨RX12, "number", "(II)Z"⟩
abbrev cX12_itemEnds : ByteArray := prog_14_method_9_code
def yX12_itemEnds : MethodName := ⟨RX12, "itemEnds", "()Z"⟩
abbrev cX12_plain : ByteArray := prog_14_method_10_code
def yX12_plain : MethodName := ⟨RX12, "plain", "()V"⟩
abbrev cX12_readClash : ByteArray := prog_14_method_11_code
def yX12_readClash : MethodName := ⟨RX12, "readClash", "()Z"⟩
abbrev cX12_readItem : ByteArray := prog_14_method_12_code
def yX12_readItem : MethodName := ⟨RX12, "readItem", "(I)Z"⟩
abbrev cX12_court : ByteArray := prog_14_method_13_code
def yX12_court : MethodName := ⟨RX12, "court", "()I"⟩
abbrev cX12_takes : ByteArray := prog_14_method_14_code
def yX12_takes : MethodName := ⟨RX12, "takes", "()V"⟩
abbrev cX12_isPerson : ByteArray := prog_14_method_15_code
def yX12_isPerson : MethodName := ⟨RX12, "isPerson", "(I)Z"⟩
abbrev cX12_isPillow : ByteArray := prog_14_method_16_code
def yX12_isPillow : MethodName := ⟨RX12, "isPillow", "(I)Z"⟩
abbrev cX12_isThing : ByteArray := prog_14_method_17_code
def yX12_isThing : MethodName := ⟨RX12, "isThing", "(I)Z"⟩
abbrev cX12_knows : ByteArray := prog_14_method_18_code
def yX12_knows : MethodName := ⟨RX12, "knows", "(I)I"⟩
abbrev cX12_many : ByteArray := prog_14_method_19_code
def yX12_many : MethodName := ⟨RX12, "many", "(I)I"⟩
abbrev cX12_often : ByteArray := prog_14_method_20_code
def yX12_often : MethodName := ⟨RX12, "often", "(II)I"⟩
abbrev cX12_hears : ByteArray := prog_14_method_21_code
def yX12_hears : MethodName := ⟨RX12, "hears", "(I)I"⟩
abbrev cX12_hear : ByteArray := prog_14_method_22_code
def yX12_hear : MethodName := ⟨RX12, "hear", "(I)I"⟩
abbrev cX12_lieOn : ByteArray := prog_14_method_23_code
def yX12_lieOn : MethodName := ⟨RX12, "lieOn", "(I)I"⟩
abbrev cX12_safe : ByteArray := prog_14_method_24_code
def yX12_safe : MethodName := ⟨RX12, "safe", "(I)I"⟩
abbrev cX12_person : ByteArray := prog_14_method_25_code
def yX12_person : MethodName := ⟨RX12, "person", "(II)I"⟩
abbrev cX12_clashes : ByteArray := prog_14_method_26_code
def yX12_clashes : MethodName := ⟨RX12, "clashes", "(I)I"⟩
abbrev cX12_pillow : ByteArray := prog_14_method_27_code
def yX12_pillow : MethodName := ⟨RX12, "pillow", "(II)I"⟩
abbrev cX12_heard : ByteArray := prog_14_method_28_code
def yX12_heard : MethodName := ⟨RX12, "heard", "(II)I"⟩
abbrev cX12_against : ByteArray := prog_14_method_29_code
def yX12_against : MethodName := ⟨RX12, "against", "()I"⟩
abbrev cX12_alone : ByteArray := prog_14_method_30_code
def yX12_alone : MethodName := ⟨RX12, "alone", "()I"⟩
abbrev cX12_now : ByteArray := prog_14_method_31_code
def yX12_now : MethodName := ⟨RX12, "now", "(I)I"⟩
abbrev cX12_keepsUndo : ByteArray := prog_14_method_32_code
def yX12_keepsUndo : MethodName := ⟨RX12, "keepsUndo", "()V"⟩
abbrev cX12_lays : ByteArray := prog_14_method_33_code
def yX12_lays : MethodName := ⟨RX12, "lays", "(II)I"⟩
abbrev cX12_says : ByteArray := prog_14_method_34_code
def yX12_says : MethodName := ⟨RX12, "says", "(II)I"⟩
abbrev cX12_goesBy : ByteArray := prog_14_method_35_code
def yX12_goesBy : MethodName := ⟨RX12, "goesBy", "(I)I"⟩
abbrev cX12_night : ByteArray := prog_14_method_36_code
def yX12_night : MethodName := ⟨RX12, "night", "(I)I"⟩
abbrev cX12_slips : ByteArray := prog_14_method_37_code
def yX12_slips : MethodName := ⟨RX12, "slips", "(I)I"⟩
abbrev cX12_mixes : ByteArray := prog_14_method_38_code
def yX12_mixes : MethodName := ⟨RX12, "mixes", "(II)I"⟩
abbrev cX12_examines : ByteArray := prog_14_method_39_code
def yX12_examines : MethodName := ⟨RX12, "examines", "(I)I"⟩
abbrev cX12_undo : ByteArray := prog_14_method_40_code
def yX12_undo : MethodName := ⟨RX12, "undo", "()I"⟩
abbrev cX12_whose : ByteArray := prog_14_method_41_code
def yX12_whose : MethodName := ⟨RX12, "whose", "(II)I"⟩
abbrev cX12_so : ByteArray := prog_14_method_42_code
def yX12_so : MethodName := ⟨RX12, "so", "(I)I"⟩
abbrev cX12_tally : ByteArray := prog_14_method_43_code
def yX12_tally : MethodName := ⟨RX12, "tally", "(II)I"⟩
abbrev cX12_explains : ByteArray := prog_14_method_44_code
def yX12_explains : MethodName := ⟨RX12, "explains", "(II)I"⟩
abbrev cX12_works : ByteArray := prog_14_method_45_code
def yX12_works : MethodName := ⟨RX12, "works", "()V"⟩
abbrev cX12_fit : ByteArray := prog_14_method_46_code
def yX12_fit : MethodName := ⟨RX12, "fit", "(I)I"⟩
abbrev cX12_looks : ByteArray := prog_14_method_47_code
def yX12_looks : MethodName := ⟨RX12, "looks", "()I"⟩
abbrev cX12_next : ByteArray := prog_14_method_48_code
def yX12_next : MethodName := ⟨RX12, "next", "()I"⟩
abbrev cX12_asides : ByteArray := prog_14_method_49_code
def yX12_asides : MethodName := ⟨RX12, "asides", "()V"⟩
abbrev cX12_backs : ByteArray := prog_14_method_50_code
def yX12_backs : MethodName := ⟨RX12, "backs", "()V"⟩
abbrev cX12_inNights : ByteArray := prog_14_method_51_code
def yX12_inNights : MethodName := ⟨RX12, "inNights", "(III)I"⟩
abbrev cX12_notes : ByteArray := prog_14_method_52_code
def yX12_notes : MethodName := ⟨RX12, "notes", "(III)I"⟩
abbrev cX12_forget : ByteArray := prog_14_method_53_code
def yX12_forget : MethodName := ⟨RX12, "forget", "()I"⟩
abbrev cX12_isSo : ByteArray := prog_14_method_54_code
def yX12_isSo : MethodName := ⟨RX12, "isSo", "(I)Z"⟩
abbrev cX12_which : ByteArray := prog_14_method_55_code
def yX12_which : MethodName := ⟨RX12, "which", "(I)I"⟩
abbrev cX12_odds : ByteArray := prog_14_method_56_code
def yX12_odds : MethodName := ⟨RX12, "odds", "(IIII)J"⟩
abbrev cX12_rate : ByteArray := prog_14_method_57_code
def yX12_rate : MethodName := ⟨RX12, "rate", "(II)I"⟩
abbrev cX12_trace : ByteArray := prog_14_method_58_code
def yX12_trace : MethodName := ⟨RX12, "trace", "()J"⟩
abbrev cX12_keep : ByteArray := prog_14_method_59_code
def yX12_keep : MethodName := ⟨RX12, "keep", "(I)I"⟩
abbrev cX12_back : ByteArray := prog_14_method_60_code
def yX12_back : MethodName := ⟨RX12, "back", "(I)I"⟩
abbrev cX12_count : ByteArray := prog_14_method_61_code
def yX12_count : MethodName := ⟨RX12, "count", "(I)I"⟩
def RJ6 : String := "java/lang/Integer"
def TJ6 : u_T := fun k => match k with
  | _ => ("", "", "", false)
def tyJ6 : Nat → FieldType := fun k => match k with
  | _ => .int
abbrev wsJ60 : List Cond := u_ws RJ6 TJ6 0
theorem nmJ6 : ∀ a, a < 0 → ∀ b, b < 0 → a ≠ b → (TJ6 a).2.1 ≠ (TJ6 b).2.1 := by decide +kernel
theorem tyJ6_ok : ∀ k, k < 0 → parseFieldDescriptor (TJ6 k).2.2.1 = some (tyJ6 k) := by decide +kernel
abbrev cJ6_bitCount_0f7a4 : ByteArray := prog_15_method_49_code
def yJ6_bitCount_0f7a4 : MethodName := ⟨RJ6, "bitCount", "(I)I"⟩
def RJ9 : String := "java/lang/Math"
def TJ9 : u_T := fun k => match k with
  | _ => ("", "", "", false)
def tyJ9 : Nat → FieldType := fun k => match k with
  | _ => .int
abbrev wsJ90 : List Cond := u_ws RJ9 TJ9 0
theorem nmJ9 : ∀ a, a < 0 → ∀ b, b < 0 → a ≠ b → (TJ9 a).2.1 ≠ (TJ9 b).2.1 := by decide +kernel
theorem tyJ9_ok : ∀ k, k < 0 → parseFieldDescriptor (TJ9 k).2.2.1 = some (tyJ9 k) := by decide +kernel
abbrev cJ9_max_7cf53 : ByteArray := prog_16_method_65_code
def yJ9_max_7cf53 : MethodName := ⟨RJ9, "max", "(II)I"⟩
abbrev cJ9_min_7cf53 : ByteArray := prog_16_method_69_code
def yJ9_min_7cf53 : MethodName := ⟨RJ9, "min", "(II)I"⟩
def RJ10 : String := "java/lang/System"
def TJ10 : u_T := fun k => match k with
  | _ => ("", "", "", false)
def tyJ10 : Nat → FieldType := fun k => match k with
  | _ => .int
abbrev wsJ100 : List Cond := u_ws RJ10 TJ10 0
theorem nmJ10 : ∀ a, a < 0 → ∀ b, b < 0 → a ≠ b → (TJ10 a).2.1 ≠ (TJ10 b).2.1 := by decide +kernel
theorem tyJ10_ok : ∀ k, k < 0 → parseFieldDescriptor (TJ10 k).2.2.1 = some (tyJ10 k) := by decide +kernel
def RJ7 : String := "java/util/Arrays"
def TJ7 : u_T := fun k => match k with
  | _ => ("", "", "", false)
def tyJ7 : Nat → FieldType := fun k => match k with
  | _ => .int
abbrev wsJ70 : List Cond := u_ws RJ7 TJ7 0
theorem nmJ7 : ∀ a, a < 0 → ∀ b, b < 0 → a ≠ b → (TJ7 a).2.1 ≠ (TJ7 b).2.1 := by decide +kernel
theorem tyJ7_ok : ∀ k, k < 0 → parseFieldDescriptor (TJ7 k).2.2.1 = some (tyJ7 k) := by decide +kernel
abbrev cJ7_fill_53178 : ByteArray := prog_18_method_103_code
def yJ7_fill_53178 : MethodName := ⟨RJ7, "fill", "([II)V"⟩
def RL : String := "PillowCourtLaw"
abbrev cL_law : ByteArray := code
def yL_law : MethodName := ⟨RL, "law", "([I)Z"⟩
def wsX0_init : List Cond := .code yX0_init cX0_init 1 none :: ([.methodLink RX0 3 objectInit, .instanceMethod objectInit, .code objectInit ⟨#[0xb1]⟩ 1 none, .arrayClass .int, .fieldLink RX0 9 "PillowCourt$Fitting" "gains" "[I", .fieldLink RX0 15 "PillowCourt$Fitting" "most" "[I"] ++ wsX00)
def wsJ7_fill_53178 : List Cond := .code yJ7_fill_53178 cJ7_fill_53178 4 none :: ([])
def wsX8_times : List Cond := .code yX8_times cX8_times 3 (some .int) :: ([.fieldLink RX8 11 "PillowCourt$Scene" "cells" "[I"] ++ wsX80)
def wsX8_timesOn : List Cond := .code yX8_timesOn cX8_timesOn 5 (some .int) :: ([.methodLink RX8 40 yX8_times, .instanceMethod yX8_times, .selects RX8 yX8_times yX8_times, .initialized RX8, .code yX8_times cX8_times 3 (some .int), .fieldLink RX8 11 "PillowCourt$Scene" "cells" "[I"] ++ wsX80)
def wsX0_mostWith : List Cond := .code yX0_mostWith cX0_mostWith 5 (some .int) :: ([.fieldLink RX0 15 "PillowCourt$Fitting" "most" "[I", .fieldLink RX0 9 "PillowCourt$Fitting" "gains" "[I"] ++ wsX00)
def wsX0_bestOf : List Cond := .code yX0_bestOf cX0_bestOf 6 (some .int) :: ([.fieldLink RX0 47 "PillowCourt$Told" "pillows" "I", .methodLink RX0 50 Lib.Math.max.name, .static Lib.Math.max.name, .initialized "java/lang/Math", .code Lib.Math.max.name Lib.Math.max.code 2 (some .int), .methodLink RX0 43 yX0_mostWith, .instanceMethod yX0_mostWith, .selects RX0 yX0_mostWith yX0_mostWith, .initialized RX0, .code yX0_mostWith cX0_mostWith 5 (some .int), .fieldLink RX0 15 "PillowCourt$Fitting" "most" "[I", .fieldLink RX0 9 "PillowCourt$Fitting" "gains" "[I"] ++ wsX100 ++ wsX00)
def wsX0_weigh_r1 : List Cond := [Cond.fieldLink RX0 15 "PillowCourt$Fitting" "most" "[I", Cond.fieldLink RX0 24 "PillowCourt$Told" "people" "I", Cond.fieldLink RX0 9 "PillowCourt$Fitting" "gains" "[I", Cond.fieldLink RX0 30 "PillowCourt$Told" "knows" "[I", Cond.methodLink RX0 18 yJ7_fill_53178, Cond.static yJ7_fill_53178, Cond.initialized RJ7, Cond.code yJ7_fill_53178 cJ7_fill_53178 4 none, Cond.methodLink RX0 33 yX8_timesOn, Cond.instanceMethod yX8_timesOn, Cond.selects RX8 yX8_timesOn yX8_timesOn, Cond.initialized RX8, Cond.code yX8_timesOn cX8_timesOn 5 (some .int), Cond.methodLink RX8 40 yX8_times, Cond.instanceMethod yX8_times, Cond.selects RX8 yX8_times yX8_times, Cond.code yX8_times cX8_times 3 (some .int), Cond.fieldLink RX8 11 "PillowCourt$Scene" "cells" "[I", Cond.methodLink RX0 39 yX0_bestOf, Cond.instanceMethod yX0_bestOf, Cond.selects RX0 yX0_bestOf yX0_bestOf, Cond.initialized RX0, Cond.code yX0_bestOf cX0_bestOf 6 (some .int), Cond.fieldLink RX0 47 "PillowCourt$Told" "pillows" "I"]
def wsX0_weigh_r2 : List Cond := [Cond.methodLink RX0 50 Lib.Math.max.name, Cond.static Lib.Math.max.name, Cond.initialized "java/lang/Math", Cond.code Lib.Math.max.name Lib.Math.max.code 2 (some .int), Cond.methodLink RX0 43 yX0_mostWith, Cond.instanceMethod yX0_mostWith, Cond.selects RX0 yX0_mostWith yX0_mostWith, Cond.code yX0_mostWith cX0_mostWith 5 (some .int)]
def wsX0_weigh : List Cond := .code yX0_weigh cX0_weigh 5 none :: ((wsX0_weigh_r1 ++ wsX0_weigh_r2) ++ wsX00 ++ wsX100 ++ wsX80)
def wsX0_explained : List Cond := .code yX0_explained cX0_explained 1 (some .int) :: ([.fieldLink RX0 15 "PillowCourt$Fitting" "most" "[I"] ++ wsX00)
def wsX0_firstBest : List Cond := .code yX0_firstBest cX0_firstBest 6 (some .int) :: ([.fieldLink RX0 15 "PillowCourt$Fitting" "most" "[I", .fieldLink RX0 47 "PillowCourt$Told" "pillows" "I", .methodLink RX0 43 yX0_mostWith, .instanceMethod yX0_mostWith, .selects RX0 yX0_mostWith yX0_mostWith, .initialized RX0, .code yX0_mostWith cX0_mostWith 5 (some .int), .fieldLink RX0 9 "PillowCourt$Fitting" "gains" "[I"] ++ wsX00 ++ wsX100)
def wsX0_pillowOf : List Cond := .code yX0_pillowOf cX0_pillowOf 6 (some .int) :: ([.methodLink RX0 55 yX0_firstBest, .instanceMethod yX0_firstBest, .selects RX0 yX0_firstBest yX0_firstBest, .initialized RX0, .code yX0_firstBest cX0_firstBest 6 (some .int), .fieldLink RX0 15 "PillowCourt$Fitting" "most" "[I", .fieldLink RX0 47 "PillowCourt$Told" "pillows" "I", .methodLink RX0 43 yX0_mostWith, .instanceMethod yX0_mostWith, .selects RX0 yX0_mostWith yX0_mostWith, .code yX0_mostWith cX0_mostWith 5 (some .int), .fieldLink RX0 9 "PillowCourt$Fitting" "gains" "[I"] ++ wsX00 ++ wsX100)
def wsX6_init : List Cond := .code yX6_init cX6_init 1 none :: ([.methodLink RX6 1 objectInit, .instanceMethod objectInit, .code objectInit ⟨#[0xb1]⟩ 1 none])
def wsX1_init : List Cond := .code yX1_init cX1_init 1 none :: ([.instanceMethod yX6_init, .initialized RX6, .code yX6_init cX6_init 1 none, .methodLink RX6 1 objectInit, .instanceMethod objectInit, .code objectInit ⟨#[0xb1]⟩ 1 none])
def wsX8_thingsOn : List Cond := .code yX8_thingsOn cX8_thingsOn 4 (some .int) :: ([.methodLink RX8 40 yX8_times, .instanceMethod yX8_times, .selects RX8 yX8_times yX8_times, .initialized RX8, .code yX8_times cX8_times 3 (some .int), .fieldLink RX8 11 "PillowCourt$Scene" "cells" "[I"] ++ wsX80)
def wsJ6_bitCount_0f7a4 : List Cond := .code yJ6_bitCount_0f7a4 cJ6_bitCount_0f7a4 1 (some .int) :: ([.constant RJ6 265 (1431655765), .constant RJ6 266 (858993459), .constant RJ6 267 (252645135)])
def wsX6_rating : List Cond := .code yX6_rating cX6_rating 3 (some .int) :: ([.fieldLink RX6 7 "PillowCourt$KindPillow" "added" "J", .methodLink RX6 13 yX8_thingsOn, .instanceMethod yX8_thingsOn, .selects RX8 yX8_thingsOn yX8_thingsOn, .initialized RX8, .code yX8_thingsOn cX8_thingsOn 4 (some .int), .methodLink RX8 40 yX8_times, .instanceMethod yX8_times, .selects RX8 yX8_times yX8_times, .code yX8_times cX8_times 3 (some .int), .fieldLink RX8 11 "PillowCourt$Scene" "cells" "[I", .methodLink RX6 19 yJ6_bitCount_0f7a4, .static yJ6_bitCount_0f7a4, .initialized RJ6, .code yJ6_bitCount_0f7a4 cJ6_bitCount_0f7a4 1 (some .int), .constant RJ6 265 (1431655765), .constant RJ6 266 (858993459), .constant RJ6 267 (252645135)] ++ wsX10 ++ wsX20 ++ wsX30 ++ wsX40 ++ wsX50 ++ wsX60 ++ wsX80)
def wsX8_nightNumber : List Cond := .code yX8_nightNumber cX8_nightNumber 1 (some .int) :: ([.fieldLink RX8 11 "PillowCourt$Scene" "cells" "[I"] ++ wsX80)
def wsX1_rating_r1 : List Cond := [Cond.fieldLink RX1 7 "PillowCourt$KindBench" "added" "J", Cond.sameField "PillowCourt$KindBench" "PillowCourt$KindPillow" "added" "J", Cond.constantLong RX1 13 (100000), Cond.methodLink RX1 15 yX6_rating, Cond.sameMethod "PillowCourt$KindPillow" "PillowCourt$KindPillow" "rating" "(LPillowCourt$Scene;I)I", Cond.superclass RX1 RX6, Cond.instanceMethod yX6_rating, Cond.initialized RX6, Cond.code yX6_rating cX6_rating 3 (some .int), Cond.fieldLink RX6 7 "PillowCourt$KindPillow" "added" "J", Cond.methodLink RX6 13 yX8_thingsOn, Cond.instanceMethod yX8_thingsOn, Cond.selects RX8 yX8_thingsOn yX8_thingsOn, Cond.initialized RX8, Cond.code yX8_thingsOn cX8_thingsOn 4 (some .int), Cond.methodLink RX8 40 yX8_times, Cond.instanceMethod yX8_times, Cond.selects RX8 yX8_times yX8_times, Cond.code yX8_times cX8_times 3 (some .int), Cond.fieldLink RX8 11 "PillowCourt$Scene" "cells" "[I", Cond.methodLink RX6 19 yJ6_bitCount_0f7a4, Cond.static yJ6_bitCount_0f7a4, Cond.initialized RJ6, Cond.code yJ6_bitCount_0f7a4 cJ6_bitCount_0f7a4 1 (some .int)]
def wsX1_rating_r2 : List Cond := [Cond.constant RJ6 265 (1431655765), Cond.constant RJ6 266 (858993459), Cond.constant RJ6 267 (252645135), Cond.methodLink RX1 19 yX8_nightNumber, Cond.instanceMethod yX8_nightNumber, Cond.selects RX8 yX8_nightNumber yX8_nightNumber, Cond.code yX8_nightNumber cX8_nightNumber 1 (some .int)]
def wsX1_rating : List Cond := .code yX1_rating cX1_rating 3 (some .int) :: ((wsX1_rating_r1 ++ wsX1_rating_r2) ++ wsX10 ++ wsX20 ++ wsX30 ++ wsX40 ++ wsX50 ++ wsX60 ++ wsX80)
def wsX2_init : List Cond := .code yX2_init cX2_init 1 none :: ([.instanceMethod yX6_init, .initialized RX6, .code yX6_init cX6_init 1 none, .methodLink RX6 1 objectInit, .instanceMethod objectInit, .code objectInit ⟨#[0xb1]⟩ 1 none])
def wsX8_bedOf : List Cond := .code yX8_bedOf cX8_bedOf 2 (some .int) :: ([.fieldLink RX8 11 "PillowCourt$Scene" "cells" "[I"] ++ wsX80)
def wsX8_sleepersOn : List Cond := .code yX8_sleepersOn cX8_sleepersOn 4 (some .int) :: ([.methodLink RX8 53 yX8_bedOf, .instanceMethod yX8_bedOf, .selects RX8 yX8_bedOf yX8_bedOf, .initialized RX8, .code yX8_bedOf cX8_bedOf 2 (some .int), .fieldLink RX8 11 "PillowCourt$Scene" "cells" "[I"] ++ wsX80)
def wsX2_rating_r1 : List Cond := [Cond.fieldLink RX2 7 "PillowCourt$KindBolster" "added" "J", Cond.sameField "PillowCourt$KindBolster" "PillowCourt$KindPillow" "added" "J", Cond.constantLong RX2 13 (100), Cond.methodLink RX2 15 yX6_rating, Cond.sameMethod "PillowCourt$KindPillow" "PillowCourt$KindPillow" "rating" "(LPillowCourt$Scene;I)I", Cond.superclass RX2 RX6, Cond.instanceMethod yX6_rating, Cond.initialized RX6, Cond.code yX6_rating cX6_rating 3 (some .int), Cond.fieldLink RX6 7 "PillowCourt$KindPillow" "added" "J", Cond.methodLink RX6 13 yX8_thingsOn, Cond.instanceMethod yX8_thingsOn, Cond.selects RX8 yX8_thingsOn yX8_thingsOn, Cond.initialized RX8, Cond.code yX8_thingsOn cX8_thingsOn 4 (some .int), Cond.methodLink RX8 40 yX8_times, Cond.instanceMethod yX8_times, Cond.selects RX8 yX8_times yX8_times, Cond.code yX8_times cX8_times 3 (some .int), Cond.fieldLink RX8 11 "PillowCourt$Scene" "cells" "[I", Cond.methodLink RX6 19 yJ6_bitCount_0f7a4, Cond.static yJ6_bitCount_0f7a4, Cond.initialized RJ6, Cond.code yJ6_bitCount_0f7a4 cJ6_bitCount_0f7a4 1 (some .int)]
def wsX2_rating_r2 : List Cond := [Cond.constant RJ6 265 (1431655765), Cond.constant RJ6 266 (858993459), Cond.constant RJ6 267 (252645135), Cond.methodLink RX2 19 yX8_sleepersOn, Cond.instanceMethod yX8_sleepersOn, Cond.selects RX8 yX8_sleepersOn yX8_sleepersOn, Cond.code yX8_sleepersOn cX8_sleepersOn 4 (some .int), Cond.methodLink RX8 53 yX8_bedOf, Cond.instanceMethod yX8_bedOf, Cond.selects RX8 yX8_bedOf yX8_bedOf, Cond.code yX8_bedOf cX8_bedOf 2 (some .int), Cond.methodLink RX2 25 yJ6_bitCount_0f7a4]
def wsX2_rating : List Cond := .code yX2_rating cX2_rating 3 (some .int) :: ((wsX2_rating_r1 ++ wsX2_rating_r2) ++ wsX10 ++ wsX20 ++ wsX30 ++ wsX40 ++ wsX50 ++ wsX60 ++ wsX80)
def wsX3_init : List Cond := .code yX3_init cX3_init 1 none :: ([.instanceMethod yX6_init, .initialized RX6, .code yX6_init cX6_init 1 none, .methodLink RX6 1 objectInit, .instanceMethod objectInit, .code objectInit ⟨#[0xb1]⟩ 1 none])
def wsX3_rating_r1 : List Cond := [Cond.fieldLink RX3 9 "PillowCourt$KindDown" "added" "J", Cond.sameField "PillowCourt$KindDown" "PillowCourt$KindPillow" "added" "J", Cond.constantLong RX3 15 (10), Cond.methodLink RX3 17 yX6_rating, Cond.sameMethod "PillowCourt$KindPillow" "PillowCourt$KindPillow" "rating" "(LPillowCourt$Scene;I)I", Cond.superclass RX3 RX6, Cond.instanceMethod yX6_rating, Cond.initialized RX6, Cond.code yX6_rating cX6_rating 3 (some .int), Cond.fieldLink RX6 7 "PillowCourt$KindPillow" "added" "J", Cond.methodLink RX6 13 yX8_thingsOn, Cond.instanceMethod yX8_thingsOn, Cond.selects RX8 yX8_thingsOn yX8_thingsOn, Cond.initialized RX8, Cond.code yX8_thingsOn cX8_thingsOn 4 (some .int), Cond.methodLink RX8 40 yX8_times, Cond.instanceMethod yX8_times, Cond.selects RX8 yX8_times yX8_times, Cond.code yX8_times cX8_times 3 (some .int), Cond.fieldLink RX8 11 "PillowCourt$Scene" "cells" "[I", Cond.methodLink RX6 19 yJ6_bitCount_0f7a4, Cond.static yJ6_bitCount_0f7a4, Cond.initialized RJ6, Cond.code yJ6_bitCount_0f7a4 cJ6_bitCount_0f7a4 1 (some .int)]
def wsX3_rating_r2 : List Cond := [Cond.constant RJ6 265 (1431655765), Cond.constant RJ6 266 (858993459), Cond.constant RJ6 267 (252645135), Cond.methodLink RX3 21 yX8_timesOn, Cond.instanceMethod yX8_timesOn, Cond.selects RX8 yX8_timesOn yX8_timesOn, Cond.code yX8_timesOn cX8_timesOn 5 (some .int)]
def wsX3_rating : List Cond := .code yX3_rating cX3_rating 3 (some .int) :: ((wsX3_rating_r1 ++ wsX3_rating_r2) ++ wsX10 ++ wsX20 ++ wsX30 ++ wsX40 ++ wsX50 ++ wsX60 ++ wsX80)
def wsX4_init : List Cond := .code yX4_init cX4_init 1 none :: ([.instanceMethod yX3_init, .initialized RX3, .code yX3_init cX3_init 1 none, .instanceMethod yX6_init, .initialized RX6, .code yX6_init cX6_init 1 none, .methodLink RX6 1 objectInit, .instanceMethod objectInit, .code objectInit ⟨#[0xb1]⟩ 1 none])
def wsX4_rating_r1 : List Cond := [Cond.fieldLink RX4 7 "PillowCourt$KindGoose" "added" "J", Cond.sameField "PillowCourt$KindGoose" "PillowCourt$KindPillow" "added" "J", Cond.constantLong RX4 13 (1000), Cond.methodLink RX4 15 yX3_rating, Cond.sameMethod "PillowCourt$KindDown" "PillowCourt$KindDown" "rating" "(LPillowCourt$Scene;I)I", Cond.superclass RX4 RX3, Cond.instanceMethod yX3_rating, Cond.initialized RX3, Cond.code yX3_rating cX3_rating 3 (some .int), Cond.fieldLink RX3 9 "PillowCourt$KindDown" "added" "J", Cond.sameField "PillowCourt$KindDown" "PillowCourt$KindPillow" "added" "J", Cond.constantLong RX3 15 (10), Cond.methodLink RX3 17 yX6_rating, Cond.sameMethod "PillowCourt$KindPillow" "PillowCourt$KindPillow" "rating" "(LPillowCourt$Scene;I)I", Cond.superclass RX3 RX6, Cond.instanceMethod yX6_rating, Cond.initialized RX6, Cond.code yX6_rating cX6_rating 3 (some .int), Cond.fieldLink RX6 7 "PillowCourt$KindPillow" "added" "J", Cond.methodLink RX6 13 yX8_thingsOn, Cond.instanceMethod yX8_thingsOn, Cond.selects RX8 yX8_thingsOn yX8_thingsOn, Cond.initialized RX8, Cond.code yX8_thingsOn cX8_thingsOn 4 (some .int)]
def wsX4_rating_r2 : List Cond := [Cond.methodLink RX8 40 yX8_times, Cond.instanceMethod yX8_times, Cond.selects RX8 yX8_times yX8_times, Cond.code yX8_times cX8_times 3 (some .int), Cond.fieldLink RX8 11 "PillowCourt$Scene" "cells" "[I", Cond.methodLink RX6 19 yJ6_bitCount_0f7a4, Cond.static yJ6_bitCount_0f7a4, Cond.initialized RJ6, Cond.code yJ6_bitCount_0f7a4 cJ6_bitCount_0f7a4 1 (some .int), Cond.constant RJ6 265 (1431655765), Cond.constant RJ6 266 (858993459), Cond.constant RJ6 267 (252645135), Cond.methodLink RX3 21 yX8_timesOn, Cond.instanceMethod yX8_timesOn, Cond.selects RX8 yX8_timesOn yX8_timesOn, Cond.code yX8_timesOn cX8_timesOn 5 (some .int)]
def wsX4_rating : List Cond := .code yX4_rating cX4_rating 3 (some .int) :: ((wsX4_rating_r1 ++ wsX4_rating_r2) ++ wsX10 ++ wsX20 ++ wsX30 ++ wsX40 ++ wsX50 ++ wsX60 ++ wsX80)
def wsX5_init : List Cond := .code yX5_init cX5_init 1 none :: ([.instanceMethod yX2_init, .initialized RX2, .code yX2_init cX2_init 1 none, .instanceMethod yX6_init, .initialized RX6, .code yX6_init cX6_init 1 none, .methodLink RX6 1 objectInit, .instanceMethod objectInit, .code objectInit ⟨#[0xb1]⟩ 1 none])
def wsX5_rating_r1 : List Cond := [Cond.fieldLink RX5 7 "PillowCourt$KindHotel" "added" "J", Cond.sameField "PillowCourt$KindHotel" "PillowCourt$KindPillow" "added" "J", Cond.constantLong RX5 13 (10000), Cond.methodLink RX5 15 yX2_rating, Cond.sameMethod "PillowCourt$KindBolster" "PillowCourt$KindBolster" "rating" "(LPillowCourt$Scene;I)I", Cond.superclass RX5 RX2, Cond.instanceMethod yX2_rating, Cond.initialized RX2, Cond.code yX2_rating cX2_rating 3 (some .int), Cond.fieldLink RX2 7 "PillowCourt$KindBolster" "added" "J", Cond.sameField "PillowCourt$KindBolster" "PillowCourt$KindPillow" "added" "J", Cond.constantLong RX2 13 (100), Cond.methodLink RX2 15 yX6_rating, Cond.sameMethod "PillowCourt$KindPillow" "PillowCourt$KindPillow" "rating" "(LPillowCourt$Scene;I)I", Cond.superclass RX2 RX6, Cond.instanceMethod yX6_rating, Cond.initialized RX6, Cond.code yX6_rating cX6_rating 3 (some .int), Cond.fieldLink RX6 7 "PillowCourt$KindPillow" "added" "J", Cond.methodLink RX6 13 yX8_thingsOn, Cond.instanceMethod yX8_thingsOn, Cond.selects RX8 yX8_thingsOn yX8_thingsOn, Cond.initialized RX8, Cond.code yX8_thingsOn cX8_thingsOn 4 (some .int)]
def wsX5_rating_r2 : List Cond := [Cond.methodLink RX8 40 yX8_times, Cond.instanceMethod yX8_times, Cond.selects RX8 yX8_times yX8_times, Cond.code yX8_times cX8_times 3 (some .int), Cond.fieldLink RX8 11 "PillowCourt$Scene" "cells" "[I", Cond.methodLink RX6 19 yJ6_bitCount_0f7a4, Cond.static yJ6_bitCount_0f7a4, Cond.initialized RJ6, Cond.code yJ6_bitCount_0f7a4 cJ6_bitCount_0f7a4 1 (some .int), Cond.constant RJ6 265 (1431655765), Cond.constant RJ6 266 (858993459), Cond.constant RJ6 267 (252645135), Cond.methodLink RX2 19 yX8_sleepersOn, Cond.instanceMethod yX8_sleepersOn, Cond.selects RX8 yX8_sleepersOn yX8_sleepersOn, Cond.code yX8_sleepersOn cX8_sleepersOn 4 (some .int), Cond.methodLink RX8 53 yX8_bedOf, Cond.instanceMethod yX8_bedOf, Cond.selects RX8 yX8_bedOf yX8_bedOf, Cond.code yX8_bedOf cX8_bedOf 2 (some .int), Cond.methodLink RX2 25 yJ6_bitCount_0f7a4]
def wsX5_rating : List Cond := .code yX5_rating cX5_rating 3 (some .int) :: ((wsX5_rating_r1 ++ wsX5_rating_r2) ++ wsX10 ++ wsX20 ++ wsX30 ++ wsX40 ++ wsX50 ++ wsX60 ++ wsX80)
def wsX7_init : List Cond := .code yX7_init cX7_init 1 none :: ([.methodLink RX7 3 objectInit, .instanceMethod objectInit, .code objectInit ⟨#[0xb1]⟩ 1 none, .arrayClass .int, .fieldLink RX7 9 "PillowCourt$Reader" "letters" "[I"] ++ wsX70)
def wsX7_append : List Cond := .code yX7_append cX7_append 2 (some .boolean) :: ([.fieldLink RX7 15 "PillowCourt$Reader" "length" "I", .fieldLink RX7 9 "PillowCourt$Reader" "letters" "[I"] ++ wsX70)
def wsX7_empty : List Cond := .code yX7_empty cX7_empty 2 (some .int) :: ([.fieldLink RX7 15 "PillowCourt$Reader" "length" "I"] ++ wsX70)
def wsX10_begin : List Cond := .code yX10_begin cX10_begin 1 none :: ([.fieldLink RX10 18 "PillowCourt$Told" "clashing" "[I", .fieldLink RX10 31 "PillowCourt$Told" "people" "I", .fieldLink RX10 21 "PillowCourt$Told" "pillows" "I", .methodLink RX10 25 yJ7_fill_53178, .static yJ7_fill_53178, .initialized RJ7, .code yJ7_fill_53178 cJ7_fill_53178 4 none] ++ wsX100)
def wsX7_isDigit : List Cond := .code yX7_isDigit cX7_isDigit 1 (some .boolean) :: ([])
def wsX7_scanNumber : List Cond := .code yX7_scanNumber cX7_scanNumber 2 (some .int) :: ([.fieldLink RX7 57 "PillowCourt$Reader" "number" "I", .fieldLink RX7 24 "PillowCourt$Reader" "place" "I", .fieldLink RX7 15 "PillowCourt$Reader" "length" "I", .fieldLink RX7 9 "PillowCourt$Reader" "letters" "[I", .fieldLink RX7 37 "PillowCourt$Reader" "start" "I", .methodLink RX7 74 yX7_isDigit, .static yX7_isDigit, .initialized RX7, .code yX7_isDigit cX7_isDigit 1 (some .boolean)] ++ wsX70)
def wsX7_tokenOf : List Cond := .code yX7_tokenOf cX7_tokenOf 1 (some .int) :: ([])
def wsX7_advance : List Cond := .code yX7_advance cX7_advance 1 none :: ([.fieldLink RX7 24 "PillowCourt$Reader" "place" "I", .fieldLink RX7 15 "PillowCourt$Reader" "length" "I", .fieldLink RX7 9 "PillowCourt$Reader" "letters" "[I", .fieldLink RX7 37 "PillowCourt$Reader" "start" "I", .fieldLink RX7 30 "PillowCourt$Reader" "token" "I", .methodLink RX7 74 yX7_isDigit, .static yX7_isDigit, .initialized RX7, .code yX7_isDigit cX7_isDigit 1 (some .boolean), .methodLink RX7 78 yX7_scanNumber, .instanceMethod yX7_scanNumber, .selects RX7 yX7_scanNumber yX7_scanNumber, .code yX7_scanNumber cX7_scanNumber 2 (some .int), .fieldLink RX7 57 "PillowCourt$Reader" "number" "I", .methodLink RX7 82 yX7_tokenOf, .static yX7_tokenOf, .code yX7_tokenOf cX7_tokenOf 1 (some .int)] ++ wsX70)
def wsX7_readNumber : List Cond := .code yX7_readNumber cX7_readNumber 3 (some .boolean) :: ([.fieldLink RX7 30 "PillowCourt$Reader" "token" "I", .fieldLink RX7 57 "PillowCourt$Reader" "number" "I", .methodLink RX7 27 yX7_advance, .instanceMethod yX7_advance, .selects RX7 yX7_advance yX7_advance, .initialized RX7, .code yX7_advance cX7_advance 1 none, .fieldLink RX7 24 "PillowCourt$Reader" "place" "I", .fieldLink RX7 15 "PillowCourt$Reader" "length" "I", .fieldLink RX7 9 "PillowCourt$Reader" "letters" "[I", .fieldLink RX7 37 "PillowCourt$Reader" "start" "I", .methodLink RX7 74 yX7_isDigit, .static yX7_isDigit, .code yX7_isDigit cX7_isDigit 1 (some .boolean), .methodLink RX7 78 yX7_scanNumber, .instanceMethod yX7_scanNumber, .selects RX7 yX7_scanNumber yX7_scanNumber, .code yX7_scanNumber cX7_scanNumber 2 (some .int), .methodLink RX7 82 yX7_tokenOf, .static yX7_tokenOf, .code yX7_tokenOf cX7_tokenOf 1 (some .int)] ++ wsX70)
def wsX7_readItemEnd : List Cond := .code yX7_readItemEnd cX7_readItemEnd 1 (some .boolean) :: ([.fieldLink RX7 30 "PillowCourt$Reader" "token" "I", .methodLink RX7 27 yX7_advance, .instanceMethod yX7_advance, .selects RX7 yX7_advance yX7_advance, .initialized RX7, .code yX7_advance cX7_advance 1 none, .fieldLink RX7 24 "PillowCourt$Reader" "place" "I", .fieldLink RX7 15 "PillowCourt$Reader" "length" "I", .fieldLink RX7 9 "PillowCourt$Reader" "letters" "[I", .fieldLink RX7 37 "PillowCourt$Reader" "start" "I", .methodLink RX7 74 yX7_isDigit, .static yX7_isDigit, .code yX7_isDigit cX7_isDigit 1 (some .boolean), .methodLink RX7 78 yX7_scanNumber, .instanceMethod yX7_scanNumber, .selects RX7 yX7_scanNumber yX7_scanNumber, .code yX7_scanNumber cX7_scanNumber 2 (some .int), .fieldLink RX7 57 "PillowCourt$Reader" "number" "I", .methodLink RX7 82 yX7_tokenOf, .static yX7_tokenOf, .code yX7_tokenOf cX7_tokenOf 1 (some .int)] ++ wsX70)
def wsX7_readPillows_r1 : List Cond := [Cond.fieldLink RX7 57 "PillowCourt$Reader" "number" "I", Cond.fieldLink RX7 60 "PillowCourt$Told" "pillows" "I", Cond.methodLink RX7 53 yX7_readNumber, Cond.instanceMethod yX7_readNumber, Cond.selects RX7 yX7_readNumber yX7_readNumber, Cond.initialized RX7, Cond.code yX7_readNumber cX7_readNumber 3 (some .boolean), Cond.fieldLink RX7 30 "PillowCourt$Reader" "token" "I", Cond.methodLink RX7 27 yX7_advance, Cond.instanceMethod yX7_advance, Cond.selects RX7 yX7_advance yX7_advance, Cond.code yX7_advance cX7_advance 1 none, Cond.fieldLink RX7 24 "PillowCourt$Reader" "place" "I", Cond.fieldLink RX7 15 "PillowCourt$Reader" "length" "I", Cond.fieldLink RX7 9 "PillowCourt$Reader" "letters" "[I", Cond.fieldLink RX7 37 "PillowCourt$Reader" "start" "I", Cond.methodLink RX7 74 yX7_isDigit, Cond.static yX7_isDigit, Cond.code yX7_isDigit cX7_isDigit 1 (some .boolean), Cond.methodLink RX7 78 yX7_scanNumber, Cond.instanceMethod yX7_scanNumber, Cond.selects RX7 yX7_scanNumber yX7_scanNumber, Cond.code yX7_scanNumber cX7_scanNumber 2 (some .int), Cond.methodLink RX7 82 yX7_tokenOf]
def wsX7_readPillows_r2 : List Cond := [Cond.static yX7_tokenOf, Cond.code yX7_tokenOf cX7_tokenOf 1 (some .int), Cond.methodLink RX7 63 yX7_readItemEnd, Cond.instanceMethod yX7_readItemEnd, Cond.selects RX7 yX7_readItemEnd yX7_readItemEnd, Cond.code yX7_readItemEnd cX7_readItemEnd 1 (some .boolean)]
def wsX7_readPillows : List Cond := .code yX7_readPillows cX7_readPillows 2 (some .boolean) :: ((wsX7_readPillows_r1 ++ wsX7_readPillows_r2) ++ wsX70 ++ wsX100)
def wsX10_addPerson : List Cond := .code yX10_addPerson cX10_addPerson 3 none :: ([.fieldLink RX10 31 "PillowCourt$Told" "people" "I", .fieldLink RX10 9 "PillowCourt$Told" "knows" "[I", .fieldLink RX10 15 "PillowCourt$Told" "talks" "[I"] ++ wsX100)
def wsX7_readPerson_r1 : List Cond := [Cond.fieldLink RX7 57 "PillowCourt$Reader" "number" "I", Cond.methodLink RX7 53 yX7_readNumber, Cond.instanceMethod yX7_readNumber, Cond.selects RX7 yX7_readNumber yX7_readNumber, Cond.initialized RX7, Cond.code yX7_readNumber cX7_readNumber 3 (some .boolean), Cond.fieldLink RX7 30 "PillowCourt$Reader" "token" "I", Cond.methodLink RX7 27 yX7_advance, Cond.instanceMethod yX7_advance, Cond.selects RX7 yX7_advance yX7_advance, Cond.code yX7_advance cX7_advance 1 none, Cond.fieldLink RX7 24 "PillowCourt$Reader" "place" "I", Cond.fieldLink RX7 15 "PillowCourt$Reader" "length" "I", Cond.fieldLink RX7 9 "PillowCourt$Reader" "letters" "[I", Cond.fieldLink RX7 37 "PillowCourt$Reader" "start" "I", Cond.methodLink RX7 74 yX7_isDigit, Cond.static yX7_isDigit, Cond.code yX7_isDigit cX7_isDigit 1 (some .boolean), Cond.methodLink RX7 78 yX7_scanNumber, Cond.instanceMethod yX7_scanNumber, Cond.selects RX7 yX7_scanNumber yX7_scanNumber, Cond.code yX7_scanNumber cX7_scanNumber 2 (some .int), Cond.methodLink RX7 82 yX7_tokenOf, Cond.static yX7_tokenOf]
def wsX7_readPerson_r2 : List Cond := [Cond.code yX7_tokenOf cX7_tokenOf 1 (some .int), Cond.methodLink RX7 67 yX10_addPerson, Cond.instanceMethod yX10_addPerson, Cond.selects RX10 yX10_addPerson yX10_addPerson, Cond.initialized RX10, Cond.code yX10_addPerson cX10_addPerson 3 none, Cond.fieldLink RX10 31 "PillowCourt$Told" "people" "I", Cond.fieldLink RX10 9 "PillowCourt$Told" "knows" "[I", Cond.fieldLink RX10 15 "PillowCourt$Told" "talks" "[I", Cond.methodLink RX7 63 yX7_readItemEnd, Cond.instanceMethod yX7_readItemEnd, Cond.selects RX7 yX7_readItemEnd yX7_readItemEnd, Cond.code yX7_readItemEnd cX7_readItemEnd 1 (some .boolean)]
def wsX7_readPerson : List Cond := .code yX7_readPerson cX7_readPerson 3 (some .boolean) :: ((wsX7_readPerson_r1 ++ wsX7_readPerson_r2) ++ wsX70 ++ wsX100)
def wsX10_addClash : List Cond := .code yX10_addClash cX10_addClash 3 none :: ([.fieldLink RX10 18 "PillowCourt$Told" "clashing" "[I"] ++ wsX100)
def wsX7_readClash_r1 : List Cond := [Cond.fieldLink RX7 57 "PillowCourt$Reader" "number" "I", Cond.methodLink RX7 53 yX7_readNumber, Cond.instanceMethod yX7_readNumber, Cond.selects RX7 yX7_readNumber yX7_readNumber, Cond.initialized RX7, Cond.code yX7_readNumber cX7_readNumber 3 (some .boolean), Cond.fieldLink RX7 30 "PillowCourt$Reader" "token" "I", Cond.methodLink RX7 27 yX7_advance, Cond.instanceMethod yX7_advance, Cond.selects RX7 yX7_advance yX7_advance, Cond.code yX7_advance cX7_advance 1 none, Cond.fieldLink RX7 24 "PillowCourt$Reader" "place" "I", Cond.fieldLink RX7 15 "PillowCourt$Reader" "length" "I", Cond.fieldLink RX7 9 "PillowCourt$Reader" "letters" "[I", Cond.fieldLink RX7 37 "PillowCourt$Reader" "start" "I", Cond.methodLink RX7 74 yX7_isDigit, Cond.static yX7_isDigit, Cond.code yX7_isDigit cX7_isDigit 1 (some .boolean), Cond.methodLink RX7 78 yX7_scanNumber, Cond.instanceMethod yX7_scanNumber, Cond.selects RX7 yX7_scanNumber yX7_scanNumber, Cond.code yX7_scanNumber cX7_scanNumber 2 (some .int), Cond.methodLink RX7 82 yX7_tokenOf, Cond.static yX7_tokenOf]
def wsX7_readClash_r2 : List Cond := [Cond.code yX7_tokenOf cX7_tokenOf 1 (some .int), Cond.methodLink RX7 71 yX10_addClash, Cond.instanceMethod yX10_addClash, Cond.selects RX10 yX10_addClash yX10_addClash, Cond.initialized RX10, Cond.code yX10_addClash cX10_addClash 3 none, Cond.fieldLink RX10 18 "PillowCourt$Told" "clashing" "[I", Cond.methodLink RX7 63 yX7_readItemEnd, Cond.instanceMethod yX7_readItemEnd, Cond.selects RX7 yX7_readItemEnd yX7_readItemEnd, Cond.code yX7_readItemEnd cX7_readItemEnd 1 (some .boolean)]
def wsX7_readClash : List Cond := .code yX7_readClash cX7_readClash 3 (some .boolean) :: ((wsX7_readClash_r1 ++ wsX7_readClash_r2) ++ wsX70 ++ wsX100)
def wsX7_readItem_r1 : List Cond := [Cond.fieldLink RX7 30 "PillowCourt$Reader" "token" "I", Cond.fieldLink RX7 44 "PillowCourt$Told" "people" "I", Cond.methodLink RX7 40 yX7_readPillows, Cond.instanceMethod yX7_readPillows, Cond.selects RX7 yX7_readPillows yX7_readPillows, Cond.initialized RX7, Cond.code yX7_readPillows cX7_readPillows 2 (some .boolean), Cond.fieldLink RX7 57 "PillowCourt$Reader" "number" "I", Cond.fieldLink RX7 60 "PillowCourt$Told" "pillows" "I", Cond.methodLink RX7 53 yX7_readNumber, Cond.instanceMethod yX7_readNumber, Cond.selects RX7 yX7_readNumber yX7_readNumber, Cond.code yX7_readNumber cX7_readNumber 3 (some .boolean), Cond.methodLink RX7 27 yX7_advance, Cond.instanceMethod yX7_advance, Cond.selects RX7 yX7_advance yX7_advance, Cond.code yX7_advance cX7_advance 1 none, Cond.fieldLink RX7 24 "PillowCourt$Reader" "place" "I", Cond.fieldLink RX7 15 "PillowCourt$Reader" "length" "I", Cond.fieldLink RX7 9 "PillowCourt$Reader" "letters" "[I", Cond.fieldLink RX7 37 "PillowCourt$Reader" "start" "I", Cond.methodLink RX7 74 yX7_isDigit, Cond.static yX7_isDigit, Cond.code yX7_isDigit cX7_isDigit 1 (some .boolean)]
def wsX7_readItem_r2 : List Cond := [Cond.methodLink RX7 78 yX7_scanNumber, Cond.instanceMethod yX7_scanNumber, Cond.selects RX7 yX7_scanNumber yX7_scanNumber, Cond.code yX7_scanNumber cX7_scanNumber 2 (some .int), Cond.methodLink RX7 82 yX7_tokenOf, Cond.static yX7_tokenOf, Cond.code yX7_tokenOf cX7_tokenOf 1 (some .int), Cond.methodLink RX7 63 yX7_readItemEnd, Cond.instanceMethod yX7_readItemEnd, Cond.selects RX7 yX7_readItemEnd yX7_readItemEnd, Cond.code yX7_readItemEnd cX7_readItemEnd 1 (some .boolean), Cond.methodLink RX7 47 yX7_readPerson, Cond.instanceMethod yX7_readPerson, Cond.selects RX7 yX7_readPerson yX7_readPerson, Cond.code yX7_readPerson cX7_readPerson 3 (some .boolean), Cond.methodLink RX7 67 yX10_addPerson, Cond.instanceMethod yX10_addPerson, Cond.selects RX10 yX10_addPerson yX10_addPerson, Cond.initialized RX10, Cond.code yX10_addPerson cX10_addPerson 3 none, Cond.fieldLink RX10 31 "PillowCourt$Told" "people" "I", Cond.fieldLink RX10 9 "PillowCourt$Told" "knows" "[I", Cond.fieldLink RX10 15 "PillowCourt$Told" "talks" "[I", Cond.methodLink RX7 50 yX7_readClash]
def wsX7_readItem_r3 : List Cond := [Cond.instanceMethod yX7_readClash, Cond.selects RX7 yX7_readClash yX7_readClash, Cond.code yX7_readClash cX7_readClash 3 (some .boolean), Cond.methodLink RX7 71 yX10_addClash, Cond.instanceMethod yX10_addClash, Cond.selects RX10 yX10_addClash yX10_addClash, Cond.code yX10_addClash cX10_addClash 3 none, Cond.fieldLink RX10 18 "PillowCourt$Told" "clashing" "[I"]
def wsX7_readItem : List Cond := .code yX7_readItem cX7_readItem 3 (some .boolean) :: ((wsX7_readItem_r1 ++ (wsX7_readItem_r2 ++ wsX7_readItem_r3)) ++ wsX70 ++ wsX100)
def wsX7_read_r1 : List Cond := [Cond.fieldLink RX7 24 "PillowCourt$Reader" "place" "I", Cond.fieldLink RX7 30 "PillowCourt$Reader" "token" "I", Cond.fieldLink RX7 37 "PillowCourt$Reader" "start" "I", Cond.methodLink RX7 19 yX10_begin, Cond.instanceMethod yX10_begin, Cond.selects RX10 yX10_begin yX10_begin, Cond.initialized RX10, Cond.code yX10_begin cX10_begin 1 none, Cond.fieldLink RX10 18 "PillowCourt$Told" "clashing" "[I", Cond.fieldLink RX10 31 "PillowCourt$Told" "people" "I", Cond.fieldLink RX10 21 "PillowCourt$Told" "pillows" "I", Cond.methodLink RX10 25 yJ7_fill_53178, Cond.static yJ7_fill_53178, Cond.initialized RJ7, Cond.code yJ7_fill_53178 cJ7_fill_53178 4 none, Cond.methodLink RX7 27 yX7_advance, Cond.instanceMethod yX7_advance, Cond.selects RX7 yX7_advance yX7_advance, Cond.initialized RX7, Cond.code yX7_advance cX7_advance 1 none, Cond.fieldLink RX7 15 "PillowCourt$Reader" "length" "I", Cond.fieldLink RX7 9 "PillowCourt$Reader" "letters" "[I", Cond.methodLink RX7 74 yX7_isDigit, Cond.static yX7_isDigit]
def wsX7_read_r2 : List Cond := [Cond.code yX7_isDigit cX7_isDigit 1 (some .boolean), Cond.methodLink RX7 78 yX7_scanNumber, Cond.instanceMethod yX7_scanNumber, Cond.selects RX7 yX7_scanNumber yX7_scanNumber, Cond.code yX7_scanNumber cX7_scanNumber 2 (some .int), Cond.fieldLink RX7 57 "PillowCourt$Reader" "number" "I", Cond.methodLink RX7 82 yX7_tokenOf, Cond.static yX7_tokenOf, Cond.code yX7_tokenOf cX7_tokenOf 1 (some .int), Cond.methodLink RX7 33 yX7_readItem, Cond.instanceMethod yX7_readItem, Cond.selects RX7 yX7_readItem yX7_readItem, Cond.code yX7_readItem cX7_readItem 3 (some .boolean), Cond.fieldLink RX7 44 "PillowCourt$Told" "people" "I", Cond.methodLink RX7 40 yX7_readPillows, Cond.instanceMethod yX7_readPillows, Cond.selects RX7 yX7_readPillows yX7_readPillows, Cond.code yX7_readPillows cX7_readPillows 2 (some .boolean), Cond.fieldLink RX7 60 "PillowCourt$Told" "pillows" "I", Cond.methodLink RX7 53 yX7_readNumber, Cond.instanceMethod yX7_readNumber, Cond.selects RX7 yX7_readNumber yX7_readNumber, Cond.code yX7_readNumber cX7_readNumber 3 (some .boolean), Cond.methodLink RX7 63 yX7_readItemEnd]
def wsX7_read_r3 : List Cond := [Cond.instanceMethod yX7_readItemEnd, Cond.selects RX7 yX7_readItemEnd yX7_readItemEnd, Cond.code yX7_readItemEnd cX7_readItemEnd 1 (some .boolean), Cond.methodLink RX7 47 yX7_readPerson, Cond.instanceMethod yX7_readPerson, Cond.selects RX7 yX7_readPerson yX7_readPerson, Cond.code yX7_readPerson cX7_readPerson 3 (some .boolean), Cond.methodLink RX7 67 yX10_addPerson, Cond.instanceMethod yX10_addPerson, Cond.selects RX10 yX10_addPerson yX10_addPerson, Cond.code yX10_addPerson cX10_addPerson 3 none, Cond.fieldLink RX10 9 "PillowCourt$Told" "knows" "[I", Cond.fieldLink RX10 15 "PillowCourt$Told" "talks" "[I", Cond.methodLink RX7 50 yX7_readClash, Cond.instanceMethod yX7_readClash, Cond.selects RX7 yX7_readClash yX7_readClash, Cond.code yX7_readClash cX7_readClash 3 (some .boolean), Cond.methodLink RX7 71 yX10_addClash, Cond.instanceMethod yX10_addClash, Cond.selects RX10 yX10_addClash yX10_addClash, Cond.code yX10_addClash cX10_addClash 3 none]
def wsX7_read : List Cond := .code yX7_read cX7_read 3 (some .int) :: ((wsX7_read_r1 ++ (wsX7_read_r2 ++ wsX7_read_r3)) ++ wsX70 ++ wsX100)
def wsX8_init : List Cond := .code yX8_init cX8_init 1 none :: ([.methodLink RX8 5 objectInit, .instanceMethod objectInit, .code objectInit ⟨#[0xb1]⟩ 1 none, .arrayClass .int, .fieldLink RX8 11 "PillowCourt$Scene" "cells" "[I"] ++ wsX80)
def wsX10_hasPerson : List Cond := .code yX10_hasPerson cX10_hasPerson 2 (some .boolean) :: ([.fieldLink RX10 31 "PillowCourt$Told" "people" "I"] ++ wsX100)
def wsX10_hasPillow : List Cond := .code yX10_hasPillow cX10_hasPillow 2 (some .boolean) :: ([.fieldLink RX10 21 "PillowCourt$Told" "pillows" "I"] ++ wsX100)
def wsX8_lay : List Cond := .code yX8_lay cX8_lay 3 none :: ([.fieldLink RX8 11 "PillowCourt$Scene" "cells" "[I"] ++ wsX80)
def wsX8_begin : List Cond := .code yX8_begin cX8_begin 3 none :: ([.fieldLink RX8 11 "PillowCourt$Scene" "cells" "[I", .methodLink RX8 15 yJ7_fill_53178, .static yJ7_fill_53178, .initialized RJ7, .code yJ7_fill_53178 cJ7_fill_53178 4 none, .methodLink RX8 21 yX10_hasPerson, .instanceMethod yX10_hasPerson, .selects RX10 yX10_hasPerson yX10_hasPerson, .initialized RX10, .code yX10_hasPerson cX10_hasPerson 2 (some .boolean), .fieldLink RX10 31 "PillowCourt$Told" "people" "I", .methodLink RX8 27 yX10_hasPillow, .instanceMethod yX10_hasPillow, .selects RX10 yX10_hasPillow yX10_hasPillow, .code yX10_hasPillow cX10_hasPillow 2 (some .boolean), .fieldLink RX10 21 "PillowCourt$Told" "pillows" "I", .methodLink RX8 30 yX8_lay, .instanceMethod yX8_lay, .selects RX8 yX8_lay yX8_lay, .initialized RX8, .code yX8_lay cX8_lay 3 none] ++ wsX80 ++ wsX100)
def wsX8_setTimes : List Cond := .code yX8_setTimes cX8_setTimes 4 none :: ([.fieldLink RX8 11 "PillowCourt$Scene" "cells" "[I", .methodLink RX8 34 Lib.Math.min.name, .static Lib.Math.min.name, .initialized "java/lang/Math", .code Lib.Math.min.name Lib.Math.min.code 2 (some .int)] ++ wsX80)
def wsX8_isExamined : List Cond := .code yX8_isExamined cX8_isExamined 2 (some .boolean) :: ([.fieldLink RX8 11 "PillowCourt$Scene" "cells" "[I"] ++ wsX80)
def wsX8_examine : List Cond := .code yX8_examine cX8_examine 2 none :: ([.fieldLink RX8 11 "PillowCourt$Scene" "cells" "[I"] ++ wsX80)
def wsX8_thingsOnSet : List Cond := .code yX8_thingsOnSet cX8_thingsOnSet 4 (some .int) :: ([.methodLink RX8 43 yX8_thingsOn, .instanceMethod yX8_thingsOn, .selects RX8 yX8_thingsOn yX8_thingsOn, .initialized RX8, .code yX8_thingsOn cX8_thingsOn 4 (some .int), .methodLink RX8 40 yX8_times, .instanceMethod yX8_times, .selects RX8 yX8_times yX8_times, .code yX8_times cX8_times 3 (some .int), .fieldLink RX8 11 "PillowCourt$Scene" "cells" "[I"] ++ wsX80)
def wsX8_allThings : List Cond := .code yX8_allThings cX8_allThings 1 (some .int) :: ([.methodLink RX8 47 yX8_thingsOnSet, .instanceMethod yX8_thingsOnSet, .selects RX8 yX8_thingsOnSet yX8_thingsOnSet, .initialized RX8, .code yX8_thingsOnSet cX8_thingsOnSet 4 (some .int), .methodLink RX8 43 yX8_thingsOn, .instanceMethod yX8_thingsOn, .selects RX8 yX8_thingsOn yX8_thingsOn, .code yX8_thingsOn cX8_thingsOn 4 (some .int), .methodLink RX8 40 yX8_times, .instanceMethod yX8_times, .selects RX8 yX8_times yX8_times, .code yX8_times cX8_times 3 (some .int), .fieldLink RX8 11 "PillowCourt$Scene" "cells" "[I"] ++ wsX80)
def wsX8_knownThings : List Cond := .code yX8_knownThings cX8_knownThings 1 (some .int) :: ([.fieldLink RX8 11 "PillowCourt$Scene" "cells" "[I", .methodLink RX8 47 yX8_thingsOnSet, .instanceMethod yX8_thingsOnSet, .selects RX8 yX8_thingsOnSet yX8_thingsOnSet, .initialized RX8, .code yX8_thingsOnSet cX8_thingsOnSet 4 (some .int), .methodLink RX8 43 yX8_thingsOn, .instanceMethod yX8_thingsOn, .selects RX8 yX8_thingsOn yX8_thingsOn, .code yX8_thingsOn cX8_thingsOn 4 (some .int), .methodLink RX8 40 yX8_times, .instanceMethod yX8_times, .selects RX8 yX8_times yX8_times, .code yX8_times cX8_times 3 (some .int)] ++ wsX80)
def wsX8_timesOfSet : List Cond := .code yX8_timesOfSet cX8_timesOfSet 4 (some .int) :: ([.methodLink RX8 50 yX8_timesOn, .instanceMethod yX8_timesOn, .selects RX8 yX8_timesOn yX8_timesOn, .initialized RX8, .code yX8_timesOn cX8_timesOn 5 (some .int), .methodLink RX8 40 yX8_times, .instanceMethod yX8_times, .selects RX8 yX8_times yX8_times, .code yX8_times cX8_times 3 (some .int), .fieldLink RX8 11 "PillowCourt$Scene" "cells" "[I"] ++ wsX80)
def wsX10_thingAt : List Cond := .code yX10_thingAt cX10_thingAt 4 (some .int) :: ([])
def wsX10_thingSaid : List Cond := .code yX10_thingSaid cX10_thingSaid 8 (some .int) :: ([.fieldLink RX10 9 "PillowCourt$Told" "knows" "[I", .constantLong RX10 40 (7919), .constantLong RX10 42 (6151), .constantLong RX10 44 (4253), .constantLong RX10 46 (65521), .constantLong RX10 48 (8), .fieldLink RX10 15 "PillowCourt$Told" "talks" "[I", .methodLink RX10 34 yJ6_bitCount_0f7a4, .static yJ6_bitCount_0f7a4, .initialized RJ6, .code yJ6_bitCount_0f7a4 cJ6_bitCount_0f7a4 1 (some .int), .constant RJ6 265 (1431655765), .constant RJ6 266 (858993459), .constant RJ6 267 (252645135), .methodLink RX10 50 yX10_thingAt, .static yX10_thingAt, .initialized RX10, .code yX10_thingAt cX10_thingAt 4 (some .int)] ++ wsX100)
def wsX8_hear : List Cond := .code yX8_hear cX8_hear 3 none :: ([.methodLink RX8 40 yX8_times, .instanceMethod yX8_times, .selects RX8 yX8_times yX8_times, .initialized RX8, .code yX8_times cX8_times 3 (some .int), .fieldLink RX8 11 "PillowCourt$Scene" "cells" "[I", .methodLink RX8 71 yX8_setTimes, .instanceMethod yX8_setTimes, .selects RX8 yX8_setTimes yX8_setTimes, .code yX8_setTimes cX8_setTimes 4 none, .methodLink RX8 34 Lib.Math.min.name, .static Lib.Math.min.name, .initialized "java/lang/Math", .code Lib.Math.min.name Lib.Math.min.code 2 (some .int)] ++ wsX80)
def wsX8_sleep_r1 : List Cond := [Cond.fieldLink RX8 56 "PillowCourt$Told" "people" "I", Cond.fieldLink RX8 11 "PillowCourt$Scene" "cells" "[I", Cond.methodLink RX8 60 yX8_nightNumber, Cond.instanceMethod yX8_nightNumber, Cond.selects RX8 yX8_nightNumber yX8_nightNumber, Cond.initialized RX8, Cond.code yX8_nightNumber cX8_nightNumber 1 (some .int), Cond.methodLink RX8 64 yX10_thingSaid, Cond.instanceMethod yX10_thingSaid, Cond.selects RX10 yX10_thingSaid yX10_thingSaid, Cond.initialized RX10, Cond.code yX10_thingSaid cX10_thingSaid 8 (some .int), Cond.fieldLink RX10 9 "PillowCourt$Told" "knows" "[I", Cond.constantLong RX10 40 (7919), Cond.constantLong RX10 42 (6151), Cond.constantLong RX10 44 (4253), Cond.constantLong RX10 46 (65521), Cond.constantLong RX10 48 (8), Cond.fieldLink RX10 15 "PillowCourt$Told" "talks" "[I", Cond.methodLink RX10 34 yJ6_bitCount_0f7a4, Cond.static yJ6_bitCount_0f7a4, Cond.initialized RJ6, Cond.code yJ6_bitCount_0f7a4 cJ6_bitCount_0f7a4 1 (some .int), Cond.constant RJ6 265 (1431655765)]
def wsX8_sleep_r2 : List Cond := [Cond.constant RJ6 266 (858993459), Cond.constant RJ6 267 (252645135), Cond.methodLink RX10 50 yX10_thingAt, Cond.static yX10_thingAt, Cond.code yX10_thingAt cX10_thingAt 4 (some .int), Cond.methodLink RX8 53 yX8_bedOf, Cond.instanceMethod yX8_bedOf, Cond.selects RX8 yX8_bedOf yX8_bedOf, Cond.code yX8_bedOf cX8_bedOf 2 (some .int), Cond.methodLink RX8 68 yX8_hear, Cond.instanceMethod yX8_hear, Cond.selects RX8 yX8_hear yX8_hear, Cond.code yX8_hear cX8_hear 3 none, Cond.methodLink RX8 40 yX8_times, Cond.instanceMethod yX8_times, Cond.selects RX8 yX8_times yX8_times, Cond.code yX8_times cX8_times 3 (some .int), Cond.methodLink RX8 71 yX8_setTimes, Cond.instanceMethod yX8_setTimes, Cond.selects RX8 yX8_setTimes yX8_setTimes, Cond.code yX8_setTimes cX8_setTimes 4 none, Cond.methodLink RX8 34 Lib.Math.min.name, Cond.static Lib.Math.min.name, Cond.initialized "java/lang/Math"]
def wsX8_sleep_r3 : List Cond := [Cond.code Lib.Math.min.name Lib.Math.min.code 2 (some .int)]
def wsX8_sleep : List Cond := .code yX8_sleep cX8_sleep 6 (some .int) :: ((wsX8_sleep_r1 ++ (wsX8_sleep_r2 ++ wsX8_sleep_r3)) ++ wsX100 ++ wsX80)
def wsX8_slip : List Cond := .code yX8_slip cX8_slip 3 none :: ([.fieldLink RX8 11 "PillowCourt$Scene" "cells" "[I", .methodLink RX8 71 yX8_setTimes, .instanceMethod yX8_setTimes, .selects RX8 yX8_setTimes yX8_setTimes, .initialized RX8, .code yX8_setTimes cX8_setTimes 4 none, .methodLink RX8 34 Lib.Math.min.name, .static Lib.Math.min.name, .initialized "java/lang/Math", .code Lib.Math.min.name Lib.Math.min.code 2 (some .int)] ++ wsX80)
def wsX8_mix : List Cond := .code yX8_mix cX8_mix 5 none :: ([.methodLink RX8 40 yX8_times, .instanceMethod yX8_times, .selects RX8 yX8_times yX8_times, .initialized RX8, .code yX8_times cX8_times 3 (some .int), .fieldLink RX8 11 "PillowCourt$Scene" "cells" "[I", .methodLink RX8 71 yX8_setTimes, .instanceMethod yX8_setTimes, .selects RX8 yX8_setTimes yX8_setTimes, .code yX8_setTimes cX8_setTimes 4 none, .methodLink RX8 34 Lib.Math.min.name, .static Lib.Math.min.name, .initialized "java/lang/Math", .code Lib.Math.min.name Lib.Math.min.code 2 (some .int)] ++ wsX80)
def wsX9_init : List Cond := .code yX9_init cX9_init 1 none :: ([.methodLink RX9 3 objectInit, .instanceMethod objectInit, .code objectInit ⟨#[0xb1]⟩ 1 none, .arrayClass .int, .fieldLink RX9 11 "PillowCourt$Shelf" "past" "[I", .fieldLink RX9 17 "PillowCourt$Shelf" "images" "[I", .arrayClass .boolean, .fieldLink RX9 20 "PillowCourt$Shelf" "isKept" "[Z"] ++ wsX90)
def wsX9_empty : List Cond := .code yX9_empty cX9_empty 2 none :: ([.fieldLink RX9 24 "PillowCourt$Shelf" "undoable" "I", .fieldLink RX9 20 "PillowCourt$Shelf" "isKept" "[Z"] ++ wsX90)
def wsX9_remember : List Cond := .code yX9_remember cX9_remember 2 none :: ([.fieldLink RX9 28 "PillowCourt$Scene" "cells" "[I", .fieldLink RX9 11 "PillowCourt$Shelf" "past" "[I", .fieldLink RX9 31 "PillowCourt$Shelf" "top" "I", .methodLink RX9 34 arraycopyName, .native arraycopyName, .static arraycopyName, .initialized "java/lang/System", .fieldLink RX9 24 "PillowCourt$Shelf" "undoable" "I", .methodLink RX9 40 Lib.Math.min.name, .static Lib.Math.min.name, .initialized "java/lang/Math", .code Lib.Math.min.name Lib.Math.min.code 2 (some .int)] ++ wsX80 ++ wsX90)
def wsX9_restoreLatest : List Cond := .code yX9_restoreLatest cX9_restoreLatest 2 (some .boolean) :: ([.fieldLink RX9 24 "PillowCourt$Shelf" "undoable" "I", .fieldLink RX9 31 "PillowCourt$Shelf" "top" "I", .fieldLink RX9 11 "PillowCourt$Shelf" "past" "[I", .fieldLink RX9 28 "PillowCourt$Scene" "cells" "[I", .methodLink RX9 34 arraycopyName, .native arraycopyName, .static arraycopyName, .initialized "java/lang/System"] ++ wsX90 ++ wsX80)
def wsX9_keepImage : List Cond := .code yX9_keepImage cX9_keepImage 3 none :: ([.fieldLink RX9 28 "PillowCourt$Scene" "cells" "[I", .fieldLink RX9 17 "PillowCourt$Shelf" "images" "[I", .methodLink RX9 34 arraycopyName, .native arraycopyName, .static arraycopyName, .initialized "java/lang/System", .fieldLink RX9 20 "PillowCourt$Shelf" "isKept" "[Z"] ++ wsX80 ++ wsX90)
def wsX9_restoreImage : List Cond := .code yX9_restoreImage cX9_restoreImage 3 (some .boolean) :: ([.fieldLink RX9 20 "PillowCourt$Shelf" "isKept" "[Z", .fieldLink RX9 17 "PillowCourt$Shelf" "images" "[I", .fieldLink RX9 28 "PillowCourt$Scene" "cells" "[I", .methodLink RX9 34 arraycopyName, .native arraycopyName, .static arraycopyName, .initialized "java/lang/System", .fieldLink RX9 24 "PillowCourt$Shelf" "undoable" "I"] ++ wsX90 ++ wsX80)
def wsX10_init : List Cond := .code yX10_init cX10_init 1 none :: ([.methodLink RX10 3 objectInit, .instanceMethod objectInit, .code objectInit ⟨#[0xb1]⟩ 1 none, .arrayClass .int, .fieldLink RX10 9 "PillowCourt$Told" "knows" "[I", .fieldLink RX10 15 "PillowCourt$Told" "talks" "[I", .fieldLink RX10 18 "PillowCourt$Told" "clashing" "[I", .fieldLink RX10 21 "PillowCourt$Told" "pillows" "I"] ++ wsX100)
def wsX10_knownTo : List Cond := .code yX10_knownTo cX10_knownTo 4 (some .int) :: ([.fieldLink RX10 31 "PillowCourt$Told" "people" "I", .fieldLink RX10 9 "PillowCourt$Told" "knows" "[I"] ++ wsX100)
def wsX10_knownToOne : List Cond := .code yX10_knownToOne cX10_knownToOne 4 (some .int) :: ([.fieldLink RX10 31 "PillowCourt$Told" "people" "I", .fieldLink RX10 9 "PillowCourt$Told" "knows" "[I"] ++ wsX100)
def wsX10_clashesWithin : List Cond := .code yX10_clashesWithin cX10_clashesWithin 4 (some .int) :: ([.fieldLink RX10 18 "PillowCourt$Told" "clashing" "[I", .methodLink RX10 34 yJ6_bitCount_0f7a4, .static yJ6_bitCount_0f7a4, .initialized RJ6, .code yJ6_bitCount_0f7a4 cJ6_bitCount_0f7a4 1 (some .int), .constant RJ6 265 (1431655765), .constant RJ6 266 (858993459), .constant RJ6 267 (252645135)] ++ wsX100)
def wsX11_init_r1 : List Cond := [Cond.methodLink RX11 3 objectInit, Cond.instanceMethod objectInit, Cond.code objectInit ⟨#[0xb1]⟩ 1 none, Cond.classLink RX11 9 RX7, Cond.instantiable RX7 6, Cond.initialized RX7, Cond.fieldLink RX11 12 "PillowCourt" "reader" "LPillowCourt$Reader;", Cond.classLink RX11 16 RX8, Cond.instantiable RX8 1, Cond.initialized RX8, Cond.fieldLink RX11 19 "PillowCourt" "scene" "LPillowCourt$Scene;", Cond.classLink RX11 23 RX9, Cond.instantiable RX9 5, Cond.initialized RX9, Cond.fieldLink RX11 26 "PillowCourt" "shelf" "LPillowCourt$Shelf;", Cond.classLink RX11 30 RX0, Cond.instantiable RX0 2, Cond.initialized RX0, Cond.fieldLink RX11 33 "PillowCourt" "fitting" "LPillowCourt$Fitting;", Cond.classLink RX11 37 RX6, Cond.instantiable RX6 1, Cond.initialized RX6, Cond.classLink RX11 40 RX3, Cond.instantiable RX3 1]
def wsX11_init_r2 : List Cond := [Cond.initialized RX3, Cond.classLink RX11 43 RX2, Cond.instantiable RX2 1, Cond.initialized RX2, Cond.classLink RX11 46 RX4, Cond.instantiable RX4 1, Cond.initialized RX4, Cond.classLink RX11 49 RX5, Cond.instantiable RX5 1, Cond.initialized RX5, Cond.classLink RX11 52 RX1, Cond.instantiable RX1 1, Cond.initialized RX1, Cond.fieldLink RX11 55 "PillowCourt" "kinds" "[LPillowCourt$KindPillow;", Cond.arrayClass .int, Cond.fieldLink RX11 59 "PillowCourt" "notedPillow" "[I", Cond.fieldLink RX11 63 "PillowCourt" "notedThing" "[I", Cond.fieldLink RX11 66 "PillowCourt" "notedIs" "[I", Cond.fieldLink RX11 69 "PillowCourt" "ears" "[I", Cond.classLink RX11 72 RX10, Cond.instantiable RX10 5, Cond.initialized RX10, Cond.fieldLink RX11 75 "PillowCourt" "told" "LPillowCourt$Told;", Cond.fieldLink RX11 79 "PillowCourt" "spare" "LPillowCourt$Told;"]
def wsX11_init_r3 : List Cond := [Cond.instanceMethod yX7_init, Cond.code yX7_init cX7_init 1 none, Cond.methodLink RX7 3 objectInit, Cond.fieldLink RX7 9 "PillowCourt$Reader" "letters" "[I", Cond.instanceMethod yX8_init, Cond.code yX8_init cX8_init 1 none, Cond.methodLink RX8 5 objectInit, Cond.fieldLink RX8 11 "PillowCourt$Scene" "cells" "[I", Cond.instanceMethod yX9_init, Cond.code yX9_init cX9_init 1 none, Cond.methodLink RX9 3 objectInit, Cond.fieldLink RX9 11 "PillowCourt$Shelf" "past" "[I", Cond.fieldLink RX9 17 "PillowCourt$Shelf" "images" "[I", Cond.arrayClass .boolean, Cond.fieldLink RX9 20 "PillowCourt$Shelf" "isKept" "[Z", Cond.instanceMethod yX0_init, Cond.code yX0_init cX0_init 1 none, Cond.methodLink RX0 3 objectInit, Cond.fieldLink RX0 9 "PillowCourt$Fitting" "gains" "[I", Cond.fieldLink RX0 15 "PillowCourt$Fitting" "most" "[I", Cond.instanceMethod yX6_init, Cond.code yX6_init cX6_init 1 none, Cond.methodLink RX6 1 objectInit, Cond.instanceMethod yX3_init]
def wsX11_init_r4 : List Cond := [Cond.code yX3_init cX3_init 1 none, Cond.instanceMethod yX2_init, Cond.code yX2_init cX2_init 1 none, Cond.instanceMethod yX4_init, Cond.code yX4_init cX4_init 1 none, Cond.instanceMethod yX5_init, Cond.code yX5_init cX5_init 1 none, Cond.instanceMethod yX1_init, Cond.code yX1_init cX1_init 1 none, Cond.instanceMethod yX10_init, Cond.code yX10_init cX10_init 1 none, Cond.methodLink RX10 3 objectInit, Cond.fieldLink RX10 9 "PillowCourt$Told" "knows" "[I", Cond.fieldLink RX10 15 "PillowCourt$Told" "talks" "[I", Cond.fieldLink RX10 18 "PillowCourt$Told" "clashing" "[I", Cond.fieldLink RX10 21 "PillowCourt$Told" "pillows" "I", Cond.methodLink RX11 82 yX8_begin, Cond.instanceMethod yX8_begin, Cond.selects RX8 yX8_begin yX8_begin, Cond.code yX8_begin cX8_begin 3 none, Cond.methodLink RX8 15 yJ7_fill_53178, Cond.static yJ7_fill_53178, Cond.initialized RJ7, Cond.code yJ7_fill_53178 cJ7_fill_53178 4 none]
def wsX11_init_r5 : List Cond := [Cond.methodLink RX8 21 yX10_hasPerson, Cond.instanceMethod yX10_hasPerson, Cond.selects RX10 yX10_hasPerson yX10_hasPerson, Cond.code yX10_hasPerson cX10_hasPerson 2 (some .boolean), Cond.fieldLink RX10 31 "PillowCourt$Told" "people" "I", Cond.methodLink RX8 27 yX10_hasPillow, Cond.instanceMethod yX10_hasPillow, Cond.selects RX10 yX10_hasPillow yX10_hasPillow, Cond.code yX10_hasPillow cX10_hasPillow 2 (some .boolean), Cond.methodLink RX8 30 yX8_lay, Cond.instanceMethod yX8_lay, Cond.selects RX8 yX8_lay yX8_lay, Cond.code yX8_lay cX8_lay 3 none]
def wsX11_init : List Cond := .code yX11_init cX11_init 1 none :: ((wsX11_init_r1 ++ (wsX11_init_r2 ++ (wsX11_init_r3 ++ (wsX11_init_r4 ++ wsX11_init_r5)))) ++ wsX70 ++ wsX110 ++ wsX80 ++ wsX90 ++ wsX00 ++ wsX60 ++ wsX30 ++ wsX20 ++ wsX40 ++ wsX50 ++ wsX10 ++ wsX100)
def wsX11_type : List Cond := .code yX11_type cX11_type 2 (some .int) :: ([.fieldLink RX11 12 "PillowCourt" "reader" "LPillowCourt$Reader;", .fieldLink RX11 90 "PillowCourt$Reader" "length" "I", .methodLink RX11 86 yX7_append, .instanceMethod yX7_append, .selects RX7 yX7_append yX7_append, .initialized RX7, .code yX7_append cX7_append 2 (some .boolean), .fieldLink RX7 15 "PillowCourt$Reader" "length" "I", .fieldLink RX7 9 "PillowCourt$Reader" "letters" "[I"] ++ wsX110 ++ wsX70)
def wsX11_clear : List Cond := .code yX11_clear cX11_clear 1 (some .int) :: ([.fieldLink RX11 12 "PillowCourt" "reader" "LPillowCourt$Reader;", .methodLink RX11 94 yX7_empty, .instanceMethod yX7_empty, .selects RX7 yX7_empty yX7_empty, .initialized RX7, .code yX7_empty cX7_empty 2 (some .int), .fieldLink RX7 15 "PillowCourt$Reader" "length" "I"] ++ wsX110 ++ wsX70)
def wsX11_court_r1 : List Cond := [Cond.fieldLink RX11 12 "PillowCourt" "reader" "LPillowCourt$Reader;", Cond.fieldLink RX11 79 "PillowCourt" "spare" "LPillowCourt$Told;", Cond.fieldLink RX11 75 "PillowCourt" "told" "LPillowCourt$Told;", Cond.fieldLink RX11 19 "PillowCourt" "scene" "LPillowCourt$Scene;", Cond.fieldLink RX11 26 "PillowCourt" "shelf" "LPillowCourt$Shelf;", Cond.fieldLink RX11 104 "PillowCourt" "noted" "I", Cond.methodLink RX11 98 yX7_read, Cond.instanceMethod yX7_read, Cond.selects RX7 yX7_read yX7_read, Cond.initialized RX7, Cond.code yX7_read cX7_read 3 (some .int), Cond.fieldLink RX7 24 "PillowCourt$Reader" "place" "I", Cond.fieldLink RX7 30 "PillowCourt$Reader" "token" "I", Cond.fieldLink RX7 37 "PillowCourt$Reader" "start" "I", Cond.methodLink RX7 19 yX10_begin, Cond.instanceMethod yX10_begin, Cond.selects RX10 yX10_begin yX10_begin, Cond.initialized RX10, Cond.code yX10_begin cX10_begin 1 none, Cond.fieldLink RX10 18 "PillowCourt$Told" "clashing" "[I", Cond.fieldLink RX10 31 "PillowCourt$Told" "people" "I", Cond.fieldLink RX10 21 "PillowCourt$Told" "pillows" "I", Cond.methodLink RX10 25 yJ7_fill_53178, Cond.static yJ7_fill_53178]
def wsX11_court_r2 : List Cond := [Cond.initialized RJ7, Cond.code yJ7_fill_53178 cJ7_fill_53178 4 none, Cond.methodLink RX7 27 yX7_advance, Cond.instanceMethod yX7_advance, Cond.selects RX7 yX7_advance yX7_advance, Cond.code yX7_advance cX7_advance 1 none, Cond.fieldLink RX7 15 "PillowCourt$Reader" "length" "I", Cond.fieldLink RX7 9 "PillowCourt$Reader" "letters" "[I", Cond.methodLink RX7 74 yX7_isDigit, Cond.static yX7_isDigit, Cond.code yX7_isDigit cX7_isDigit 1 (some .boolean), Cond.methodLink RX7 78 yX7_scanNumber, Cond.instanceMethod yX7_scanNumber, Cond.selects RX7 yX7_scanNumber yX7_scanNumber, Cond.code yX7_scanNumber cX7_scanNumber 2 (some .int), Cond.fieldLink RX7 57 "PillowCourt$Reader" "number" "I", Cond.methodLink RX7 82 yX7_tokenOf, Cond.static yX7_tokenOf, Cond.code yX7_tokenOf cX7_tokenOf 1 (some .int), Cond.methodLink RX7 33 yX7_readItem, Cond.instanceMethod yX7_readItem, Cond.selects RX7 yX7_readItem yX7_readItem, Cond.code yX7_readItem cX7_readItem 3 (some .boolean), Cond.fieldLink RX7 44 "PillowCourt$Told" "people" "I"]
def wsX11_court_r3 : List Cond := [Cond.methodLink RX7 40 yX7_readPillows, Cond.instanceMethod yX7_readPillows, Cond.selects RX7 yX7_readPillows yX7_readPillows, Cond.code yX7_readPillows cX7_readPillows 2 (some .boolean), Cond.fieldLink RX7 60 "PillowCourt$Told" "pillows" "I", Cond.methodLink RX7 53 yX7_readNumber, Cond.instanceMethod yX7_readNumber, Cond.selects RX7 yX7_readNumber yX7_readNumber, Cond.code yX7_readNumber cX7_readNumber 3 (some .boolean), Cond.methodLink RX7 63 yX7_readItemEnd, Cond.instanceMethod yX7_readItemEnd, Cond.selects RX7 yX7_readItemEnd yX7_readItemEnd, Cond.code yX7_readItemEnd cX7_readItemEnd 1 (some .boolean), Cond.methodLink RX7 47 yX7_readPerson, Cond.instanceMethod yX7_readPerson, Cond.selects RX7 yX7_readPerson yX7_readPerson, Cond.code yX7_readPerson cX7_readPerson 3 (some .boolean), Cond.methodLink RX7 67 yX10_addPerson, Cond.instanceMethod yX10_addPerson, Cond.selects RX10 yX10_addPerson yX10_addPerson, Cond.code yX10_addPerson cX10_addPerson 3 none, Cond.fieldLink RX10 9 "PillowCourt$Told" "knows" "[I", Cond.fieldLink RX10 15 "PillowCourt$Told" "talks" "[I", Cond.methodLink RX7 50 yX7_readClash]
def wsX11_court_r4 : List Cond := [Cond.instanceMethod yX7_readClash, Cond.selects RX7 yX7_readClash yX7_readClash, Cond.code yX7_readClash cX7_readClash 3 (some .boolean), Cond.methodLink RX7 71 yX10_addClash, Cond.instanceMethod yX10_addClash, Cond.selects RX10 yX10_addClash yX10_addClash, Cond.code yX10_addClash cX10_addClash 3 none, Cond.methodLink RX11 94 yX7_empty, Cond.instanceMethod yX7_empty, Cond.selects RX7 yX7_empty yX7_empty, Cond.code yX7_empty cX7_empty 2 (some .int), Cond.methodLink RX11 82 yX8_begin, Cond.instanceMethod yX8_begin, Cond.selects RX8 yX8_begin yX8_begin, Cond.initialized RX8, Cond.code yX8_begin cX8_begin 3 none, Cond.fieldLink RX8 11 "PillowCourt$Scene" "cells" "[I", Cond.methodLink RX8 15 yJ7_fill_53178, Cond.methodLink RX8 21 yX10_hasPerson, Cond.instanceMethod yX10_hasPerson, Cond.selects RX10 yX10_hasPerson yX10_hasPerson, Cond.code yX10_hasPerson cX10_hasPerson 2 (some .boolean), Cond.methodLink RX8 27 yX10_hasPillow, Cond.instanceMethod yX10_hasPillow]
def wsX11_court_r5 : List Cond := [Cond.selects RX10 yX10_hasPillow yX10_hasPillow, Cond.code yX10_hasPillow cX10_hasPillow 2 (some .boolean), Cond.methodLink RX8 30 yX8_lay, Cond.instanceMethod yX8_lay, Cond.selects RX8 yX8_lay yX8_lay, Cond.code yX8_lay cX8_lay 3 none, Cond.methodLink RX11 102 yX9_empty, Cond.instanceMethod yX9_empty, Cond.selects RX9 yX9_empty yX9_empty, Cond.initialized RX9, Cond.code yX9_empty cX9_empty 2 none, Cond.fieldLink RX9 24 "PillowCourt$Shelf" "undoable" "I", Cond.fieldLink RX9 20 "PillowCourt$Shelf" "isKept" "[Z"]
def wsX11_court : List Cond := .code yX11_court cX11_court 3 (some .int) :: ((wsX11_court_r1 ++ (wsX11_court_r2 ++ (wsX11_court_r3 ++ (wsX11_court_r4 ++ wsX11_court_r5)))) ++ wsX110 ++ wsX70 ++ wsX100 ++ wsX80 ++ wsX90)
def wsX11_safePillows : List Cond := .code yX11_safePillows cX11_safePillows 5 (some .int) :: ([.fieldLink RX11 75 "PillowCourt" "told" "LPillowCourt$Told;", .fieldLink RX11 226 "PillowCourt$Told" "pillows" "I", .fieldLink RX11 19 "PillowCourt" "scene" "LPillowCourt$Scene;", .fieldLink RX11 110 "PillowCourt$Told" "knows" "[I", .methodLink RX11 135 yX8_sleepersOn, .instanceMethod yX8_sleepersOn, .selects RX8 yX8_sleepersOn yX8_sleepersOn, .initialized RX8, .code yX8_sleepersOn cX8_sleepersOn 4 (some .int), .methodLink RX8 53 yX8_bedOf, .instanceMethod yX8_bedOf, .selects RX8 yX8_bedOf yX8_bedOf, .code yX8_bedOf cX8_bedOf 2 (some .int), .fieldLink RX8 11 "PillowCourt$Scene" "cells" "[I", .methodLink RX11 207 yX10_knownTo, .instanceMethod yX10_knownTo, .selects RX10 yX10_knownTo yX10_knownTo, .initialized RX10, .code yX10_knownTo cX10_knownTo 4 (some .int), .fieldLink RX10 31 "PillowCourt$Told" "people" "I", .fieldLink RX10 9 "PillowCourt$Told" "knows" "[I"] ++ wsX110 ++ wsX100 ++ wsX80)
def wsX11_person_r1 : List Cond := [Cond.fieldLink RX11 75 "PillowCourt" "told" "LPillowCourt$Told;", Cond.fieldLink RX11 110 "PillowCourt$Told" "knows" "[I", Cond.fieldLink RX11 113 "PillowCourt$Told" "talks" "[I", Cond.fieldLink RX11 19 "PillowCourt" "scene" "LPillowCourt$Scene;", Cond.methodLink RX11 107 yX10_hasPerson, Cond.instanceMethod yX10_hasPerson, Cond.selects RX10 yX10_hasPerson yX10_hasPerson, Cond.initialized RX10, Cond.code yX10_hasPerson cX10_hasPerson 2 (some .boolean), Cond.fieldLink RX10 31 "PillowCourt$Told" "people" "I", Cond.methodLink RX11 116 yX8_bedOf, Cond.instanceMethod yX8_bedOf, Cond.selects RX8 yX8_bedOf yX8_bedOf, Cond.initialized RX8, Cond.code yX8_bedOf cX8_bedOf 2 (some .int), Cond.fieldLink RX8 11 "PillowCourt$Scene" "cells" "[I", Cond.methodLink RX11 120 yX11_safePillows, Cond.instanceMethod yX11_safePillows, Cond.selects RX11 yX11_safePillows yX11_safePillows, Cond.initialized RX11, Cond.code yX11_safePillows cX11_safePillows 5 (some .int), Cond.fieldLink RX11 226 "PillowCourt$Told" "pillows" "I", Cond.methodLink RX11 135 yX8_sleepersOn, Cond.instanceMethod yX8_sleepersOn]
def wsX11_person_r2 : List Cond := [Cond.selects RX8 yX8_sleepersOn yX8_sleepersOn, Cond.code yX8_sleepersOn cX8_sleepersOn 4 (some .int), Cond.methodLink RX8 53 yX8_bedOf, Cond.methodLink RX11 207 yX10_knownTo, Cond.instanceMethod yX10_knownTo, Cond.selects RX10 yX10_knownTo yX10_knownTo, Cond.code yX10_knownTo cX10_knownTo 4 (some .int), Cond.fieldLink RX10 9 "PillowCourt$Told" "knows" "[I"]
def wsX11_person : List Cond := .code yX11_person cX11_person 3 (some .int) :: ((wsX11_person_r1 ++ wsX11_person_r2) ++ wsX110 ++ wsX100 ++ wsX80)
def wsX11_isThing : List Cond := .code yX11_isThing cX11_isThing 1 (some .boolean) :: ([])
def wsX11_clashes : List Cond := .code yX11_clashes cX11_clashes 2 (some .int) :: ([.fieldLink RX11 75 "PillowCourt" "told" "LPillowCourt$Told;", .fieldLink RX11 126 "PillowCourt$Told" "clashing" "[I", .methodLink RX11 123 yX11_isThing, .static yX11_isThing, .initialized RX11, .code yX11_isThing cX11_isThing 1 (some .boolean)] ++ wsX110 ++ wsX100)
def wsX11_pillow_r1 : List Cond := [Cond.fieldLink RX11 75 "PillowCourt" "told" "LPillowCourt$Told;", Cond.fieldLink RX11 19 "PillowCourt" "scene" "LPillowCourt$Scene;", Cond.methodLink RX11 129 yX10_hasPillow, Cond.instanceMethod yX10_hasPillow, Cond.selects RX10 yX10_hasPillow yX10_hasPillow, Cond.initialized RX10, Cond.code yX10_hasPillow cX10_hasPillow 2 (some .boolean), Cond.fieldLink RX10 21 "PillowCourt$Told" "pillows" "I", Cond.methodLink RX11 132 yX8_thingsOn, Cond.instanceMethod yX8_thingsOn, Cond.selects RX8 yX8_thingsOn yX8_thingsOn, Cond.initialized RX8, Cond.code yX8_thingsOn cX8_thingsOn 4 (some .int), Cond.methodLink RX8 40 yX8_times, Cond.instanceMethod yX8_times, Cond.selects RX8 yX8_times yX8_times, Cond.code yX8_times cX8_times 3 (some .int), Cond.fieldLink RX8 11 "PillowCourt$Scene" "cells" "[I", Cond.methodLink RX11 135 yX8_sleepersOn, Cond.instanceMethod yX8_sleepersOn, Cond.selects RX8 yX8_sleepersOn yX8_sleepersOn, Cond.code yX8_sleepersOn cX8_sleepersOn 4 (some .int), Cond.methodLink RX8 53 yX8_bedOf, Cond.instanceMethod yX8_bedOf]
def wsX11_pillow_r2 : List Cond := [Cond.selects RX8 yX8_bedOf yX8_bedOf, Cond.code yX8_bedOf cX8_bedOf 2 (some .int), Cond.methodLink RX11 138 yX8_isExamined, Cond.instanceMethod yX8_isExamined, Cond.selects RX8 yX8_isExamined yX8_isExamined, Cond.code yX8_isExamined cX8_isExamined 2 (some .boolean)]
def wsX11_pillow : List Cond := .code yX11_pillow cX11_pillow 3 (some .int) :: ((wsX11_pillow_r1 ++ wsX11_pillow_r2) ++ wsX110 ++ wsX100 ++ wsX80)
def wsX11_heard : List Cond := .code yX11_heard cX11_heard 3 (some .int) :: ([.fieldLink RX11 75 "PillowCourt" "told" "LPillowCourt$Told;", .fieldLink RX11 19 "PillowCourt" "scene" "LPillowCourt$Scene;", .methodLink RX11 129 yX10_hasPillow, .instanceMethod yX10_hasPillow, .selects RX10 yX10_hasPillow yX10_hasPillow, .initialized RX10, .code yX10_hasPillow cX10_hasPillow 2 (some .boolean), .fieldLink RX10 21 "PillowCourt$Told" "pillows" "I", .methodLink RX11 123 yX11_isThing, .static yX11_isThing, .initialized RX11, .code yX11_isThing cX11_isThing 1 (some .boolean), .methodLink RX11 141 yX8_times, .instanceMethod yX8_times, .selects RX8 yX8_times yX8_times, .initialized RX8, .code yX8_times cX8_times 3 (some .int), .fieldLink RX8 11 "PillowCourt$Scene" "cells" "[I"] ++ wsX110 ++ wsX100 ++ wsX80)
def wsX11_now_r1 : List Cond := [Cond.fieldLink RX11 19 "PillowCourt" "scene" "LPillowCourt$Scene;", Cond.fieldLink RX11 75 "PillowCourt" "told" "LPillowCourt$Told;", Cond.fieldLink RX11 26 "PillowCourt" "shelf" "LPillowCourt$Shelf;", Cond.fieldLink RX11 160 "PillowCourt$Shelf" "undoable" "I", Cond.methodLink RX11 145 yX8_nightNumber, Cond.instanceMethod yX8_nightNumber, Cond.selects RX8 yX8_nightNumber yX8_nightNumber, Cond.initialized RX8, Cond.code yX8_nightNumber cX8_nightNumber 1 (some .int), Cond.fieldLink RX8 11 "PillowCourt$Scene" "cells" "[I", Cond.methodLink RX11 148 yX8_knownThings, Cond.instanceMethod yX8_knownThings, Cond.selects RX8 yX8_knownThings yX8_knownThings, Cond.code yX8_knownThings cX8_knownThings 1 (some .int), Cond.methodLink RX8 47 yX8_thingsOnSet, Cond.instanceMethod yX8_thingsOnSet, Cond.selects RX8 yX8_thingsOnSet yX8_thingsOnSet, Cond.code yX8_thingsOnSet cX8_thingsOnSet 4 (some .int), Cond.methodLink RX8 43 yX8_thingsOn, Cond.instanceMethod yX8_thingsOn, Cond.selects RX8 yX8_thingsOn yX8_thingsOn, Cond.code yX8_thingsOn cX8_thingsOn 4 (some .int), Cond.methodLink RX8 40 yX8_times, Cond.instanceMethod yX8_times]
def wsX11_now_r2 : List Cond := [Cond.selects RX8 yX8_times yX8_times, Cond.code yX8_times cX8_times 3 (some .int), Cond.methodLink RX11 151 yX8_allThings, Cond.instanceMethod yX8_allThings, Cond.selects RX8 yX8_allThings yX8_allThings, Cond.code yX8_allThings cX8_allThings 1 (some .int), Cond.methodLink RX11 154 yX10_clashesWithin, Cond.instanceMethod yX10_clashesWithin, Cond.selects RX10 yX10_clashesWithin yX10_clashesWithin, Cond.initialized RX10, Cond.code yX10_clashesWithin cX10_clashesWithin 4 (some .int), Cond.fieldLink RX10 18 "PillowCourt$Told" "clashing" "[I", Cond.methodLink RX10 34 yJ6_bitCount_0f7a4, Cond.static yJ6_bitCount_0f7a4, Cond.initialized RJ6, Cond.code yJ6_bitCount_0f7a4 cJ6_bitCount_0f7a4 1 (some .int), Cond.constant RJ6 265 (1431655765), Cond.constant RJ6 266 (858993459), Cond.constant RJ6 267 (252645135), Cond.methodLink RX11 157 yX10_knownToOne, Cond.instanceMethod yX10_knownToOne, Cond.selects RX10 yX10_knownToOne yX10_knownToOne, Cond.code yX10_knownToOne cX10_knownToOne 4 (some .int), Cond.fieldLink RX10 31 "PillowCourt$Told" "people" "I"]
def wsX11_now_r3 : List Cond := [Cond.fieldLink RX10 9 "PillowCourt$Told" "knows" "[I"]
def wsX11_now : List Cond := .code yX11_now cX11_now 2 (some .int) :: ((wsX11_now_r1 ++ (wsX11_now_r2 ++ wsX11_now_r3)) ++ wsX110 ++ wsX90 ++ wsX80 ++ wsX100)
def wsX11_lays_r1 : List Cond := [Cond.fieldLink RX11 75 "PillowCourt" "told" "LPillowCourt$Told;", Cond.fieldLink RX11 19 "PillowCourt" "scene" "LPillowCourt$Scene;", Cond.fieldLink RX11 26 "PillowCourt" "shelf" "LPillowCourt$Shelf;", Cond.methodLink RX11 107 yX10_hasPerson, Cond.instanceMethod yX10_hasPerson, Cond.selects RX10 yX10_hasPerson yX10_hasPerson, Cond.initialized RX10, Cond.code yX10_hasPerson cX10_hasPerson 2 (some .boolean), Cond.fieldLink RX10 31 "PillowCourt$Told" "people" "I", Cond.methodLink RX11 129 yX10_hasPillow, Cond.instanceMethod yX10_hasPillow, Cond.selects RX10 yX10_hasPillow yX10_hasPillow, Cond.code yX10_hasPillow cX10_hasPillow 2 (some .boolean), Cond.fieldLink RX10 21 "PillowCourt$Told" "pillows" "I", Cond.methodLink RX11 116 yX8_bedOf, Cond.instanceMethod yX8_bedOf, Cond.selects RX8 yX8_bedOf yX8_bedOf, Cond.initialized RX8, Cond.code yX8_bedOf cX8_bedOf 2 (some .int), Cond.fieldLink RX8 11 "PillowCourt$Scene" "cells" "[I", Cond.methodLink RX11 163 yX9_remember, Cond.instanceMethod yX9_remember, Cond.selects RX9 yX9_remember yX9_remember, Cond.initialized RX9]
def wsX11_lays_r2 : List Cond := [Cond.code yX9_remember cX9_remember 2 none, Cond.fieldLink RX9 28 "PillowCourt$Scene" "cells" "[I", Cond.fieldLink RX9 11 "PillowCourt$Shelf" "past" "[I", Cond.fieldLink RX9 31 "PillowCourt$Shelf" "top" "I", Cond.methodLink RX9 34 arraycopyName, Cond.native arraycopyName, Cond.static arraycopyName, Cond.initialized "java/lang/System", Cond.fieldLink RX9 24 "PillowCourt$Shelf" "undoable" "I", Cond.methodLink RX9 40 Lib.Math.min.name, Cond.static Lib.Math.min.name, Cond.initialized "java/lang/Math", Cond.code Lib.Math.min.name Lib.Math.min.code 2 (some .int), Cond.methodLink RX11 167 yX8_lay, Cond.instanceMethod yX8_lay, Cond.selects RX8 yX8_lay yX8_lay, Cond.code yX8_lay cX8_lay 3 none]
def wsX11_lays : List Cond := .code yX11_lays cX11_lays 4 (some .int) :: ((wsX11_lays_r1 ++ wsX11_lays_r2) ++ wsX110 ++ wsX100 ++ wsX80 ++ wsX90)
def wsX11_isDraw : List Cond := .code yX11_isDraw cX11_isDraw 1 (some .boolean) :: ([])
def wsX11_night_r1 : List Cond := [Cond.fieldLink RX11 19 "PillowCourt" "scene" "LPillowCourt$Scene;", Cond.fieldLink RX11 26 "PillowCourt" "shelf" "LPillowCourt$Shelf;", Cond.fieldLink RX11 75 "PillowCourt" "told" "LPillowCourt$Told;", Cond.methodLink RX11 171 yX11_isDraw, Cond.static yX11_isDraw, Cond.initialized RX11, Cond.code yX11_isDraw cX11_isDraw 1 (some .boolean), Cond.methodLink RX11 145 yX8_nightNumber, Cond.instanceMethod yX8_nightNumber, Cond.selects RX8 yX8_nightNumber yX8_nightNumber, Cond.initialized RX8, Cond.code yX8_nightNumber cX8_nightNumber 1 (some .int), Cond.fieldLink RX8 11 "PillowCourt$Scene" "cells" "[I", Cond.methodLink RX11 163 yX9_remember, Cond.instanceMethod yX9_remember, Cond.selects RX9 yX9_remember yX9_remember, Cond.initialized RX9, Cond.code yX9_remember cX9_remember 2 none, Cond.fieldLink RX9 28 "PillowCourt$Scene" "cells" "[I", Cond.fieldLink RX9 11 "PillowCourt$Shelf" "past" "[I", Cond.fieldLink RX9 31 "PillowCourt$Shelf" "top" "I", Cond.methodLink RX9 34 arraycopyName, Cond.native arraycopyName, Cond.static arraycopyName]
def wsX11_night_r2 : List Cond := [Cond.initialized "java/lang/System", Cond.fieldLink RX9 24 "PillowCourt$Shelf" "undoable" "I", Cond.methodLink RX9 40 Lib.Math.min.name, Cond.static Lib.Math.min.name, Cond.initialized "java/lang/Math", Cond.code Lib.Math.min.name Lib.Math.min.code 2 (some .int), Cond.methodLink RX11 174 yX8_sleep, Cond.instanceMethod yX8_sleep, Cond.selects RX8 yX8_sleep yX8_sleep, Cond.code yX8_sleep cX8_sleep 6 (some .int), Cond.fieldLink RX8 56 "PillowCourt$Told" "people" "I", Cond.methodLink RX8 60 yX8_nightNumber, Cond.methodLink RX8 64 yX10_thingSaid, Cond.instanceMethod yX10_thingSaid, Cond.selects RX10 yX10_thingSaid yX10_thingSaid, Cond.initialized RX10, Cond.code yX10_thingSaid cX10_thingSaid 8 (some .int), Cond.fieldLink RX10 9 "PillowCourt$Told" "knows" "[I", Cond.constantLong RX10 40 (7919), Cond.constantLong RX10 42 (6151), Cond.constantLong RX10 44 (4253), Cond.constantLong RX10 46 (65521), Cond.constantLong RX10 48 (8), Cond.fieldLink RX10 15 "PillowCourt$Told" "talks" "[I"]
def wsX11_night_r3 : List Cond := [Cond.methodLink RX10 34 yJ6_bitCount_0f7a4, Cond.static yJ6_bitCount_0f7a4, Cond.initialized RJ6, Cond.code yJ6_bitCount_0f7a4 cJ6_bitCount_0f7a4 1 (some .int), Cond.constant RJ6 265 (1431655765), Cond.constant RJ6 266 (858993459), Cond.constant RJ6 267 (252645135), Cond.methodLink RX10 50 yX10_thingAt, Cond.static yX10_thingAt, Cond.code yX10_thingAt cX10_thingAt 4 (some .int), Cond.methodLink RX8 53 yX8_bedOf, Cond.instanceMethod yX8_bedOf, Cond.selects RX8 yX8_bedOf yX8_bedOf, Cond.code yX8_bedOf cX8_bedOf 2 (some .int), Cond.methodLink RX8 68 yX8_hear, Cond.instanceMethod yX8_hear, Cond.selects RX8 yX8_hear yX8_hear, Cond.code yX8_hear cX8_hear 3 none, Cond.methodLink RX8 40 yX8_times, Cond.instanceMethod yX8_times, Cond.selects RX8 yX8_times yX8_times, Cond.code yX8_times cX8_times 3 (some .int), Cond.methodLink RX8 71 yX8_setTimes, Cond.instanceMethod yX8_setTimes]
def wsX11_night_r4 : List Cond := [Cond.selects RX8 yX8_setTimes yX8_setTimes, Cond.code yX8_setTimes cX8_setTimes 4 none, Cond.methodLink RX8 34 Lib.Math.min.name]
def wsX11_night : List Cond := .code yX11_night cX11_night 2 (some .int) :: ((wsX11_night_r1 ++ (wsX11_night_r2 ++ (wsX11_night_r3 ++ wsX11_night_r4))) ++ wsX110 ++ wsX80 ++ wsX90 ++ wsX100)
def wsX11_slips_r1 : List Cond := [Cond.fieldLink RX11 75 "PillowCourt" "told" "LPillowCourt$Told;", Cond.fieldLink RX11 19 "PillowCourt" "scene" "LPillowCourt$Scene;", Cond.fieldLink RX11 26 "PillowCourt" "shelf" "LPillowCourt$Shelf;", Cond.methodLink RX11 129 yX10_hasPillow, Cond.instanceMethod yX10_hasPillow, Cond.selects RX10 yX10_hasPillow yX10_hasPillow, Cond.initialized RX10, Cond.code yX10_hasPillow cX10_hasPillow 2 (some .boolean), Cond.fieldLink RX10 21 "PillowCourt$Told" "pillows" "I", Cond.methodLink RX11 132 yX8_thingsOn, Cond.instanceMethod yX8_thingsOn, Cond.selects RX8 yX8_thingsOn yX8_thingsOn, Cond.initialized RX8, Cond.code yX8_thingsOn cX8_thingsOn 4 (some .int), Cond.methodLink RX8 40 yX8_times, Cond.instanceMethod yX8_times, Cond.selects RX8 yX8_times yX8_times, Cond.code yX8_times cX8_times 3 (some .int), Cond.fieldLink RX8 11 "PillowCourt$Scene" "cells" "[I", Cond.methodLink RX11 163 yX9_remember, Cond.instanceMethod yX9_remember, Cond.selects RX9 yX9_remember yX9_remember, Cond.initialized RX9, Cond.code yX9_remember cX9_remember 2 none]
def wsX11_slips_r2 : List Cond := [Cond.fieldLink RX9 28 "PillowCourt$Scene" "cells" "[I", Cond.fieldLink RX9 11 "PillowCourt$Shelf" "past" "[I", Cond.fieldLink RX9 31 "PillowCourt$Shelf" "top" "I", Cond.methodLink RX9 34 arraycopyName, Cond.native arraycopyName, Cond.static arraycopyName, Cond.initialized "java/lang/System", Cond.fieldLink RX9 24 "PillowCourt$Shelf" "undoable" "I", Cond.methodLink RX9 40 Lib.Math.min.name, Cond.static Lib.Math.min.name, Cond.initialized "java/lang/Math", Cond.code Lib.Math.min.name Lib.Math.min.code 2 (some .int), Cond.methodLink RX11 178 yX8_slip, Cond.instanceMethod yX8_slip, Cond.selects RX8 yX8_slip yX8_slip, Cond.code yX8_slip cX8_slip 3 none, Cond.methodLink RX8 71 yX8_setTimes, Cond.instanceMethod yX8_setTimes, Cond.selects RX8 yX8_setTimes yX8_setTimes, Cond.code yX8_setTimes cX8_setTimes 4 none, Cond.methodLink RX8 34 Lib.Math.min.name, Cond.methodLink RX11 182 yJ6_bitCount_0f7a4, Cond.static yJ6_bitCount_0f7a4, Cond.initialized RJ6]
def wsX11_slips_r3 : List Cond := [Cond.code yJ6_bitCount_0f7a4 cJ6_bitCount_0f7a4 1 (some .int), Cond.constant RJ6 265 (1431655765), Cond.constant RJ6 266 (858993459), Cond.constant RJ6 267 (252645135)]
def wsX11_slips : List Cond := .code yX11_slips cX11_slips 3 (some .int) :: ((wsX11_slips_r1 ++ (wsX11_slips_r2 ++ wsX11_slips_r3)) ++ wsX110 ++ wsX100 ++ wsX80 ++ wsX90)
def wsX11_areTwoPillows : List Cond := .code yX11_areTwoPillows cX11_areTwoPillows 3 (some .boolean) :: ([.fieldLink RX11 75 "PillowCourt" "told" "LPillowCourt$Told;", .methodLink RX11 129 yX10_hasPillow, .instanceMethod yX10_hasPillow, .selects RX10 yX10_hasPillow yX10_hasPillow, .initialized RX10, .code yX10_hasPillow cX10_hasPillow 2 (some .boolean), .fieldLink RX10 21 "PillowCourt$Told" "pillows" "I"] ++ wsX110 ++ wsX100)
def wsX11_mixes_r1 : List Cond := [Cond.fieldLink RX11 26 "PillowCourt" "shelf" "LPillowCourt$Shelf;", Cond.fieldLink RX11 19 "PillowCourt" "scene" "LPillowCourt$Scene;", Cond.methodLink RX11 187 yX11_areTwoPillows, Cond.instanceMethod yX11_areTwoPillows, Cond.selects RX11 yX11_areTwoPillows yX11_areTwoPillows, Cond.initialized RX11, Cond.code yX11_areTwoPillows cX11_areTwoPillows 3 (some .boolean), Cond.fieldLink RX11 75 "PillowCourt" "told" "LPillowCourt$Told;", Cond.methodLink RX11 129 yX10_hasPillow, Cond.instanceMethod yX10_hasPillow, Cond.selects RX10 yX10_hasPillow yX10_hasPillow, Cond.initialized RX10, Cond.code yX10_hasPillow cX10_hasPillow 2 (some .boolean), Cond.fieldLink RX10 21 "PillowCourt$Told" "pillows" "I", Cond.methodLink RX11 163 yX9_remember, Cond.instanceMethod yX9_remember, Cond.selects RX9 yX9_remember yX9_remember, Cond.initialized RX9, Cond.code yX9_remember cX9_remember 2 none, Cond.fieldLink RX9 28 "PillowCourt$Scene" "cells" "[I", Cond.fieldLink RX9 11 "PillowCourt$Shelf" "past" "[I", Cond.fieldLink RX9 31 "PillowCourt$Shelf" "top" "I", Cond.methodLink RX9 34 arraycopyName, Cond.native arraycopyName]
def wsX11_mixes_r2 : List Cond := [Cond.static arraycopyName, Cond.initialized "java/lang/System", Cond.fieldLink RX9 24 "PillowCourt$Shelf" "undoable" "I", Cond.methodLink RX9 40 Lib.Math.min.name, Cond.static Lib.Math.min.name, Cond.initialized "java/lang/Math", Cond.code Lib.Math.min.name Lib.Math.min.code 2 (some .int), Cond.methodLink RX11 191 yX8_mix, Cond.instanceMethod yX8_mix, Cond.selects RX8 yX8_mix yX8_mix, Cond.initialized RX8, Cond.code yX8_mix cX8_mix 5 none, Cond.methodLink RX8 40 yX8_times, Cond.instanceMethod yX8_times, Cond.selects RX8 yX8_times yX8_times, Cond.code yX8_times cX8_times 3 (some .int), Cond.fieldLink RX8 11 "PillowCourt$Scene" "cells" "[I", Cond.methodLink RX8 71 yX8_setTimes, Cond.instanceMethod yX8_setTimes, Cond.selects RX8 yX8_setTimes yX8_setTimes, Cond.code yX8_setTimes cX8_setTimes 4 none, Cond.methodLink RX8 34 Lib.Math.min.name, Cond.methodLink RX11 132 yX8_thingsOn, Cond.instanceMethod yX8_thingsOn]
def wsX11_mixes_r3 : List Cond := [Cond.selects RX8 yX8_thingsOn yX8_thingsOn, Cond.code yX8_thingsOn cX8_thingsOn 4 (some .int), Cond.methodLink RX11 182 yJ6_bitCount_0f7a4, Cond.static yJ6_bitCount_0f7a4, Cond.initialized RJ6, Cond.code yJ6_bitCount_0f7a4 cJ6_bitCount_0f7a4 1 (some .int), Cond.constant RJ6 265 (1431655765), Cond.constant RJ6 266 (858993459), Cond.constant RJ6 267 (252645135)]
def wsX11_mixes : List Cond := .code yX11_mixes cX11_mixes 3 (some .int) :: ((wsX11_mixes_r1 ++ (wsX11_mixes_r2 ++ wsX11_mixes_r3)) ++ wsX110 ++ wsX100 ++ wsX80 ++ wsX90)
def wsX11_examines_r1 : List Cond := [Cond.fieldLink RX11 75 "PillowCourt" "told" "LPillowCourt$Told;", Cond.fieldLink RX11 19 "PillowCourt" "scene" "LPillowCourt$Scene;", Cond.fieldLink RX11 26 "PillowCourt" "shelf" "LPillowCourt$Shelf;", Cond.methodLink RX11 129 yX10_hasPillow, Cond.instanceMethod yX10_hasPillow, Cond.selects RX10 yX10_hasPillow yX10_hasPillow, Cond.initialized RX10, Cond.code yX10_hasPillow cX10_hasPillow 2 (some .boolean), Cond.fieldLink RX10 21 "PillowCourt$Told" "pillows" "I", Cond.methodLink RX11 138 yX8_isExamined, Cond.instanceMethod yX8_isExamined, Cond.selects RX8 yX8_isExamined yX8_isExamined, Cond.initialized RX8, Cond.code yX8_isExamined cX8_isExamined 2 (some .boolean), Cond.fieldLink RX8 11 "PillowCourt$Scene" "cells" "[I", Cond.methodLink RX11 148 yX8_knownThings, Cond.instanceMethod yX8_knownThings, Cond.selects RX8 yX8_knownThings yX8_knownThings, Cond.code yX8_knownThings cX8_knownThings 1 (some .int), Cond.methodLink RX8 47 yX8_thingsOnSet, Cond.instanceMethod yX8_thingsOnSet, Cond.selects RX8 yX8_thingsOnSet yX8_thingsOnSet, Cond.code yX8_thingsOnSet cX8_thingsOnSet 4 (some .int), Cond.methodLink RX8 43 yX8_thingsOn]
def wsX11_examines_r2 : List Cond := [Cond.instanceMethod yX8_thingsOn, Cond.selects RX8 yX8_thingsOn yX8_thingsOn, Cond.code yX8_thingsOn cX8_thingsOn 4 (some .int), Cond.methodLink RX8 40 yX8_times, Cond.instanceMethod yX8_times, Cond.selects RX8 yX8_times yX8_times, Cond.code yX8_times cX8_times 3 (some .int), Cond.methodLink RX11 163 yX9_remember, Cond.instanceMethod yX9_remember, Cond.selects RX9 yX9_remember yX9_remember, Cond.initialized RX9, Cond.code yX9_remember cX9_remember 2 none, Cond.fieldLink RX9 28 "PillowCourt$Scene" "cells" "[I", Cond.fieldLink RX9 11 "PillowCourt$Shelf" "past" "[I", Cond.fieldLink RX9 31 "PillowCourt$Shelf" "top" "I", Cond.methodLink RX9 34 arraycopyName, Cond.native arraycopyName, Cond.static arraycopyName, Cond.initialized "java/lang/System", Cond.fieldLink RX9 24 "PillowCourt$Shelf" "undoable" "I", Cond.methodLink RX9 40 Lib.Math.min.name, Cond.static Lib.Math.min.name, Cond.initialized "java/lang/Math", Cond.code Lib.Math.min.name Lib.Math.min.code 2 (some .int)]
def wsX11_examines_r3 : List Cond := [Cond.methodLink RX11 194 yX8_examine, Cond.instanceMethod yX8_examine, Cond.selects RX8 yX8_examine yX8_examine, Cond.code yX8_examine cX8_examine 2 none, Cond.methodLink RX11 182 yJ6_bitCount_0f7a4, Cond.static yJ6_bitCount_0f7a4, Cond.initialized RJ6, Cond.code yJ6_bitCount_0f7a4 cJ6_bitCount_0f7a4 1 (some .int), Cond.constant RJ6 265 (1431655765), Cond.constant RJ6 266 (858993459), Cond.constant RJ6 267 (252645135)]
def wsX11_examines : List Cond := .code yX11_examines cX11_examines 3 (some .int) :: ((wsX11_examines_r1 ++ (wsX11_examines_r2 ++ wsX11_examines_r3)) ++ wsX110 ++ wsX100 ++ wsX80 ++ wsX90)
def wsX11_undo : List Cond := .code yX11_undo cX11_undo 1 (some .int) :: ([.fieldLink RX11 26 "PillowCourt" "shelf" "LPillowCourt$Shelf;", .fieldLink RX11 19 "PillowCourt" "scene" "LPillowCourt$Scene;", .fieldLink RX11 160 "PillowCourt$Shelf" "undoable" "I", .methodLink RX11 197 yX9_restoreLatest, .instanceMethod yX9_restoreLatest, .selects RX9 yX9_restoreLatest yX9_restoreLatest, .initialized RX9, .code yX9_restoreLatest cX9_restoreLatest 2 (some .boolean), .fieldLink RX9 24 "PillowCourt$Shelf" "undoable" "I", .fieldLink RX9 31 "PillowCourt$Shelf" "top" "I", .fieldLink RX9 11 "PillowCourt$Shelf" "past" "[I", .fieldLink RX9 28 "PillowCourt$Scene" "cells" "[I", .methodLink RX9 34 arraycopyName, .native arraycopyName, .static arraycopyName, .initialized "java/lang/System"] ++ wsX110 ++ wsX90 ++ wsX80)
def wsX11_isZeroOrOne : List Cond := .code yX11_isZeroOrOne cX11_isZeroOrOne 1 (some .boolean) :: ([])
def wsX11_fewerOf : List Cond := .code yX11_fewerOf cX11_fewerOf 2 (some .int) :: ([.methodLink RX11 182 yJ6_bitCount_0f7a4, .static yJ6_bitCount_0f7a4, .initialized RJ6, .code yJ6_bitCount_0f7a4 cJ6_bitCount_0f7a4 1 (some .int), .constant RJ6 265 (1431655765), .constant RJ6 266 (858993459), .constant RJ6 267 (252645135)])
def wsX11_whose_r1 : List Cond := [Cond.fieldLink RX11 75 "PillowCourt" "told" "LPillowCourt$Told;", Cond.fieldLink RX11 19 "PillowCourt" "scene" "LPillowCourt$Scene;", Cond.fieldLink RX11 204 "PillowCourt$Told" "people" "I", Cond.methodLink RX11 129 yX10_hasPillow, Cond.instanceMethod yX10_hasPillow, Cond.selects RX10 yX10_hasPillow yX10_hasPillow, Cond.initialized RX10, Cond.code yX10_hasPillow cX10_hasPillow 2 (some .boolean), Cond.fieldLink RX10 21 "PillowCourt$Told" "pillows" "I", Cond.methodLink RX11 201 yX11_isZeroOrOne, Cond.static yX11_isZeroOrOne, Cond.initialized RX11, Cond.code yX11_isZeroOrOne cX11_isZeroOrOne 1 (some .boolean), Cond.methodLink RX11 132 yX8_thingsOn, Cond.instanceMethod yX8_thingsOn, Cond.selects RX8 yX8_thingsOn yX8_thingsOn, Cond.initialized RX8, Cond.code yX8_thingsOn cX8_thingsOn 4 (some .int), Cond.methodLink RX8 40 yX8_times, Cond.instanceMethod yX8_times, Cond.selects RX8 yX8_times yX8_times, Cond.code yX8_times cX8_times 3 (some .int), Cond.fieldLink RX8 11 "PillowCourt$Scene" "cells" "[I", Cond.methodLink RX11 207 yX10_knownTo]
def wsX11_whose_r2 : List Cond := [Cond.instanceMethod yX10_knownTo, Cond.selects RX10 yX10_knownTo yX10_knownTo, Cond.code yX10_knownTo cX10_knownTo 4 (some .int), Cond.fieldLink RX10 31 "PillowCourt$Told" "people" "I", Cond.fieldLink RX10 9 "PillowCourt$Told" "knows" "[I", Cond.methodLink RX11 210 yX11_fewerOf, Cond.static yX11_fewerOf, Cond.code yX11_fewerOf cX11_fewerOf 2 (some .int), Cond.methodLink RX11 182 yJ6_bitCount_0f7a4, Cond.static yJ6_bitCount_0f7a4, Cond.initialized RJ6, Cond.code yJ6_bitCount_0f7a4 cJ6_bitCount_0f7a4 1 (some .int), Cond.constant RJ6 265 (1431655765), Cond.constant RJ6 266 (858993459), Cond.constant RJ6 267 (252645135)]
def wsX11_whose : List Cond := .code yX11_whose cX11_whose 7 (some .int) :: ((wsX11_whose_r1 ++ wsX11_whose_r2) ++ wsX110 ++ wsX100 ++ wsX80)
def wsX11_so_r1 : List Cond := [Cond.fieldLink RX11 75 "PillowCourt" "told" "LPillowCourt$Told;", Cond.fieldLink RX11 19 "PillowCourt" "scene" "LPillowCourt$Scene;", Cond.methodLink RX11 201 yX11_isZeroOrOne, Cond.static yX11_isZeroOrOne, Cond.initialized RX11, Cond.code yX11_isZeroOrOne cX11_isZeroOrOne 1 (some .boolean), Cond.methodLink RX11 154 yX10_clashesWithin, Cond.instanceMethod yX10_clashesWithin, Cond.selects RX10 yX10_clashesWithin yX10_clashesWithin, Cond.initialized RX10, Cond.code yX10_clashesWithin cX10_clashesWithin 4 (some .int), Cond.fieldLink RX10 18 "PillowCourt$Told" "clashing" "[I", Cond.methodLink RX10 34 yJ6_bitCount_0f7a4, Cond.static yJ6_bitCount_0f7a4, Cond.initialized RJ6, Cond.code yJ6_bitCount_0f7a4 cJ6_bitCount_0f7a4 1 (some .int), Cond.constant RJ6 265 (1431655765), Cond.constant RJ6 266 (858993459), Cond.constant RJ6 267 (252645135), Cond.methodLink RX11 213 yX8_timesOfSet, Cond.instanceMethod yX8_timesOfSet, Cond.selects RX8 yX8_timesOfSet yX8_timesOfSet, Cond.initialized RX8, Cond.code yX8_timesOfSet cX8_timesOfSet 4 (some .int)]
def wsX11_so_r2 : List Cond := [Cond.methodLink RX8 50 yX8_timesOn, Cond.instanceMethod yX8_timesOn, Cond.selects RX8 yX8_timesOn yX8_timesOn, Cond.code yX8_timesOn cX8_timesOn 5 (some .int), Cond.methodLink RX8 40 yX8_times, Cond.instanceMethod yX8_times, Cond.selects RX8 yX8_times yX8_times, Cond.code yX8_times cX8_times 3 (some .int), Cond.fieldLink RX8 11 "PillowCourt$Scene" "cells" "[I"]
def wsX11_so : List Cond := .code yX11_so cX11_so 6 (some .int) :: ((wsX11_so_r1 ++ wsX11_so_r2) ++ wsX110 ++ wsX100 ++ wsX80)
def wsX11_tally_r1 : List Cond := [Cond.fieldLink RX11 19 "PillowCourt" "scene" "LPillowCourt$Scene;", Cond.methodLink RX11 187 yX11_areTwoPillows, Cond.instanceMethod yX11_areTwoPillows, Cond.selects RX11 yX11_areTwoPillows yX11_areTwoPillows, Cond.initialized RX11, Cond.code yX11_areTwoPillows cX11_areTwoPillows 3 (some .boolean), Cond.fieldLink RX11 75 "PillowCourt" "told" "LPillowCourt$Told;", Cond.methodLink RX11 129 yX10_hasPillow, Cond.instanceMethod yX10_hasPillow, Cond.selects RX10 yX10_hasPillow yX10_hasPillow, Cond.initialized RX10, Cond.code yX10_hasPillow cX10_hasPillow 2 (some .boolean), Cond.fieldLink RX10 21 "PillowCourt$Told" "pillows" "I", Cond.methodLink RX11 132 yX8_thingsOn, Cond.instanceMethod yX8_thingsOn, Cond.selects RX8 yX8_thingsOn yX8_thingsOn, Cond.initialized RX8, Cond.code yX8_thingsOn cX8_thingsOn 4 (some .int), Cond.methodLink RX8 40 yX8_times, Cond.instanceMethod yX8_times, Cond.selects RX8 yX8_times yX8_times, Cond.code yX8_times cX8_times 3 (some .int), Cond.fieldLink RX8 11 "PillowCourt$Scene" "cells" "[I", Cond.methodLink RX11 182 yJ6_bitCount_0f7a4]
def wsX11_tally_r2 : List Cond := [Cond.static yJ6_bitCount_0f7a4, Cond.initialized RJ6, Cond.code yJ6_bitCount_0f7a4 cJ6_bitCount_0f7a4 1 (some .int), Cond.constant RJ6 265 (1431655765), Cond.constant RJ6 266 (858993459), Cond.constant RJ6 267 (252645135)]
def wsX11_tally : List Cond := .code yX11_tally cX11_tally 3 (some .int) :: ((wsX11_tally_r1 ++ wsX11_tally_r2) ++ wsX110 ++ wsX100 ++ wsX80)
def wsX11_fit_r1 : List Cond := [Cond.fieldLink RX11 75 "PillowCourt" "told" "LPillowCourt$Told;", Cond.fieldLink RX11 33 "PillowCourt" "fitting" "LPillowCourt$Fitting;", Cond.fieldLink RX11 19 "PillowCourt" "scene" "LPillowCourt$Scene;", Cond.methodLink RX11 107 yX10_hasPerson, Cond.instanceMethod yX10_hasPerson, Cond.selects RX10 yX10_hasPerson yX10_hasPerson, Cond.initialized RX10, Cond.code yX10_hasPerson cX10_hasPerson 2 (some .boolean), Cond.fieldLink RX10 31 "PillowCourt$Told" "people" "I", Cond.methodLink RX11 216 yX0_weigh, Cond.instanceMethod yX0_weigh, Cond.selects RX0 yX0_weigh yX0_weigh, Cond.initialized RX0, Cond.code yX0_weigh cX0_weigh 5 none, Cond.fieldLink RX0 15 "PillowCourt$Fitting" "most" "[I", Cond.fieldLink RX0 24 "PillowCourt$Told" "people" "I", Cond.fieldLink RX0 9 "PillowCourt$Fitting" "gains" "[I", Cond.fieldLink RX0 30 "PillowCourt$Told" "knows" "[I", Cond.methodLink RX0 18 yJ7_fill_53178, Cond.static yJ7_fill_53178, Cond.initialized RJ7, Cond.code yJ7_fill_53178 cJ7_fill_53178 4 none, Cond.methodLink RX0 33 yX8_timesOn, Cond.instanceMethod yX8_timesOn]
def wsX11_fit_r2 : List Cond := [Cond.selects RX8 yX8_timesOn yX8_timesOn, Cond.initialized RX8, Cond.code yX8_timesOn cX8_timesOn 5 (some .int), Cond.methodLink RX8 40 yX8_times, Cond.instanceMethod yX8_times, Cond.selects RX8 yX8_times yX8_times, Cond.code yX8_times cX8_times 3 (some .int), Cond.fieldLink RX8 11 "PillowCourt$Scene" "cells" "[I", Cond.methodLink RX0 39 yX0_bestOf, Cond.instanceMethod yX0_bestOf, Cond.selects RX0 yX0_bestOf yX0_bestOf, Cond.code yX0_bestOf cX0_bestOf 6 (some .int), Cond.fieldLink RX0 47 "PillowCourt$Told" "pillows" "I", Cond.methodLink RX0 50 Lib.Math.max.name, Cond.static Lib.Math.max.name, Cond.initialized "java/lang/Math", Cond.code Lib.Math.max.name Lib.Math.max.code 2 (some .int), Cond.methodLink RX0 43 yX0_mostWith, Cond.instanceMethod yX0_mostWith, Cond.selects RX0 yX0_mostWith yX0_mostWith, Cond.code yX0_mostWith cX0_mostWith 5 (some .int), Cond.methodLink RX11 220 yX0_explained, Cond.instanceMethod yX0_explained, Cond.selects RX0 yX0_explained yX0_explained]
def wsX11_fit_r3 : List Cond := [Cond.code yX0_explained cX0_explained 1 (some .int), Cond.methodLink RX11 223 yX0_pillowOf, Cond.instanceMethod yX0_pillowOf, Cond.selects RX0 yX0_pillowOf yX0_pillowOf, Cond.code yX0_pillowOf cX0_pillowOf 6 (some .int), Cond.methodLink RX0 55 yX0_firstBest, Cond.instanceMethod yX0_firstBest, Cond.selects RX0 yX0_firstBest yX0_firstBest, Cond.code yX0_firstBest cX0_firstBest 6 (some .int)]
def wsX11_fit : List Cond := .code yX11_fit cX11_fit 2 (some .int) :: ((wsX11_fit_r1 ++ (wsX11_fit_r2 ++ wsX11_fit_r3)) ++ wsX110 ++ wsX100 ++ wsX00 ++ wsX80)
def wsX11_looks_r1 : List Cond := [Cond.fieldLink RX11 19 "PillowCourt" "scene" "LPillowCourt$Scene;", Cond.fieldLink RX11 75 "PillowCourt" "told" "LPillowCourt$Told;", Cond.fieldLink RX11 226 "PillowCourt$Told" "pillows" "I", Cond.methodLink RX11 151 yX8_allThings, Cond.instanceMethod yX8_allThings, Cond.selects RX8 yX8_allThings yX8_allThings, Cond.initialized RX8, Cond.code yX8_allThings cX8_allThings 1 (some .int), Cond.methodLink RX8 47 yX8_thingsOnSet, Cond.instanceMethod yX8_thingsOnSet, Cond.selects RX8 yX8_thingsOnSet yX8_thingsOnSet, Cond.code yX8_thingsOnSet cX8_thingsOnSet 4 (some .int), Cond.methodLink RX8 43 yX8_thingsOn, Cond.instanceMethod yX8_thingsOn, Cond.selects RX8 yX8_thingsOn yX8_thingsOn, Cond.code yX8_thingsOn cX8_thingsOn 4 (some .int), Cond.methodLink RX8 40 yX8_times, Cond.instanceMethod yX8_times, Cond.selects RX8 yX8_times yX8_times, Cond.code yX8_times cX8_times 3 (some .int), Cond.fieldLink RX8 11 "PillowCourt$Scene" "cells" "[I", Cond.methodLink RX11 148 yX8_knownThings, Cond.instanceMethod yX8_knownThings, Cond.selects RX8 yX8_knownThings yX8_knownThings]
def wsX11_looks_r2 : List Cond := [Cond.code yX8_knownThings cX8_knownThings 1 (some .int), Cond.methodLink RX11 229 yX8_thingsOnSet, Cond.methodLink RX11 210 yX11_fewerOf, Cond.static yX11_fewerOf, Cond.initialized RX11, Cond.code yX11_fewerOf cX11_fewerOf 2 (some .int), Cond.methodLink RX11 182 yJ6_bitCount_0f7a4, Cond.static yJ6_bitCount_0f7a4, Cond.initialized RJ6, Cond.code yJ6_bitCount_0f7a4 cJ6_bitCount_0f7a4 1 (some .int), Cond.constant RJ6 265 (1431655765), Cond.constant RJ6 266 (858993459), Cond.constant RJ6 267 (252645135)]
def wsX11_looks : List Cond := .code yX11_looks cX11_looks 4 (some .int) :: ((wsX11_looks_r1 ++ wsX11_looks_r2) ++ wsX110 ++ wsX100 ++ wsX80)
def wsX11_next_r1 : List Cond := [Cond.fieldLink RX11 19 "PillowCourt" "scene" "LPillowCourt$Scene;", Cond.fieldLink RX11 75 "PillowCourt" "told" "LPillowCourt$Told;", Cond.fieldLink RX11 226 "PillowCourt$Told" "pillows" "I", Cond.methodLink RX11 148 yX8_knownThings, Cond.instanceMethod yX8_knownThings, Cond.selects RX8 yX8_knownThings yX8_knownThings, Cond.initialized RX8, Cond.code yX8_knownThings cX8_knownThings 1 (some .int), Cond.fieldLink RX8 11 "PillowCourt$Scene" "cells" "[I", Cond.methodLink RX8 47 yX8_thingsOnSet, Cond.instanceMethod yX8_thingsOnSet, Cond.selects RX8 yX8_thingsOnSet yX8_thingsOnSet, Cond.code yX8_thingsOnSet cX8_thingsOnSet 4 (some .int), Cond.methodLink RX8 43 yX8_thingsOn, Cond.instanceMethod yX8_thingsOn, Cond.selects RX8 yX8_thingsOn yX8_thingsOn, Cond.code yX8_thingsOn cX8_thingsOn 4 (some .int), Cond.methodLink RX8 40 yX8_times, Cond.instanceMethod yX8_times, Cond.selects RX8 yX8_times yX8_times, Cond.code yX8_times cX8_times 3 (some .int), Cond.methodLink RX11 132 yX8_thingsOn, Cond.methodLink RX11 182 yJ6_bitCount_0f7a4, Cond.static yJ6_bitCount_0f7a4]
def wsX11_next_r2 : List Cond := [Cond.initialized RJ6, Cond.code yJ6_bitCount_0f7a4 cJ6_bitCount_0f7a4 1 (some .int), Cond.constant RJ6 265 (1431655765), Cond.constant RJ6 266 (858993459), Cond.constant RJ6 267 (252645135), Cond.methodLink RX11 138 yX8_isExamined, Cond.instanceMethod yX8_isExamined, Cond.selects RX8 yX8_isExamined yX8_isExamined, Cond.code yX8_isExamined cX8_isExamined 2 (some .boolean)]
def wsX11_next : List Cond := .code yX11_next cX11_next 6 (some .int) :: ((wsX11_next_r1 ++ wsX11_next_r2) ++ wsX110 ++ wsX100 ++ wsX80)
def wsX11_listen_r1 : List Cond := [Cond.fieldLink RX11 69 "PillowCourt" "ears" "[I", Cond.fieldLink RX11 75 "PillowCourt" "told" "LPillowCourt$Told;", Cond.fieldLink RX11 204 "PillowCourt$Told" "people" "I", Cond.fieldLink RX11 19 "PillowCourt" "scene" "LPillowCourt$Scene;", Cond.methodLink RX11 268 yJ7_fill_53178, Cond.static yJ7_fill_53178, Cond.initialized RJ7, Cond.code yJ7_fill_53178 cJ7_fill_53178 4 none, Cond.methodLink RX11 116 yX8_bedOf, Cond.instanceMethod yX8_bedOf, Cond.selects RX8 yX8_bedOf yX8_bedOf, Cond.initialized RX8, Cond.code yX8_bedOf cX8_bedOf 2 (some .int), Cond.fieldLink RX8 11 "PillowCourt$Scene" "cells" "[I", Cond.methodLink RX11 274 yX10_thingSaid, Cond.instanceMethod yX10_thingSaid, Cond.selects RX10 yX10_thingSaid yX10_thingSaid, Cond.initialized RX10, Cond.code yX10_thingSaid cX10_thingSaid 8 (some .int), Cond.fieldLink RX10 9 "PillowCourt$Told" "knows" "[I", Cond.constantLong RX10 40 (7919), Cond.constantLong RX10 42 (6151), Cond.constantLong RX10 44 (4253), Cond.constantLong RX10 46 (65521)]
def wsX11_listen_r2 : List Cond := [Cond.constantLong RX10 48 (8), Cond.fieldLink RX10 15 "PillowCourt$Told" "talks" "[I", Cond.methodLink RX10 34 yJ6_bitCount_0f7a4, Cond.static yJ6_bitCount_0f7a4, Cond.initialized RJ6, Cond.code yJ6_bitCount_0f7a4 cJ6_bitCount_0f7a4 1 (some .int), Cond.constant RJ6 265 (1431655765), Cond.constant RJ6 266 (858993459), Cond.constant RJ6 267 (252645135), Cond.methodLink RX10 50 yX10_thingAt, Cond.static yX10_thingAt, Cond.code yX10_thingAt cX10_thingAt 4 (some .int)]
def wsX11_listen : List Cond := .code yX11_listen cX11_listen 6 none :: ((wsX11_listen_r1 ++ wsX11_listen_r2) ++ wsX110 ++ wsX100 ++ wsX80)
def wsX11_inNights_r1 : List Cond := [Cond.fieldLink RX11 75 "PillowCourt" "told" "LPillowCourt$Told;", Cond.fieldLink RX11 19 "PillowCourt" "scene" "LPillowCourt$Scene;", Cond.fieldLink RX11 69 "PillowCourt" "ears" "[I", Cond.methodLink RX11 171 yX11_isDraw, Cond.static yX11_isDraw, Cond.initialized RX11, Cond.code yX11_isDraw cX11_isDraw 1 (some .boolean), Cond.methodLink RX11 129 yX10_hasPillow, Cond.instanceMethod yX10_hasPillow, Cond.selects RX10 yX10_hasPillow yX10_hasPillow, Cond.initialized RX10, Cond.code yX10_hasPillow cX10_hasPillow 2 (some .boolean), Cond.fieldLink RX10 21 "PillowCourt$Told" "pillows" "I", Cond.methodLink RX11 132 yX8_thingsOn, Cond.instanceMethod yX8_thingsOn, Cond.selects RX8 yX8_thingsOn yX8_thingsOn, Cond.initialized RX8, Cond.code yX8_thingsOn cX8_thingsOn 4 (some .int), Cond.methodLink RX8 40 yX8_times, Cond.instanceMethod yX8_times, Cond.selects RX8 yX8_times yX8_times, Cond.code yX8_times cX8_times 3 (some .int), Cond.fieldLink RX8 11 "PillowCourt$Scene" "cells" "[I", Cond.methodLink RX11 145 yX8_nightNumber]
def wsX11_inNights_r2 : List Cond := [Cond.instanceMethod yX8_nightNumber, Cond.selects RX8 yX8_nightNumber yX8_nightNumber, Cond.code yX8_nightNumber cX8_nightNumber 1 (some .int), Cond.methodLink RX11 232 yX11_listen, Cond.instanceMethod yX11_listen, Cond.selects RX11 yX11_listen yX11_listen, Cond.code yX11_listen cX11_listen 6 none, Cond.fieldLink RX11 204 "PillowCourt$Told" "people" "I", Cond.methodLink RX11 268 yJ7_fill_53178, Cond.static yJ7_fill_53178, Cond.initialized RJ7, Cond.code yJ7_fill_53178 cJ7_fill_53178 4 none, Cond.methodLink RX11 116 yX8_bedOf, Cond.instanceMethod yX8_bedOf, Cond.selects RX8 yX8_bedOf yX8_bedOf, Cond.code yX8_bedOf cX8_bedOf 2 (some .int), Cond.methodLink RX11 274 yX10_thingSaid, Cond.instanceMethod yX10_thingSaid, Cond.selects RX10 yX10_thingSaid yX10_thingSaid, Cond.code yX10_thingSaid cX10_thingSaid 8 (some .int), Cond.fieldLink RX10 9 "PillowCourt$Told" "knows" "[I", Cond.constantLong RX10 40 (7919), Cond.constantLong RX10 42 (6151), Cond.constantLong RX10 44 (4253)]
def wsX11_inNights_r3 : List Cond := [Cond.constantLong RX10 46 (65521), Cond.constantLong RX10 48 (8), Cond.fieldLink RX10 15 "PillowCourt$Told" "talks" "[I", Cond.methodLink RX10 34 yJ6_bitCount_0f7a4, Cond.static yJ6_bitCount_0f7a4, Cond.initialized RJ6, Cond.code yJ6_bitCount_0f7a4 cJ6_bitCount_0f7a4 1 (some .int), Cond.constant RJ6 265 (1431655765), Cond.constant RJ6 266 (858993459), Cond.constant RJ6 267 (252645135), Cond.methodLink RX10 50 yX10_thingAt, Cond.static yX10_thingAt, Cond.code yX10_thingAt cX10_thingAt 4 (some .int)]
def wsX11_inNights : List Cond := .code yX11_inNights cX11_inNights 6 (some .int) :: ((wsX11_inNights_r1 ++ (wsX11_inNights_r2 ++ wsX11_inNights_r3)) ++ wsX110 ++ wsX100 ++ wsX80)
def wsX11_notes : List Cond := .code yX11_notes cX11_notes 4 (some .int) :: ([.fieldLink RX11 75 "PillowCourt" "told" "LPillowCourt$Told;", .fieldLink RX11 104 "PillowCourt" "noted" "I", .fieldLink RX11 59 "PillowCourt" "notedPillow" "[I", .fieldLink RX11 63 "PillowCourt" "notedThing" "[I", .fieldLink RX11 66 "PillowCourt" "notedIs" "[I", .methodLink RX11 129 yX10_hasPillow, .instanceMethod yX10_hasPillow, .selects RX10 yX10_hasPillow yX10_hasPillow, .initialized RX10, .code yX10_hasPillow cX10_hasPillow 2 (some .boolean), .fieldLink RX10 21 "PillowCourt$Told" "pillows" "I", .methodLink RX11 123 yX11_isThing, .static yX11_isThing, .initialized RX11, .code yX11_isThing cX11_isThing 1 (some .boolean), .methodLink RX11 201 yX11_isZeroOrOne, .static yX11_isZeroOrOne, .code yX11_isZeroOrOne cX11_isZeroOrOne 1 (some .boolean)] ++ wsX110 ++ wsX100)
def wsX11_forget : List Cond := .code yX11_forget cX11_forget 2 (some .int) :: ([.fieldLink RX11 104 "PillowCourt" "noted" "I"] ++ wsX110)
def wsX11_agreesWithNotes : List Cond := .code yX11_agreesWithNotes cX11_agreesWithNotes 3 (some .boolean) :: ([.fieldLink RX11 104 "PillowCourt" "noted" "I", .fieldLink RX11 59 "PillowCourt" "notedPillow" "[I", .fieldLink RX11 69 "PillowCourt" "ears" "[I", .fieldLink RX11 63 "PillowCourt" "notedThing" "[I", .fieldLink RX11 66 "PillowCourt" "notedIs" "[I"] ++ wsX110)
def wsX11_which_r1 : List Cond := [Cond.fieldLink RX11 19 "PillowCourt" "scene" "LPillowCourt$Scene;", Cond.methodLink RX11 201 yX11_isZeroOrOne, Cond.static yX11_isZeroOrOne, Cond.initialized RX11, Cond.code yX11_isZeroOrOne cX11_isZeroOrOne 1 (some .boolean), Cond.methodLink RX11 145 yX8_nightNumber, Cond.instanceMethod yX8_nightNumber, Cond.selects RX8 yX8_nightNumber yX8_nightNumber, Cond.initialized RX8, Cond.code yX8_nightNumber cX8_nightNumber 1 (some .int), Cond.fieldLink RX8 11 "PillowCourt$Scene" "cells" "[I", Cond.methodLink RX11 232 yX11_listen, Cond.instanceMethod yX11_listen, Cond.selects RX11 yX11_listen yX11_listen, Cond.code yX11_listen cX11_listen 6 none, Cond.fieldLink RX11 69 "PillowCourt" "ears" "[I", Cond.fieldLink RX11 75 "PillowCourt" "told" "LPillowCourt$Told;", Cond.fieldLink RX11 204 "PillowCourt$Told" "people" "I", Cond.methodLink RX11 268 yJ7_fill_53178, Cond.static yJ7_fill_53178, Cond.initialized RJ7, Cond.code yJ7_fill_53178 cJ7_fill_53178 4 none, Cond.methodLink RX11 116 yX8_bedOf, Cond.instanceMethod yX8_bedOf]
def wsX11_which_r2 : List Cond := [Cond.selects RX8 yX8_bedOf yX8_bedOf, Cond.code yX8_bedOf cX8_bedOf 2 (some .int), Cond.methodLink RX11 274 yX10_thingSaid, Cond.instanceMethod yX10_thingSaid, Cond.selects RX10 yX10_thingSaid yX10_thingSaid, Cond.initialized RX10, Cond.code yX10_thingSaid cX10_thingSaid 8 (some .int), Cond.fieldLink RX10 9 "PillowCourt$Told" "knows" "[I", Cond.constantLong RX10 40 (7919), Cond.constantLong RX10 42 (6151), Cond.constantLong RX10 44 (4253), Cond.constantLong RX10 46 (65521), Cond.constantLong RX10 48 (8), Cond.fieldLink RX10 15 "PillowCourt$Told" "talks" "[I", Cond.methodLink RX10 34 yJ6_bitCount_0f7a4, Cond.static yJ6_bitCount_0f7a4, Cond.initialized RJ6, Cond.code yJ6_bitCount_0f7a4 cJ6_bitCount_0f7a4 1 (some .int), Cond.constant RJ6 265 (1431655765), Cond.constant RJ6 266 (858993459), Cond.constant RJ6 267 (252645135), Cond.methodLink RX10 50 yX10_thingAt, Cond.static yX10_thingAt, Cond.code yX10_thingAt cX10_thingAt 4 (some .int)]
def wsX11_which_r3 : List Cond := [Cond.methodLink RX11 235 yX11_agreesWithNotes, Cond.instanceMethod yX11_agreesWithNotes, Cond.selects RX11 yX11_agreesWithNotes yX11_agreesWithNotes, Cond.code yX11_agreesWithNotes cX11_agreesWithNotes 3 (some .boolean), Cond.fieldLink RX11 104 "PillowCourt" "noted" "I", Cond.fieldLink RX11 59 "PillowCourt" "notedPillow" "[I", Cond.fieldLink RX11 63 "PillowCourt" "notedThing" "[I", Cond.fieldLink RX11 66 "PillowCourt" "notedIs" "[I"]
def wsX11_which : List Cond := .code yX11_which cX11_which 5 (some .int) :: ((wsX11_which_r1 ++ (wsX11_which_r2 ++ wsX11_which_r3)) ++ wsX110 ++ wsX80 ++ wsX100)
def wsX11_commonDivisor : List Cond := .code yX11_commonDivisor cX11_commonDivisor 6 (some .int) :: ([])
def wsX11_power : List Cond := .code yX11_power cX11_power 5 (some .long) :: ([])
def wsX11_odds_r1 : List Cond := [Cond.fieldLink RX11 75 "PillowCourt" "told" "LPillowCourt$Told;", Cond.constantLong RX11 239 (-1), Cond.fieldLink RX11 110 "PillowCourt$Told" "knows" "[I", Cond.fieldLink RX11 113 "PillowCourt$Told" "talks" "[I", Cond.methodLink RX11 107 yX10_hasPerson, Cond.instanceMethod yX10_hasPerson, Cond.selects RX10 yX10_hasPerson yX10_hasPerson, Cond.initialized RX10, Cond.code yX10_hasPerson cX10_hasPerson 2 (some .boolean), Cond.fieldLink RX10 31 "PillowCourt$Told" "people" "I", Cond.methodLink RX11 123 yX11_isThing, Cond.static yX11_isThing, Cond.initialized RX11, Cond.code yX11_isThing cX11_isThing 1 (some .boolean), Cond.methodLink RX11 201 yX11_isZeroOrOne, Cond.static yX11_isZeroOrOne, Cond.code yX11_isZeroOrOne cX11_isZeroOrOne 1 (some .boolean), Cond.methodLink RX11 182 yJ6_bitCount_0f7a4, Cond.static yJ6_bitCount_0f7a4, Cond.initialized RJ6, Cond.code yJ6_bitCount_0f7a4 cJ6_bitCount_0f7a4 1 (some .int), Cond.constant RJ6 265 (1431655765), Cond.constant RJ6 266 (858993459), Cond.constant RJ6 267 (252645135)]
def wsX11_odds_r2 : List Cond := [Cond.methodLink RX11 241 yX11_commonDivisor, Cond.static yX11_commonDivisor, Cond.code yX11_commonDivisor cX11_commonDivisor 6 (some .int), Cond.methodLink RX11 244 yX11_power, Cond.static yX11_power, Cond.code yX11_power cX11_power 5 (some .long)]
def wsX11_odds : List Cond := .code yX11_odds cX11_odds 10 (some .long) :: ((wsX11_odds_r1 ++ wsX11_odds_r2) ++ wsX110 ++ wsX100)
def wsX11_rate_r1 : List Cond := [Cond.fieldLink RX11 55 "PillowCourt" "kinds" "[LPillowCourt$KindPillow;", Cond.fieldLink RX11 75 "PillowCourt" "told" "LPillowCourt$Told;", Cond.constant RX11 248 (-1000000), Cond.fieldLink RX11 249 "PillowCourt$KindPillow" "added" "J", Cond.fieldLink RX11 19 "PillowCourt" "scene" "LPillowCourt$Scene;", Cond.fieldLink RX11 257 "PillowCourt" "traced" "J", Cond.methodLink RX11 129 yX10_hasPillow, Cond.instanceMethod yX10_hasPillow, Cond.selects RX10 yX10_hasPillow yX10_hasPillow, Cond.initialized RX10, Cond.code yX10_hasPillow cX10_hasPillow 2 (some .boolean), Cond.fieldLink RX10 21 "PillowCourt$Told" "pillows" "I", Cond.methodLink RX11 253 ⟨"PillowCourt$KindPillow", "rating", "(LPillowCourt$Scene;I)I"⟩, Cond.sameMethod "PillowCourt$KindPillow" "PillowCourt$KindPillow" "rating" "(LPillowCourt$Scene;I)I", Cond.instanceMethod ⟨"PillowCourt$KindPillow", "rating", "(LPillowCourt$Scene;I)I"⟩, Cond.selects RX1 ⟨"PillowCourt$KindPillow", "rating", "(LPillowCourt$Scene;I)I"⟩ yX1_rating, Cond.instanceMethod yX1_rating, Cond.initialized RX1, Cond.code yX1_rating cX1_rating 3 (some .int), Cond.fieldLink RX1 7 "PillowCourt$KindBench" "added" "J", Cond.sameField "PillowCourt$KindBench" "PillowCourt$KindPillow" "added" "J", Cond.constantLong RX1 13 (100000), Cond.methodLink RX1 15 yX6_rating, Cond.superclass RX1 RX6]
def wsX11_rate_r2 : List Cond := [Cond.instanceMethod yX6_rating, Cond.initialized RX6, Cond.code yX6_rating cX6_rating 3 (some .int), Cond.fieldLink RX6 7 "PillowCourt$KindPillow" "added" "J", Cond.methodLink RX6 13 yX8_thingsOn, Cond.instanceMethod yX8_thingsOn, Cond.selects RX8 yX8_thingsOn yX8_thingsOn, Cond.initialized RX8, Cond.code yX8_thingsOn cX8_thingsOn 4 (some .int), Cond.methodLink RX8 40 yX8_times, Cond.instanceMethod yX8_times, Cond.selects RX8 yX8_times yX8_times, Cond.code yX8_times cX8_times 3 (some .int), Cond.fieldLink RX8 11 "PillowCourt$Scene" "cells" "[I", Cond.methodLink RX6 19 yJ6_bitCount_0f7a4, Cond.static yJ6_bitCount_0f7a4, Cond.initialized RJ6, Cond.code yJ6_bitCount_0f7a4 cJ6_bitCount_0f7a4 1 (some .int), Cond.constant RJ6 265 (1431655765), Cond.constant RJ6 266 (858993459), Cond.constant RJ6 267 (252645135), Cond.methodLink RX1 19 yX8_nightNumber, Cond.instanceMethod yX8_nightNumber, Cond.selects RX8 yX8_nightNumber yX8_nightNumber]
def wsX11_rate_r3 : List Cond := [Cond.code yX8_nightNumber cX8_nightNumber 1 (some .int), Cond.selects RX2 ⟨"PillowCourt$KindPillow", "rating", "(LPillowCourt$Scene;I)I"⟩ yX2_rating, Cond.instanceMethod yX2_rating, Cond.initialized RX2, Cond.code yX2_rating cX2_rating 3 (some .int), Cond.fieldLink RX2 7 "PillowCourt$KindBolster" "added" "J", Cond.sameField "PillowCourt$KindBolster" "PillowCourt$KindPillow" "added" "J", Cond.constantLong RX2 13 (100), Cond.methodLink RX2 15 yX6_rating, Cond.superclass RX2 RX6, Cond.methodLink RX2 19 yX8_sleepersOn, Cond.instanceMethod yX8_sleepersOn, Cond.selects RX8 yX8_sleepersOn yX8_sleepersOn, Cond.code yX8_sleepersOn cX8_sleepersOn 4 (some .int), Cond.methodLink RX8 53 yX8_bedOf, Cond.instanceMethod yX8_bedOf, Cond.selects RX8 yX8_bedOf yX8_bedOf, Cond.code yX8_bedOf cX8_bedOf 2 (some .int), Cond.methodLink RX2 25 yJ6_bitCount_0f7a4, Cond.selects RX3 ⟨"PillowCourt$KindPillow", "rating", "(LPillowCourt$Scene;I)I"⟩ yX3_rating, Cond.instanceMethod yX3_rating, Cond.initialized RX3, Cond.code yX3_rating cX3_rating 3 (some .int), Cond.fieldLink RX3 9 "PillowCourt$KindDown" "added" "J"]
def wsX11_rate_r4 : List Cond := [Cond.sameField "PillowCourt$KindDown" "PillowCourt$KindPillow" "added" "J", Cond.constantLong RX3 15 (10), Cond.methodLink RX3 17 yX6_rating, Cond.superclass RX3 RX6, Cond.methodLink RX3 21 yX8_timesOn, Cond.instanceMethod yX8_timesOn, Cond.selects RX8 yX8_timesOn yX8_timesOn, Cond.code yX8_timesOn cX8_timesOn 5 (some .int), Cond.selects RX4 ⟨"PillowCourt$KindPillow", "rating", "(LPillowCourt$Scene;I)I"⟩ yX4_rating, Cond.instanceMethod yX4_rating, Cond.initialized RX4, Cond.code yX4_rating cX4_rating 3 (some .int), Cond.fieldLink RX4 7 "PillowCourt$KindGoose" "added" "J", Cond.sameField "PillowCourt$KindGoose" "PillowCourt$KindPillow" "added" "J", Cond.constantLong RX4 13 (1000), Cond.methodLink RX4 15 yX3_rating, Cond.sameMethod "PillowCourt$KindDown" "PillowCourt$KindDown" "rating" "(LPillowCourt$Scene;I)I", Cond.superclass RX4 RX3, Cond.selects RX5 ⟨"PillowCourt$KindPillow", "rating", "(LPillowCourt$Scene;I)I"⟩ yX5_rating, Cond.instanceMethod yX5_rating, Cond.initialized RX5, Cond.code yX5_rating cX5_rating 3 (some .int), Cond.fieldLink RX5 7 "PillowCourt$KindHotel" "added" "J", Cond.sameField "PillowCourt$KindHotel" "PillowCourt$KindPillow" "added" "J"]
def wsX11_rate_r5 : List Cond := [Cond.constantLong RX5 13 (10000), Cond.methodLink RX5 15 yX2_rating, Cond.sameMethod "PillowCourt$KindBolster" "PillowCourt$KindBolster" "rating" "(LPillowCourt$Scene;I)I", Cond.superclass RX5 RX2, Cond.methodLink RX11 253 yX6_rating, Cond.selects RX6 yX6_rating yX6_rating]
def wsX11_rate : List Cond := .code yX11_rate cX11_rate 5 (some .int) :: ((wsX11_rate_r1 ++ (wsX11_rate_r2 ++ (wsX11_rate_r3 ++ (wsX11_rate_r4 ++ wsX11_rate_r5)))) ++ wsX110 ++ wsX10 ++ wsX20 ++ wsX30 ++ wsX40 ++ wsX50 ++ wsX60 ++ wsX100 ++ wsX80)
def wsX11_keep : List Cond := .code yX11_keep cX11_keep 2 (some .int) :: ([.fieldLink RX11 26 "PillowCourt" "shelf" "LPillowCourt$Shelf;", .fieldLink RX11 19 "PillowCourt" "scene" "LPillowCourt$Scene;", .methodLink RX11 201 yX11_isZeroOrOne, .static yX11_isZeroOrOne, .initialized RX11, .code yX11_isZeroOrOne cX11_isZeroOrOne 1 (some .boolean), .methodLink RX11 260 yX9_keepImage, .instanceMethod yX9_keepImage, .selects RX9 yX9_keepImage yX9_keepImage, .initialized RX9, .code yX9_keepImage cX9_keepImage 3 none, .fieldLink RX9 28 "PillowCourt$Scene" "cells" "[I", .fieldLink RX9 17 "PillowCourt$Shelf" "images" "[I", .methodLink RX9 34 arraycopyName, .native arraycopyName, .static arraycopyName, .initialized "java/lang/System", .fieldLink RX9 20 "PillowCourt$Shelf" "isKept" "[Z", .methodLink RX11 145 yX8_nightNumber, .instanceMethod yX8_nightNumber, .selects RX8 yX8_nightNumber yX8_nightNumber, .initialized RX8, .code yX8_nightNumber cX8_nightNumber 1 (some .int), .fieldLink RX8 11 "PillowCourt$Scene" "cells" "[I"] ++ wsX110 ++ wsX80 ++ wsX90)
def wsX11_back_r1 : List Cond := [Cond.fieldLink RX11 26 "PillowCourt" "shelf" "LPillowCourt$Shelf;", Cond.fieldLink RX11 19 "PillowCourt" "scene" "LPillowCourt$Scene;", Cond.methodLink RX11 201 yX11_isZeroOrOne, Cond.static yX11_isZeroOrOne, Cond.initialized RX11, Cond.code yX11_isZeroOrOne cX11_isZeroOrOne 1 (some .boolean), Cond.methodLink RX11 264 yX9_restoreImage, Cond.instanceMethod yX9_restoreImage, Cond.selects RX9 yX9_restoreImage yX9_restoreImage, Cond.initialized RX9, Cond.code yX9_restoreImage cX9_restoreImage 3 (some .boolean), Cond.fieldLink RX9 20 "PillowCourt$Shelf" "isKept" "[Z", Cond.fieldLink RX9 17 "PillowCourt$Shelf" "images" "[I", Cond.fieldLink RX9 28 "PillowCourt$Scene" "cells" "[I", Cond.methodLink RX9 34 arraycopyName, Cond.native arraycopyName, Cond.static arraycopyName, Cond.initialized "java/lang/System", Cond.fieldLink RX9 24 "PillowCourt$Shelf" "undoable" "I", Cond.methodLink RX11 145 yX8_nightNumber, Cond.instanceMethod yX8_nightNumber, Cond.selects RX8 yX8_nightNumber yX8_nightNumber, Cond.initialized RX8, Cond.code yX8_nightNumber cX8_nightNumber 1 (some .int)]
def wsX11_back_r2 : List Cond := [Cond.fieldLink RX8 11 "PillowCourt$Scene" "cells" "[I"]
def wsX11_back : List Cond := .code yX11_back cX11_back 2 (some .int) :: ((wsX11_back_r1 ++ wsX11_back_r2) ++ wsX110 ++ wsX90 ++ wsX80)
def wsX11_count : List Cond := .code yX11_count cX11_count 2 (some .int) :: ([.fieldLink RX11 75 "PillowCourt" "told" "LPillowCourt$Told;", .fieldLink RX11 204 "PillowCourt$Told" "people" "I", .fieldLink RX11 226 "PillowCourt$Told" "pillows" "I", .fieldLink RX11 104 "PillowCourt" "noted" "I", .fieldLink RX11 12 "PillowCourt" "reader" "LPillowCourt$Reader;", .fieldLink RX11 90 "PillowCourt$Reader" "length" "I"] ++ wsX110 ++ wsX100 ++ wsX70)
def wsX11_trace : List Cond := .code yX11_trace cX11_trace 1 (some .long) :: ([.fieldLink RX11 257 "PillowCourt" "traced" "J"] ++ wsX110)
def wsX12_in : List Cond := .code yX12_in cX12_in 6 (some .boolean) :: ([])
def wsX12_plain : List Cond := .code yX12_plain cX12_plain 2 none :: ([.fieldLink RX12 13 "PillowCourtModel" "read" "[I"] ++ wsX120)
def wsX12_takes : List Cond := .code yX12_takes cX12_takes 2 none :: ([.fieldLink RX12 16 "PillowCourtModel" "paper" "[I", .fieldLink RX12 13 "PillowCourtModel" "read" "[I", .fieldLink RX12 19 "PillowCourtModel" "now" "[I", .fieldLink RX12 93 "PillowCourtModel" "noted" "I", .fieldLink RX12 96 "PillowCourtModel" "undos" "I", .fieldLink RX12 37 "PillowCourtModel" "kept" "[I"] ++ wsX120)
def wsX12_init_r1 : List Cond := [Cond.methodLink RX12 1 objectInit, Cond.instanceMethod objectInit, Cond.code objectInit ⟨#[0xb1]⟩ 1 none, Cond.arrayClass .int, Cond.fieldLink RX12 7 "PillowCourtModel" "text" "[I", Cond.fieldLink RX12 13 "PillowCourtModel" "read" "[I", Cond.fieldLink RX12 16 "PillowCourtModel" "paper" "[I", Cond.fieldLink RX12 19 "PillowCourtModel" "now" "[I", Cond.fieldLink RX12 22 "PillowCourtModel" "undone" "[I", Cond.fieldLink RX12 25 "PillowCourtModel" "fits" "[I", Cond.fieldLink RX12 28 "PillowCourtModel" "aside" "[I", Cond.fieldLink RX12 31 "PillowCourtModel" "notes" "[I", Cond.fieldLink RX12 34 "PillowCourtModel" "news" "[I", Cond.fieldLink RX12 37 "PillowCourtModel" "kept" "[I", Cond.methodLink RX12 40 yX12_plain, Cond.instanceMethod yX12_plain, Cond.selects RX12 yX12_plain yX12_plain, Cond.initialized RX12, Cond.code yX12_plain cX12_plain 2 none, Cond.methodLink RX12 43 yX12_takes, Cond.instanceMethod yX12_takes, Cond.selects RX12 yX12_takes yX12_takes, Cond.code yX12_takes cX12_takes 2 none, Cond.fieldLink RX12 93 "PillowCourtModel" "noted" "I"]
def wsX12_init_r2 : List Cond := [Cond.fieldLink RX12 96 "PillowCourtModel" "undos" "I"]
def wsX12_init : List Cond := .code yX12_init cX12_init 1 none :: ((wsX12_init_r1 ++ wsX12_init_r2) ++ wsX120)
def wsX12_type : List Cond := .code yX12_type cX12_type 2 (some .int) :: ([.constantLong RX12 46 (255), .fieldLink RX12 52 "PillowCourtModel" "size" "I", .fieldLink RX12 7 "PillowCourtModel" "text" "[I", .methodLink RX12 48 yX12_in, .static yX12_in, .initialized RX12, .code yX12_in cX12_in 6 (some .boolean)] ++ wsX120)
def wsX12_clear : List Cond := .code yX12_clear cX12_clear 2 (some .int) :: ([.fieldLink RX12 52 "PillowCourtModel" "size" "I"] ++ wsX120)
def wsX12_isFigure : List Cond := .code yX12_isFigure cX12_isFigure 1 (some .boolean) :: ([.constantLong RX12 56 (48), .constantLong RX12 58 (57), .methodLink RX12 48 yX12_in, .static yX12_in, .initialized RX12, .code yX12_in cX12_in 6 (some .boolean)])
def wsX12_reads : List Cond := .code yX12_reads cX12_reads 1 none :: ([.fieldLink RX12 60 "PillowCourtModel" "at" "I", .fieldLink RX12 52 "PillowCourtModel" "size" "I", .fieldLink RX12 7 "PillowCourtModel" "text" "[I", .fieldLink RX12 63 "PillowCourtModel" "begin" "I", .fieldLink RX12 66 "PillowCourtModel" "token" "I", .fieldLink RX12 73 "PillowCourtModel" "told" "I", .methodLink RX12 69 yX12_isFigure, .static yX12_isFigure, .initialized RX12, .code yX12_isFigure cX12_isFigure 1 (some .boolean), .constantLong RX12 56 (48), .constantLong RX12 58 (57), .methodLink RX12 48 yX12_in, .static yX12_in, .code yX12_in cX12_in 6 (some .boolean)] ++ wsX120)
def wsX12_number : List Cond := .code yX12_number cX12_number 3 (some .boolean) :: ([.fieldLink RX12 66 "PillowCourtModel" "token" "I", .fieldLink RX12 73 "PillowCourtModel" "told" "I", .methodLink RX12 76 yX12_reads, .instanceMethod yX12_reads, .selects RX12 yX12_reads yX12_reads, .initialized RX12, .code yX12_reads cX12_reads 1 none, .fieldLink RX12 60 "PillowCourtModel" "at" "I", .fieldLink RX12 52 "PillowCourtModel" "size" "I", .fieldLink RX12 7 "PillowCourtModel" "text" "[I", .fieldLink RX12 63 "PillowCourtModel" "begin" "I", .methodLink RX12 69 yX12_isFigure, .static yX12_isFigure, .code yX12_isFigure cX12_isFigure 1 (some .boolean), .constantLong RX12 56 (48), .constantLong RX12 58 (57), .methodLink RX12 48 yX12_in, .static yX12_in, .code yX12_in cX12_in 6 (some .boolean)] ++ wsX120)
def wsX12_itemEnds : List Cond := .code yX12_itemEnds cX12_itemEnds 1 (some .boolean) :: ([.fieldLink RX12 66 "PillowCourtModel" "token" "I", .methodLink RX12 76 yX12_reads, .instanceMethod yX12_reads, .selects RX12 yX12_reads yX12_reads, .initialized RX12, .code yX12_reads cX12_reads 1 none, .fieldLink RX12 60 "PillowCourtModel" "at" "I", .fieldLink RX12 52 "PillowCourtModel" "size" "I", .fieldLink RX12 7 "PillowCourtModel" "text" "[I", .fieldLink RX12 63 "PillowCourtModel" "begin" "I", .fieldLink RX12 73 "PillowCourtModel" "told" "I", .methodLink RX12 69 yX12_isFigure, .static yX12_isFigure, .code yX12_isFigure cX12_isFigure 1 (some .boolean), .constantLong RX12 56 (48), .constantLong RX12 58 (57), .methodLink RX12 48 yX12_in, .static yX12_in, .code yX12_in cX12_in 6 (some .boolean)] ++ wsX120)
def wsX12_readClash_r1 : List Cond := [Cond.fieldLink RX12 73 "PillowCourtModel" "told" "I", Cond.fieldLink RX12 13 "PillowCourtModel" "read" "[I", Cond.methodLink RX12 79 yX12_number, Cond.instanceMethod yX12_number, Cond.selects RX12 yX12_number yX12_number, Cond.initialized RX12, Cond.code yX12_number cX12_number 3 (some .boolean), Cond.fieldLink RX12 66 "PillowCourtModel" "token" "I", Cond.methodLink RX12 76 yX12_reads, Cond.instanceMethod yX12_reads, Cond.selects RX12 yX12_reads yX12_reads, Cond.code yX12_reads cX12_reads 1 none, Cond.fieldLink RX12 60 "PillowCourtModel" "at" "I", Cond.fieldLink RX12 52 "PillowCourtModel" "size" "I", Cond.fieldLink RX12 7 "PillowCourtModel" "text" "[I", Cond.fieldLink RX12 63 "PillowCourtModel" "begin" "I", Cond.methodLink RX12 69 yX12_isFigure, Cond.static yX12_isFigure, Cond.code yX12_isFigure cX12_isFigure 1 (some .boolean), Cond.constantLong RX12 56 (48), Cond.constantLong RX12 58 (57), Cond.methodLink RX12 48 yX12_in, Cond.static yX12_in, Cond.code yX12_in cX12_in 6 (some .boolean)]
def wsX12_readClash_r2 : List Cond := [Cond.methodLink RX12 83 yX12_itemEnds, Cond.instanceMethod yX12_itemEnds, Cond.selects RX12 yX12_itemEnds yX12_itemEnds, Cond.code yX12_itemEnds cX12_itemEnds 1 (some .boolean)]
def wsX12_readClash : List Cond := .code yX12_readClash cX12_readClash 2 (some .boolean) :: ((wsX12_readClash_r1 ++ wsX12_readClash_r2) ++ wsX120)
def wsX12_readItem_r1 : List Cond := [Cond.fieldLink RX12 66 "PillowCourtModel" "token" "I", Cond.fieldLink RX12 73 "PillowCourtModel" "told" "I", Cond.fieldLink RX12 13 "PillowCourtModel" "read" "[I", Cond.methodLink RX12 79 yX12_number, Cond.instanceMethod yX12_number, Cond.selects RX12 yX12_number yX12_number, Cond.initialized RX12, Cond.code yX12_number cX12_number 3 (some .boolean), Cond.methodLink RX12 76 yX12_reads, Cond.instanceMethod yX12_reads, Cond.selects RX12 yX12_reads yX12_reads, Cond.code yX12_reads cX12_reads 1 none, Cond.fieldLink RX12 60 "PillowCourtModel" "at" "I", Cond.fieldLink RX12 52 "PillowCourtModel" "size" "I", Cond.fieldLink RX12 7 "PillowCourtModel" "text" "[I", Cond.fieldLink RX12 63 "PillowCourtModel" "begin" "I", Cond.methodLink RX12 69 yX12_isFigure, Cond.static yX12_isFigure, Cond.code yX12_isFigure cX12_isFigure 1 (some .boolean), Cond.constantLong RX12 56 (48), Cond.constantLong RX12 58 (57), Cond.methodLink RX12 48 yX12_in, Cond.static yX12_in, Cond.code yX12_in cX12_in 6 (some .boolean)]
def wsX12_readItem_r2 : List Cond := [Cond.methodLink RX12 83 yX12_itemEnds, Cond.instanceMethod yX12_itemEnds, Cond.selects RX12 yX12_itemEnds yX12_itemEnds, Cond.code yX12_itemEnds cX12_itemEnds 1 (some .boolean), Cond.methodLink RX12 87 yX12_readClash, Cond.instanceMethod yX12_readClash, Cond.selects RX12 yX12_readClash yX12_readClash, Cond.code yX12_readClash cX12_readClash 2 (some .boolean)]
def wsX12_readItem : List Cond := .code yX12_readItem cX12_readItem 3 (some .boolean) :: ((wsX12_readItem_r1 ++ wsX12_readItem_r2) ++ wsX120)
def wsX12_court_r1 : List Cond := [Cond.fieldLink RX12 60 "PillowCourtModel" "at" "I", Cond.fieldLink RX12 66 "PillowCourtModel" "token" "I", Cond.fieldLink RX12 63 "PillowCourtModel" "begin" "I", Cond.fieldLink RX12 52 "PillowCourtModel" "size" "I", Cond.methodLink RX12 40 yX12_plain, Cond.instanceMethod yX12_plain, Cond.selects RX12 yX12_plain yX12_plain, Cond.initialized RX12, Cond.code yX12_plain cX12_plain 2 none, Cond.fieldLink RX12 13 "PillowCourtModel" "read" "[I", Cond.methodLink RX12 76 yX12_reads, Cond.instanceMethod yX12_reads, Cond.selects RX12 yX12_reads yX12_reads, Cond.code yX12_reads cX12_reads 1 none, Cond.fieldLink RX12 7 "PillowCourtModel" "text" "[I", Cond.fieldLink RX12 73 "PillowCourtModel" "told" "I", Cond.methodLink RX12 69 yX12_isFigure, Cond.static yX12_isFigure, Cond.code yX12_isFigure cX12_isFigure 1 (some .boolean), Cond.constantLong RX12 56 (48), Cond.constantLong RX12 58 (57), Cond.methodLink RX12 48 yX12_in, Cond.static yX12_in, Cond.code yX12_in cX12_in 6 (some .boolean)]
def wsX12_court_r2 : List Cond := [Cond.methodLink RX12 90 yX12_readItem, Cond.instanceMethod yX12_readItem, Cond.selects RX12 yX12_readItem yX12_readItem, Cond.code yX12_readItem cX12_readItem 3 (some .boolean), Cond.methodLink RX12 79 yX12_number, Cond.instanceMethod yX12_number, Cond.selects RX12 yX12_number yX12_number, Cond.code yX12_number cX12_number 3 (some .boolean), Cond.methodLink RX12 83 yX12_itemEnds, Cond.instanceMethod yX12_itemEnds, Cond.selects RX12 yX12_itemEnds yX12_itemEnds, Cond.code yX12_itemEnds cX12_itemEnds 1 (some .boolean), Cond.methodLink RX12 87 yX12_readClash, Cond.instanceMethod yX12_readClash, Cond.selects RX12 yX12_readClash yX12_readClash, Cond.code yX12_readClash cX12_readClash 2 (some .boolean), Cond.methodLink RX12 43 yX12_takes, Cond.instanceMethod yX12_takes, Cond.selects RX12 yX12_takes yX12_takes, Cond.code yX12_takes cX12_takes 2 none, Cond.fieldLink RX12 16 "PillowCourtModel" "paper" "[I", Cond.fieldLink RX12 19 "PillowCourtModel" "now" "[I", Cond.fieldLink RX12 93 "PillowCourtModel" "noted" "I", Cond.fieldLink RX12 96 "PillowCourtModel" "undos" "I"]
def wsX12_court_r3 : List Cond := [Cond.fieldLink RX12 37 "PillowCourtModel" "kept" "[I"]
def wsX12_court : List Cond := .code yX12_court cX12_court 2 (some .int) :: ((wsX12_court_r1 ++ (wsX12_court_r2 ++ wsX12_court_r3)) ++ wsX120)
def wsX12_isPerson : List Cond := .code yX12_isPerson cX12_isPerson 2 (some .boolean) :: ([.fieldLink RX12 16 "PillowCourtModel" "paper" "[I", .methodLink RX12 48 yX12_in, .static yX12_in, .initialized RX12, .code yX12_in cX12_in 6 (some .boolean)] ++ wsX120)
def wsX12_isPillow : List Cond := .code yX12_isPillow cX12_isPillow 2 (some .boolean) :: ([.fieldLink RX12 16 "PillowCourtModel" "paper" "[I", .methodLink RX12 48 yX12_in, .static yX12_in, .initialized RX12, .code yX12_in cX12_in 6 (some .boolean)] ++ wsX120)
def wsX12_isThing : List Cond := .code yX12_isThing cX12_isThing 1 (some .boolean) :: ([.constantLong RX12 99 (6), .methodLink RX12 48 yX12_in, .static yX12_in, .initialized RX12, .code yX12_in cX12_in 6 (some .boolean)])
def wsX12_knows : List Cond := .code yX12_knows cX12_knows 2 (some .int) :: ([.fieldLink RX12 16 "PillowCourtModel" "paper" "[I"] ++ wsX120)
def wsX12_many : List Cond := .code yX12_many cX12_many 3 (some .int) :: ([])
def wsX12_often : List Cond := .code yX12_often cX12_often 3 (some .int) :: ([.fieldLink RX12 19 "PillowCourtModel" "now" "[I"] ++ wsX120)
def wsX12_hears : List Cond := .code yX12_hears cX12_hears 4 (some .int) :: ([.methodLink RX12 101 yX12_often, .instanceMethod yX12_often, .selects RX12 yX12_often yX12_often, .initialized RX12, .code yX12_often cX12_often 3 (some .int), .fieldLink RX12 19 "PillowCourtModel" "now" "[I"] ++ wsX120)
def wsX12_hear : List Cond := .code yX12_hear cX12_hear 4 (some .int) :: ([.fieldLink RX12 16 "PillowCourtModel" "paper" "[I", .methodLink RX12 105 yX12_hears, .instanceMethod yX12_hears, .selects RX12 yX12_hears yX12_hears, .initialized RX12, .code yX12_hears cX12_hears 4 (some .int), .methodLink RX12 101 yX12_often, .instanceMethod yX12_often, .selects RX12 yX12_often yX12_often, .code yX12_often cX12_often 3 (some .int), .fieldLink RX12 19 "PillowCourtModel" "now" "[I"] ++ wsX120)
def wsX12_lieOn : List Cond := .code yX12_lieOn cX12_lieOn 4 (some .int) :: ([.fieldLink RX12 16 "PillowCourtModel" "paper" "[I", .fieldLink RX12 19 "PillowCourtModel" "now" "[I"] ++ wsX120)
def wsX12_safe : List Cond := .code yX12_safe cX12_safe 5 (some .int) :: ([.fieldLink RX12 16 "PillowCourtModel" "paper" "[I", .fieldLink RX12 19 "PillowCourtModel" "now" "[I", .methodLink RX12 109 yX12_knows, .instanceMethod yX12_knows, .selects RX12 yX12_knows yX12_knows, .initialized RX12, .code yX12_knows cX12_knows 2 (some .int)] ++ wsX120)
def wsX12_person : List Cond := .code yX12_person cX12_person 3 (some .int) :: ([.constantLong RX12 115 (3), .fieldLink RX12 16 "PillowCourtModel" "paper" "[I", .fieldLink RX12 19 "PillowCourtModel" "now" "[I", .methodLink RX12 112 yX12_isPerson, .instanceMethod yX12_isPerson, .selects RX12 yX12_isPerson yX12_isPerson, .initialized RX12, .code yX12_isPerson cX12_isPerson 2 (some .boolean), .methodLink RX12 48 yX12_in, .static yX12_in, .code yX12_in cX12_in 6 (some .boolean), .methodLink RX12 117 yX12_safe, .instanceMethod yX12_safe, .selects RX12 yX12_safe yX12_safe, .code yX12_safe cX12_safe 5 (some .int), .methodLink RX12 109 yX12_knows, .instanceMethod yX12_knows, .selects RX12 yX12_knows yX12_knows, .code yX12_knows cX12_knows 2 (some .int)] ++ wsX120)
def wsX12_clashes : List Cond := .code yX12_clashes cX12_clashes 2 (some .int) :: ([.fieldLink RX12 16 "PillowCourtModel" "paper" "[I", .methodLink RX12 120 yX12_isThing, .static yX12_isThing, .initialized RX12, .code yX12_isThing cX12_isThing 1 (some .boolean), .constantLong RX12 99 (6), .methodLink RX12 48 yX12_in, .static yX12_in, .code yX12_in cX12_in 6 (some .boolean)] ++ wsX120)
def wsX12_pillow : List Cond := .code yX12_pillow cX12_pillow 3 (some .int) :: ([.constantLong RX12 126 (2), .fieldLink RX12 19 "PillowCourtModel" "now" "[I", .methodLink RX12 123 yX12_isPillow, .instanceMethod yX12_isPillow, .selects RX12 yX12_isPillow yX12_isPillow, .initialized RX12, .code yX12_isPillow cX12_isPillow 2 (some .boolean), .fieldLink RX12 16 "PillowCourtModel" "paper" "[I", .methodLink RX12 48 yX12_in, .static yX12_in, .code yX12_in cX12_in 6 (some .boolean), .methodLink RX12 105 yX12_hears, .instanceMethod yX12_hears, .selects RX12 yX12_hears yX12_hears, .code yX12_hears cX12_hears 4 (some .int), .methodLink RX12 101 yX12_often, .instanceMethod yX12_often, .selects RX12 yX12_often yX12_often, .code yX12_often cX12_often 3 (some .int), .methodLink RX12 128 yX12_lieOn, .instanceMethod yX12_lieOn, .selects RX12 yX12_lieOn yX12_lieOn, .code yX12_lieOn cX12_lieOn 4 (some .int)] ++ wsX120)
def wsX12_heard : List Cond := .code yX12_heard cX12_heard 3 (some .int) :: ([.methodLink RX12 123 yX12_isPillow, .instanceMethod yX12_isPillow, .selects RX12 yX12_isPillow yX12_isPillow, .initialized RX12, .code yX12_isPillow cX12_isPillow 2 (some .boolean), .fieldLink RX12 16 "PillowCourtModel" "paper" "[I", .methodLink RX12 48 yX12_in, .static yX12_in, .code yX12_in cX12_in 6 (some .boolean), .methodLink RX12 120 yX12_isThing, .static yX12_isThing, .code yX12_isThing cX12_isThing 1 (some .boolean), .constantLong RX12 99 (6), .methodLink RX12 101 yX12_often, .instanceMethod yX12_often, .selects RX12 yX12_often yX12_often, .code yX12_often cX12_often 3 (some .int), .fieldLink RX12 19 "PillowCourtModel" "now" "[I"] ++ wsX120)
def wsX12_against : List Cond := .code yX12_against cX12_against 4 (some .int) :: ([.fieldLink RX12 16 "PillowCourtModel" "paper" "[I", .methodLink RX12 131 yX12_hear, .instanceMethod yX12_hear, .selects RX12 yX12_hear yX12_hear, .initialized RX12, .code yX12_hear cX12_hear 4 (some .int), .methodLink RX12 105 yX12_hears, .instanceMethod yX12_hears, .selects RX12 yX12_hears yX12_hears, .code yX12_hears cX12_hears 4 (some .int), .methodLink RX12 101 yX12_often, .instanceMethod yX12_often, .selects RX12 yX12_often yX12_often, .code yX12_often cX12_often 3 (some .int), .fieldLink RX12 19 "PillowCourtModel" "now" "[I", .methodLink RX12 134 yX12_many, .static yX12_many, .code yX12_many cX12_many 3 (some .int)] ++ wsX120)
def wsX12_alone : List Cond := .code yX12_alone cX12_alone 4 (some .int) :: ([.fieldLink RX12 16 "PillowCourtModel" "paper" "[I", .methodLink RX12 109 yX12_knows, .instanceMethod yX12_knows, .selects RX12 yX12_knows yX12_knows, .initialized RX12, .code yX12_knows cX12_knows 2 (some .int)] ++ wsX120)
def wsX12_now_r1 : List Cond := [Cond.fieldLink RX12 19 "PillowCourtModel" "now" "[I", Cond.fieldLink RX12 96 "PillowCourtModel" "undos" "I", Cond.methodLink RX12 131 yX12_hear, Cond.instanceMethod yX12_hear, Cond.selects RX12 yX12_hear yX12_hear, Cond.initialized RX12, Cond.code yX12_hear cX12_hear 4 (some .int), Cond.fieldLink RX12 16 "PillowCourtModel" "paper" "[I", Cond.methodLink RX12 105 yX12_hears, Cond.instanceMethod yX12_hears, Cond.selects RX12 yX12_hears yX12_hears, Cond.code yX12_hears cX12_hears 4 (some .int), Cond.methodLink RX12 101 yX12_often, Cond.instanceMethod yX12_often, Cond.selects RX12 yX12_often yX12_often, Cond.code yX12_often cX12_often 3 (some .int), Cond.methodLink RX12 137 yX12_against, Cond.instanceMethod yX12_against, Cond.selects RX12 yX12_against yX12_against, Cond.code yX12_against cX12_against 4 (some .int), Cond.methodLink RX12 134 yX12_many, Cond.static yX12_many, Cond.code yX12_many cX12_many 3 (some .int), Cond.methodLink RX12 141 yX12_alone]
def wsX12_now_r2 : List Cond := [Cond.instanceMethod yX12_alone, Cond.selects RX12 yX12_alone yX12_alone, Cond.code yX12_alone cX12_alone 4 (some .int), Cond.methodLink RX12 109 yX12_knows, Cond.instanceMethod yX12_knows, Cond.selects RX12 yX12_knows yX12_knows, Cond.code yX12_knows cX12_knows 2 (some .int)]
def wsX12_now : List Cond := .code yX12_now cX12_now 2 (some .int) :: ((wsX12_now_r1 ++ wsX12_now_r2) ++ wsX120)
def wsX12_keepsUndo : List Cond := .code yX12_keepsUndo cX12_keepsUndo 2 none :: ([.fieldLink RX12 96 "PillowCourtModel" "undos" "I", .fieldLink RX12 22 "PillowCourtModel" "undone" "[I", .fieldLink RX12 19 "PillowCourtModel" "now" "[I"] ++ wsX120)
def wsX12_lays : List Cond := .code yX12_lays cX12_lays 4 (some .int) :: ([.fieldLink RX12 19 "PillowCourtModel" "now" "[I", .methodLink RX12 112 yX12_isPerson, .instanceMethod yX12_isPerson, .selects RX12 yX12_isPerson yX12_isPerson, .initialized RX12, .code yX12_isPerson cX12_isPerson 2 (some .boolean), .fieldLink RX12 16 "PillowCourtModel" "paper" "[I", .methodLink RX12 48 yX12_in, .static yX12_in, .code yX12_in cX12_in 6 (some .boolean), .methodLink RX12 123 yX12_isPillow, .instanceMethod yX12_isPillow, .selects RX12 yX12_isPillow yX12_isPillow, .code yX12_isPillow cX12_isPillow 2 (some .boolean), .methodLink RX12 144 yX12_keepsUndo, .instanceMethod yX12_keepsUndo, .selects RX12 yX12_keepsUndo yX12_keepsUndo, .code yX12_keepsUndo cX12_keepsUndo 2 none, .fieldLink RX12 96 "PillowCourtModel" "undos" "I", .fieldLink RX12 22 "PillowCourtModel" "undone" "[I"] ++ wsX120)
def wsX12_says : List Cond := .code yX12_says cX12_says 9 (some .int) :: ([.constantLong RX12 147 (7919), .constantLong RX12 149 (6151), .constantLong RX12 151 (4253), .fieldLink RX12 19 "PillowCourtModel" "now" "[I", .constantLong RX12 153 (65521), .constantLong RX12 155 (8), .fieldLink RX12 16 "PillowCourtModel" "paper" "[I", .methodLink RX12 109 yX12_knows, .instanceMethod yX12_knows, .selects RX12 yX12_knows yX12_knows, .initialized RX12, .code yX12_knows cX12_knows 2 (some .int), .methodLink RX12 134 yX12_many, .static yX12_many, .code yX12_many cX12_many 3 (some .int)] ++ wsX120)
def wsX12_goesBy : List Cond := .code yX12_goesBy cX12_goesBy 6 (some .int) :: ([.fieldLink RX12 16 "PillowCourtModel" "paper" "[I", .fieldLink RX12 19 "PillowCourtModel" "now" "[I", .methodLink RX12 157 yX12_says, .instanceMethod yX12_says, .selects RX12 yX12_says yX12_says, .initialized RX12, .code yX12_says cX12_says 9 (some .int), .constantLong RX12 147 (7919), .constantLong RX12 149 (6151), .constantLong RX12 151 (4253), .constantLong RX12 153 (65521), .constantLong RX12 155 (8), .methodLink RX12 109 yX12_knows, .instanceMethod yX12_knows, .selects RX12 yX12_knows yX12_knows, .code yX12_knows cX12_knows 2 (some .int), .methodLink RX12 134 yX12_many, .static yX12_many, .code yX12_many cX12_many 3 (some .int)] ++ wsX120)
def wsX12_night_r1 : List Cond := [Cond.constantLong RX12 160 (9999), Cond.fieldLink RX12 19 "PillowCourtModel" "now" "[I", Cond.methodLink RX12 48 yX12_in, Cond.static yX12_in, Cond.initialized RX12, Cond.code yX12_in cX12_in 6 (some .boolean), Cond.methodLink RX12 144 yX12_keepsUndo, Cond.instanceMethod yX12_keepsUndo, Cond.selects RX12 yX12_keepsUndo yX12_keepsUndo, Cond.code yX12_keepsUndo cX12_keepsUndo 2 none, Cond.fieldLink RX12 96 "PillowCourtModel" "undos" "I", Cond.fieldLink RX12 22 "PillowCourtModel" "undone" "[I", Cond.methodLink RX12 162 yX12_goesBy, Cond.instanceMethod yX12_goesBy, Cond.selects RX12 yX12_goesBy yX12_goesBy, Cond.code yX12_goesBy cX12_goesBy 6 (some .int), Cond.fieldLink RX12 16 "PillowCourtModel" "paper" "[I", Cond.methodLink RX12 157 yX12_says, Cond.instanceMethod yX12_says, Cond.selects RX12 yX12_says yX12_says, Cond.code yX12_says cX12_says 9 (some .int), Cond.constantLong RX12 147 (7919), Cond.constantLong RX12 149 (6151), Cond.constantLong RX12 151 (4253)]
def wsX12_night_r2 : List Cond := [Cond.constantLong RX12 153 (65521), Cond.constantLong RX12 155 (8), Cond.methodLink RX12 109 yX12_knows, Cond.instanceMethod yX12_knows, Cond.selects RX12 yX12_knows yX12_knows, Cond.code yX12_knows cX12_knows 2 (some .int), Cond.methodLink RX12 134 yX12_many, Cond.static yX12_many, Cond.code yX12_many cX12_many 3 (some .int)]
def wsX12_night : List Cond := .code yX12_night cX12_night 2 (some .int) :: ((wsX12_night_r1 ++ wsX12_night_r2) ++ wsX120)
def wsX12_slips_r1 : List Cond := [Cond.fieldLink RX12 19 "PillowCourtModel" "now" "[I", Cond.methodLink RX12 123 yX12_isPillow, Cond.instanceMethod yX12_isPillow, Cond.selects RX12 yX12_isPillow yX12_isPillow, Cond.initialized RX12, Cond.code yX12_isPillow cX12_isPillow 2 (some .boolean), Cond.fieldLink RX12 16 "PillowCourtModel" "paper" "[I", Cond.methodLink RX12 48 yX12_in, Cond.static yX12_in, Cond.code yX12_in cX12_in 6 (some .boolean), Cond.methodLink RX12 144 yX12_keepsUndo, Cond.instanceMethod yX12_keepsUndo, Cond.selects RX12 yX12_keepsUndo yX12_keepsUndo, Cond.code yX12_keepsUndo cX12_keepsUndo 2 none, Cond.fieldLink RX12 96 "PillowCourtModel" "undos" "I", Cond.fieldLink RX12 22 "PillowCourtModel" "undone" "[I", Cond.methodLink RX12 105 yX12_hears, Cond.instanceMethod yX12_hears, Cond.selects RX12 yX12_hears yX12_hears, Cond.code yX12_hears cX12_hears 4 (some .int), Cond.methodLink RX12 101 yX12_often, Cond.instanceMethod yX12_often, Cond.selects RX12 yX12_often yX12_often, Cond.code yX12_often cX12_often 3 (some .int)]
def wsX12_slips_r2 : List Cond := [Cond.methodLink RX12 134 yX12_many, Cond.static yX12_many, Cond.code yX12_many cX12_many 3 (some .int)]
def wsX12_slips : List Cond := .code yX12_slips cX12_slips 4 (some .int) :: ((wsX12_slips_r1 ++ wsX12_slips_r2) ++ wsX120)
def wsX12_mixes_r1 : List Cond := [Cond.fieldLink RX12 19 "PillowCourtModel" "now" "[I", Cond.methodLink RX12 123 yX12_isPillow, Cond.instanceMethod yX12_isPillow, Cond.selects RX12 yX12_isPillow yX12_isPillow, Cond.initialized RX12, Cond.code yX12_isPillow cX12_isPillow 2 (some .boolean), Cond.fieldLink RX12 16 "PillowCourtModel" "paper" "[I", Cond.methodLink RX12 48 yX12_in, Cond.static yX12_in, Cond.code yX12_in cX12_in 6 (some .boolean), Cond.methodLink RX12 144 yX12_keepsUndo, Cond.instanceMethod yX12_keepsUndo, Cond.selects RX12 yX12_keepsUndo yX12_keepsUndo, Cond.code yX12_keepsUndo cX12_keepsUndo 2 none, Cond.fieldLink RX12 96 "PillowCourtModel" "undos" "I", Cond.fieldLink RX12 22 "PillowCourtModel" "undone" "[I", Cond.methodLink RX12 101 yX12_often, Cond.instanceMethod yX12_often, Cond.selects RX12 yX12_often yX12_often, Cond.code yX12_often cX12_often 3 (some .int), Cond.methodLink RX12 105 yX12_hears, Cond.instanceMethod yX12_hears, Cond.selects RX12 yX12_hears yX12_hears, Cond.code yX12_hears cX12_hears 4 (some .int)]
def wsX12_mixes_r2 : List Cond := [Cond.methodLink RX12 134 yX12_many, Cond.static yX12_many, Cond.code yX12_many cX12_many 3 (some .int)]
def wsX12_mixes : List Cond := .code yX12_mixes cX12_mixes 5 (some .int) :: ((wsX12_mixes_r1 ++ wsX12_mixes_r2) ++ wsX120)
def wsX12_examines_r1 : List Cond := [Cond.fieldLink RX12 19 "PillowCourtModel" "now" "[I", Cond.methodLink RX12 123 yX12_isPillow, Cond.instanceMethod yX12_isPillow, Cond.selects RX12 yX12_isPillow yX12_isPillow, Cond.initialized RX12, Cond.code yX12_isPillow cX12_isPillow 2 (some .boolean), Cond.fieldLink RX12 16 "PillowCourtModel" "paper" "[I", Cond.methodLink RX12 48 yX12_in, Cond.static yX12_in, Cond.code yX12_in cX12_in 6 (some .boolean), Cond.methodLink RX12 144 yX12_keepsUndo, Cond.instanceMethod yX12_keepsUndo, Cond.selects RX12 yX12_keepsUndo yX12_keepsUndo, Cond.code yX12_keepsUndo cX12_keepsUndo 2 none, Cond.fieldLink RX12 96 "PillowCourtModel" "undos" "I", Cond.fieldLink RX12 22 "PillowCourtModel" "undone" "[I", Cond.methodLink RX12 131 yX12_hear, Cond.instanceMethod yX12_hear, Cond.selects RX12 yX12_hear yX12_hear, Cond.code yX12_hear cX12_hear 4 (some .int), Cond.methodLink RX12 105 yX12_hears, Cond.instanceMethod yX12_hears, Cond.selects RX12 yX12_hears yX12_hears, Cond.code yX12_hears cX12_hears 4 (some .int)]
def wsX12_examines_r2 : List Cond := [Cond.methodLink RX12 101 yX12_often, Cond.instanceMethod yX12_often, Cond.selects RX12 yX12_often yX12_often, Cond.code yX12_often cX12_often 3 (some .int), Cond.methodLink RX12 134 yX12_many, Cond.static yX12_many, Cond.code yX12_many cX12_many 3 (some .int)]
def wsX12_examines : List Cond := .code yX12_examines cX12_examines 3 (some .int) :: ((wsX12_examines_r1 ++ wsX12_examines_r2) ++ wsX120)
def wsX12_undo : List Cond := .code yX12_undo cX12_undo 2 (some .int) :: ([.fieldLink RX12 96 "PillowCourtModel" "undos" "I", .fieldLink RX12 19 "PillowCourtModel" "now" "[I", .fieldLink RX12 22 "PillowCourtModel" "undone" "[I"] ++ wsX120)
def wsX12_whose_r1 : List Cond := [Cond.fieldLink RX12 16 "PillowCourtModel" "paper" "[I", Cond.methodLink RX12 123 yX12_isPillow, Cond.instanceMethod yX12_isPillow, Cond.selects RX12 yX12_isPillow yX12_isPillow, Cond.initialized RX12, Cond.code yX12_isPillow cX12_isPillow 2 (some .boolean), Cond.methodLink RX12 48 yX12_in, Cond.static yX12_in, Cond.code yX12_in cX12_in 6 (some .boolean), Cond.methodLink RX12 105 yX12_hears, Cond.instanceMethod yX12_hears, Cond.selects RX12 yX12_hears yX12_hears, Cond.code yX12_hears cX12_hears 4 (some .int), Cond.methodLink RX12 101 yX12_often, Cond.instanceMethod yX12_often, Cond.selects RX12 yX12_often yX12_often, Cond.code yX12_often cX12_often 3 (some .int), Cond.fieldLink RX12 19 "PillowCourtModel" "now" "[I", Cond.methodLink RX12 109 yX12_knows, Cond.instanceMethod yX12_knows, Cond.selects RX12 yX12_knows yX12_knows, Cond.code yX12_knows cX12_knows 2 (some .int), Cond.methodLink RX12 134 yX12_many, Cond.static yX12_many]
def wsX12_whose_r2 : List Cond := [Cond.code yX12_many cX12_many 3 (some .int)]
def wsX12_whose : List Cond := .code yX12_whose cX12_whose 9 (some .int) :: ((wsX12_whose_r1 ++ wsX12_whose_r2) ++ wsX120)
def wsX12_so : List Cond := .code yX12_so cX12_so 9 (some .int) :: ([.fieldLink RX12 16 "PillowCourtModel" "paper" "[I", .methodLink RX12 48 yX12_in, .static yX12_in, .initialized RX12, .code yX12_in cX12_in 6 (some .boolean), .methodLink RX12 101 yX12_often, .instanceMethod yX12_often, .selects RX12 yX12_often yX12_often, .code yX12_often cX12_often 3 (some .int), .fieldLink RX12 19 "PillowCourtModel" "now" "[I"] ++ wsX120)
def wsX12_tally : List Cond := .code yX12_tally cX12_tally 3 (some .int) :: ([.methodLink RX12 123 yX12_isPillow, .instanceMethod yX12_isPillow, .selects RX12 yX12_isPillow yX12_isPillow, .initialized RX12, .code yX12_isPillow cX12_isPillow 2 (some .boolean), .fieldLink RX12 16 "PillowCourtModel" "paper" "[I", .methodLink RX12 48 yX12_in, .static yX12_in, .code yX12_in cX12_in 6 (some .boolean), .methodLink RX12 105 yX12_hears, .instanceMethod yX12_hears, .selects RX12 yX12_hears yX12_hears, .code yX12_hears cX12_hears 4 (some .int), .methodLink RX12 101 yX12_often, .instanceMethod yX12_often, .selects RX12 yX12_often yX12_often, .code yX12_often cX12_often 3 (some .int), .fieldLink RX12 19 "PillowCourtModel" "now" "[I", .methodLink RX12 134 yX12_many, .static yX12_many, .code yX12_many cX12_many 3 (some .int)] ++ wsX120)
def wsX12_explains : List Cond := .code yX12_explains cX12_explains 5 (some .int) :: ([.methodLink RX12 109 yX12_knows, .instanceMethod yX12_knows, .selects RX12 yX12_knows yX12_knows, .initialized RX12, .code yX12_knows cX12_knows 2 (some .int), .fieldLink RX12 16 "PillowCourtModel" "paper" "[I", .methodLink RX12 101 yX12_often, .instanceMethod yX12_often, .selects RX12 yX12_often yX12_often, .code yX12_often cX12_often 3 (some .int), .fieldLink RX12 19 "PillowCourtModel" "now" "[I"] ++ wsX120)
def wsX12_works : List Cond := .code yX12_works cX12_works 6 none :: ([.fieldLink RX12 25 "PillowCourtModel" "fits" "[I", .fieldLink RX12 16 "PillowCourtModel" "paper" "[I", .methodLink RX12 165 yX12_explains, .instanceMethod yX12_explains, .selects RX12 yX12_explains yX12_explains, .initialized RX12, .code yX12_explains cX12_explains 5 (some .int), .methodLink RX12 109 yX12_knows, .instanceMethod yX12_knows, .selects RX12 yX12_knows yX12_knows, .code yX12_knows cX12_knows 2 (some .int), .methodLink RX12 101 yX12_often, .instanceMethod yX12_often, .selects RX12 yX12_often yX12_often, .code yX12_often cX12_often 3 (some .int), .fieldLink RX12 19 "PillowCourtModel" "now" "[I"] ++ wsX120)
def wsX12_fit_r1 : List Cond := [Cond.fieldLink RX12 16 "PillowCourtModel" "paper" "[I", Cond.fieldLink RX12 25 "PillowCourtModel" "fits" "[I", Cond.methodLink RX12 112 yX12_isPerson, Cond.instanceMethod yX12_isPerson, Cond.selects RX12 yX12_isPerson yX12_isPerson, Cond.initialized RX12, Cond.code yX12_isPerson cX12_isPerson 2 (some .boolean), Cond.methodLink RX12 48 yX12_in, Cond.static yX12_in, Cond.code yX12_in cX12_in 6 (some .boolean), Cond.methodLink RX12 168 yX12_works, Cond.instanceMethod yX12_works, Cond.selects RX12 yX12_works yX12_works, Cond.code yX12_works cX12_works 6 none, Cond.methodLink RX12 165 yX12_explains, Cond.instanceMethod yX12_explains, Cond.selects RX12 yX12_explains yX12_explains, Cond.code yX12_explains cX12_explains 5 (some .int), Cond.methodLink RX12 109 yX12_knows, Cond.instanceMethod yX12_knows, Cond.selects RX12 yX12_knows yX12_knows, Cond.code yX12_knows cX12_knows 2 (some .int), Cond.methodLink RX12 101 yX12_often, Cond.instanceMethod yX12_often]
def wsX12_fit_r2 : List Cond := [Cond.selects RX12 yX12_often yX12_often, Cond.code yX12_often cX12_often 3 (some .int), Cond.fieldLink RX12 19 "PillowCourtModel" "now" "[I"]
def wsX12_fit : List Cond := .code yX12_fit cX12_fit 8 (some .int) :: ((wsX12_fit_r1 ++ wsX12_fit_r2) ++ wsX120)
def wsX12_looks : List Cond := .code yX12_looks cX12_looks 5 (some .int) :: ([.fieldLink RX12 16 "PillowCourtModel" "paper" "[I", .fieldLink RX12 19 "PillowCourtModel" "now" "[I", .methodLink RX12 131 yX12_hear, .instanceMethod yX12_hear, .selects RX12 yX12_hear yX12_hear, .initialized RX12, .code yX12_hear cX12_hear 4 (some .int), .methodLink RX12 105 yX12_hears, .instanceMethod yX12_hears, .selects RX12 yX12_hears yX12_hears, .code yX12_hears cX12_hears 4 (some .int), .methodLink RX12 101 yX12_often, .instanceMethod yX12_often, .selects RX12 yX12_often yX12_often, .code yX12_often cX12_often 3 (some .int), .methodLink RX12 134 yX12_many, .static yX12_many, .code yX12_many cX12_many 3 (some .int)] ++ wsX120)
def wsX12_next : List Cond := .code yX12_next cX12_next 6 (some .int) :: ([.fieldLink RX12 19 "PillowCourtModel" "now" "[I", .fieldLink RX12 16 "PillowCourtModel" "paper" "[I", .methodLink RX12 131 yX12_hear, .instanceMethod yX12_hear, .selects RX12 yX12_hear yX12_hear, .initialized RX12, .code yX12_hear cX12_hear 4 (some .int), .methodLink RX12 105 yX12_hears, .instanceMethod yX12_hears, .selects RX12 yX12_hears yX12_hears, .code yX12_hears cX12_hears 4 (some .int), .methodLink RX12 101 yX12_often, .instanceMethod yX12_often, .selects RX12 yX12_often yX12_often, .code yX12_often cX12_often 3 (some .int), .methodLink RX12 134 yX12_many, .static yX12_many, .code yX12_many cX12_many 3 (some .int)] ++ wsX120)
def wsX12_asides : List Cond := .code yX12_asides cX12_asides 2 none :: ([.fieldLink RX12 28 "PillowCourtModel" "aside" "[I", .fieldLink RX12 19 "PillowCourtModel" "now" "[I"] ++ wsX120)
def wsX12_backs : List Cond := .code yX12_backs cX12_backs 2 none :: ([.fieldLink RX12 19 "PillowCourtModel" "now" "[I", .fieldLink RX12 28 "PillowCourtModel" "aside" "[I"] ++ wsX120)
def wsX12_inNights_r1 : List Cond := [Cond.constantLong RX12 160 (9999), Cond.constantLong RX12 171 (20), Cond.methodLink RX12 48 yX12_in, Cond.static yX12_in, Cond.initialized RX12, Cond.code yX12_in cX12_in 6 (some .boolean), Cond.methodLink RX12 123 yX12_isPillow, Cond.instanceMethod yX12_isPillow, Cond.selects RX12 yX12_isPillow yX12_isPillow, Cond.code yX12_isPillow cX12_isPillow 2 (some .boolean), Cond.fieldLink RX12 16 "PillowCourtModel" "paper" "[I", Cond.methodLink RX12 173 yX12_asides, Cond.instanceMethod yX12_asides, Cond.selects RX12 yX12_asides yX12_asides, Cond.code yX12_asides cX12_asides 2 none, Cond.fieldLink RX12 28 "PillowCourtModel" "aside" "[I", Cond.fieldLink RX12 19 "PillowCourtModel" "now" "[I", Cond.methodLink RX12 162 yX12_goesBy, Cond.instanceMethod yX12_goesBy, Cond.selects RX12 yX12_goesBy yX12_goesBy, Cond.code yX12_goesBy cX12_goesBy 6 (some .int), Cond.methodLink RX12 157 yX12_says, Cond.instanceMethod yX12_says, Cond.selects RX12 yX12_says yX12_says]
def wsX12_inNights_r2 : List Cond := [Cond.code yX12_says cX12_says 9 (some .int), Cond.constantLong RX12 147 (7919), Cond.constantLong RX12 149 (6151), Cond.constantLong RX12 151 (4253), Cond.constantLong RX12 153 (65521), Cond.constantLong RX12 155 (8), Cond.methodLink RX12 109 yX12_knows, Cond.instanceMethod yX12_knows, Cond.selects RX12 yX12_knows yX12_knows, Cond.code yX12_knows cX12_knows 2 (some .int), Cond.methodLink RX12 134 yX12_many, Cond.static yX12_many, Cond.code yX12_many cX12_many 3 (some .int), Cond.methodLink RX12 105 yX12_hears, Cond.instanceMethod yX12_hears, Cond.selects RX12 yX12_hears yX12_hears, Cond.code yX12_hears cX12_hears 4 (some .int), Cond.methodLink RX12 101 yX12_often, Cond.instanceMethod yX12_often, Cond.selects RX12 yX12_often yX12_often, Cond.code yX12_often cX12_often 3 (some .int), Cond.methodLink RX12 176 yX12_backs, Cond.instanceMethod yX12_backs, Cond.selects RX12 yX12_backs yX12_backs]
def wsX12_inNights_r3 : List Cond := [Cond.code yX12_backs cX12_backs 2 none]
def wsX12_inNights : List Cond := .code yX12_inNights cX12_inNights 5 (some .int) :: ((wsX12_inNights_r1 ++ (wsX12_inNights_r2 ++ wsX12_inNights_r3)) ++ wsX120)
def wsX12_notes : List Cond := .code yX12_notes cX12_notes 4 (some .int) :: ([.fieldLink RX12 93 "PillowCourtModel" "noted" "I", .fieldLink RX12 31 "PillowCourtModel" "notes" "[I", .methodLink RX12 123 yX12_isPillow, .instanceMethod yX12_isPillow, .selects RX12 yX12_isPillow yX12_isPillow, .initialized RX12, .code yX12_isPillow cX12_isPillow 2 (some .boolean), .fieldLink RX12 16 "PillowCourtModel" "paper" "[I", .methodLink RX12 48 yX12_in, .static yX12_in, .code yX12_in cX12_in 6 (some .boolean), .methodLink RX12 120 yX12_isThing, .static yX12_isThing, .code yX12_isThing cX12_isThing 1 (some .boolean), .constantLong RX12 99 (6)] ++ wsX120)
def wsX12_forget : List Cond := .code yX12_forget cX12_forget 2 (some .int) :: ([.fieldLink RX12 93 "PillowCourtModel" "noted" "I"] ++ wsX120)
def wsX12_isSo : List Cond := .code yX12_isSo cX12_isSo 4 (some .boolean) :: ([.fieldLink RX12 34 "PillowCourtModel" "news" "[I", .fieldLink RX12 16 "PillowCourtModel" "paper" "[I", .fieldLink RX12 19 "PillowCourtModel" "now" "[I", .fieldLink RX12 93 "PillowCourtModel" "noted" "I", .fieldLink RX12 31 "PillowCourtModel" "notes" "[I", .methodLink RX12 157 yX12_says, .instanceMethod yX12_says, .selects RX12 yX12_says yX12_says, .initialized RX12, .code yX12_says cX12_says 9 (some .int), .constantLong RX12 147 (7919), .constantLong RX12 149 (6151), .constantLong RX12 151 (4253), .constantLong RX12 153 (65521), .constantLong RX12 155 (8), .methodLink RX12 109 yX12_knows, .instanceMethod yX12_knows, .selects RX12 yX12_knows yX12_knows, .code yX12_knows cX12_knows 2 (some .int), .methodLink RX12 134 yX12_many, .static yX12_many, .code yX12_many cX12_many 3 (some .int)] ++ wsX120)
def wsX12_which_r1 : List Cond := [Cond.methodLink RX12 48 yX12_in, Cond.static yX12_in, Cond.initialized RX12, Cond.code yX12_in cX12_in 6 (some .boolean), Cond.methodLink RX12 179 yX12_isSo, Cond.instanceMethod yX12_isSo, Cond.selects RX12 yX12_isSo yX12_isSo, Cond.code yX12_isSo cX12_isSo 4 (some .boolean), Cond.fieldLink RX12 34 "PillowCourtModel" "news" "[I", Cond.fieldLink RX12 16 "PillowCourtModel" "paper" "[I", Cond.fieldLink RX12 19 "PillowCourtModel" "now" "[I", Cond.fieldLink RX12 93 "PillowCourtModel" "noted" "I", Cond.fieldLink RX12 31 "PillowCourtModel" "notes" "[I", Cond.methodLink RX12 157 yX12_says, Cond.instanceMethod yX12_says, Cond.selects RX12 yX12_says yX12_says, Cond.code yX12_says cX12_says 9 (some .int), Cond.constantLong RX12 147 (7919), Cond.constantLong RX12 149 (6151), Cond.constantLong RX12 151 (4253), Cond.constantLong RX12 153 (65521), Cond.constantLong RX12 155 (8), Cond.methodLink RX12 109 yX12_knows, Cond.instanceMethod yX12_knows]
def wsX12_which_r2 : List Cond := [Cond.selects RX12 yX12_knows yX12_knows, Cond.code yX12_knows cX12_knows 2 (some .int), Cond.methodLink RX12 134 yX12_many, Cond.static yX12_many, Cond.code yX12_many cX12_many 3 (some .int)]
def wsX12_which : List Cond := .code yX12_which cX12_which 6 (some .int) :: ((wsX12_which_r1 ++ wsX12_which_r2) ++ wsX120)
def wsX12_odds : List Cond := .code yX12_odds cX12_odds 17 (some .long) :: ([.constantLong RX12 182 (5), .constantLong RX12 184 (-1), .constantLong RX12 186 (10), .fieldLink RX12 16 "PillowCourtModel" "paper" "[I", .methodLink RX12 112 yX12_isPerson, .instanceMethod yX12_isPerson, .selects RX12 yX12_isPerson yX12_isPerson, .initialized RX12, .code yX12_isPerson cX12_isPerson 2 (some .boolean), .methodLink RX12 48 yX12_in, .static yX12_in, .code yX12_in cX12_in 6 (some .boolean), .methodLink RX12 120 yX12_isThing, .static yX12_isThing, .code yX12_isThing cX12_isThing 1 (some .boolean), .constantLong RX12 99 (6), .methodLink RX12 109 yX12_knows, .instanceMethod yX12_knows, .selects RX12 yX12_knows yX12_knows, .code yX12_knows cX12_knows 2 (some .int), .methodLink RX12 134 yX12_many, .static yX12_many, .code yX12_many cX12_many 3 (some .int)] ++ wsX120)
def wsX12_rate_r1 : List Cond := [Cond.constantLong RX12 182 (5), Cond.constant RX12 188 (-1000000), Cond.fieldLink RX12 189 "PillowCourtModel" "trace" "J", Cond.constantLong RX12 193 (11), Cond.constantLong RX12 195 (101), Cond.constantLong RX12 197 (1011), Cond.constantLong RX12 199 (10101), Cond.constantLong RX12 201 (100001), Cond.fieldLink RX12 19 "PillowCourtModel" "now" "[I", Cond.methodLink RX12 48 yX12_in, Cond.static yX12_in, Cond.initialized RX12, Cond.code yX12_in cX12_in 6 (some .boolean), Cond.methodLink RX12 123 yX12_isPillow, Cond.instanceMethod yX12_isPillow, Cond.selects RX12 yX12_isPillow yX12_isPillow, Cond.code yX12_isPillow cX12_isPillow 2 (some .boolean), Cond.fieldLink RX12 16 "PillowCourtModel" "paper" "[I", Cond.methodLink RX12 105 yX12_hears, Cond.instanceMethod yX12_hears, Cond.selects RX12 yX12_hears yX12_hears, Cond.code yX12_hears cX12_hears 4 (some .int), Cond.methodLink RX12 101 yX12_often, Cond.instanceMethod yX12_often]
def wsX12_rate_r2 : List Cond := [Cond.selects RX12 yX12_often yX12_often, Cond.code yX12_often cX12_often 3 (some .int), Cond.methodLink RX12 134 yX12_many, Cond.static yX12_many, Cond.code yX12_many cX12_many 3 (some .int), Cond.methodLink RX12 128 yX12_lieOn, Cond.instanceMethod yX12_lieOn, Cond.selects RX12 yX12_lieOn yX12_lieOn, Cond.code yX12_lieOn cX12_lieOn 4 (some .int)]
def wsX12_rate : List Cond := .code yX12_rate cX12_rate 6 (some .int) :: ((wsX12_rate_r1 ++ wsX12_rate_r2) ++ wsX120)
def wsX12_trace : List Cond := .code yX12_trace cX12_trace 1 (some .long) :: ([.fieldLink RX12 189 "PillowCourtModel" "trace" "J"] ++ wsX120)
def wsX12_keep : List Cond := .code yX12_keep cX12_keep 3 (some .int) :: ([.fieldLink RX12 37 "PillowCourtModel" "kept" "[I", .fieldLink RX12 19 "PillowCourtModel" "now" "[I", .methodLink RX12 48 yX12_in, .static yX12_in, .initialized RX12, .code yX12_in cX12_in 6 (some .boolean)] ++ wsX120)
def wsX12_back : List Cond := .code yX12_back cX12_back 3 (some .int) :: ([.fieldLink RX12 37 "PillowCourtModel" "kept" "[I", .fieldLink RX12 19 "PillowCourtModel" "now" "[I", .fieldLink RX12 96 "PillowCourtModel" "undos" "I", .methodLink RX12 48 yX12_in, .static yX12_in, .initialized RX12, .code yX12_in cX12_in 6 (some .boolean)] ++ wsX120)
def wsX12_count : List Cond := .code yX12_count cX12_count 2 (some .int) :: ([.fieldLink RX12 16 "PillowCourtModel" "paper" "[I", .fieldLink RX12 93 "PillowCourtModel" "noted" "I", .fieldLink RX12 52 "PillowCourtModel" "size" "I"] ++ wsX120)
def wsJ9_max_7cf53 : List Cond := .code yJ9_max_7cf53 cJ9_max_7cf53 2 (some .int) :: ([])
def wsJ9_min_7cf53 : List Cond := .code yJ9_min_7cf53 cJ9_min_7cf53 2 (some .int) :: ([])
def wsL_law_r1 : List Cond := [Cond.classLink RL 7 RX11, Cond.instantiable RX11 13, Cond.initialized RX11, Cond.classLink RL 10 RX12, Cond.instantiable RX12 18, Cond.initialized RX12, Cond.methodLink RL 9 yX11_init, Cond.instanceMethod yX11_init, Cond.code yX11_init cX11_init 1 none, Cond.methodLink RX11 3 objectInit, Cond.instanceMethod objectInit, Cond.code objectInit ⟨#[0xb1]⟩ 1 none, Cond.classLink RX11 9 RX7, Cond.instantiable RX7 6, Cond.initialized RX7, Cond.fieldLink RX11 12 "PillowCourt" "reader" "LPillowCourt$Reader;", Cond.classLink RX11 16 RX8, Cond.instantiable RX8 1, Cond.initialized RX8, Cond.fieldLink RX11 19 "PillowCourt" "scene" "LPillowCourt$Scene;", Cond.classLink RX11 23 RX9, Cond.instantiable RX9 5, Cond.initialized RX9, Cond.fieldLink RX11 26 "PillowCourt" "shelf" "LPillowCourt$Shelf;"]
def wsL_law_r2 : List Cond := [Cond.classLink RX11 30 RX0, Cond.instantiable RX0 2, Cond.initialized RX0, Cond.fieldLink RX11 33 "PillowCourt" "fitting" "LPillowCourt$Fitting;", Cond.classLink RX11 37 RX6, Cond.instantiable RX6 1, Cond.initialized RX6, Cond.classLink RX11 40 RX3, Cond.instantiable RX3 1, Cond.initialized RX3, Cond.classLink RX11 43 RX2, Cond.instantiable RX2 1, Cond.initialized RX2, Cond.classLink RX11 46 RX4, Cond.instantiable RX4 1, Cond.initialized RX4, Cond.classLink RX11 49 RX5, Cond.instantiable RX5 1, Cond.initialized RX5, Cond.classLink RX11 52 RX1, Cond.instantiable RX1 1, Cond.initialized RX1, Cond.fieldLink RX11 55 "PillowCourt" "kinds" "[LPillowCourt$KindPillow;", Cond.arrayClass .int]
def wsL_law_r3 : List Cond := [Cond.fieldLink RX11 59 "PillowCourt" "notedPillow" "[I", Cond.fieldLink RX11 63 "PillowCourt" "notedThing" "[I", Cond.fieldLink RX11 66 "PillowCourt" "notedIs" "[I", Cond.fieldLink RX11 69 "PillowCourt" "ears" "[I", Cond.classLink RX11 72 RX10, Cond.instantiable RX10 5, Cond.initialized RX10, Cond.fieldLink RX11 75 "PillowCourt" "told" "LPillowCourt$Told;", Cond.fieldLink RX11 79 "PillowCourt" "spare" "LPillowCourt$Told;", Cond.instanceMethod yX7_init, Cond.code yX7_init cX7_init 1 none, Cond.methodLink RX7 3 objectInit, Cond.fieldLink RX7 9 "PillowCourt$Reader" "letters" "[I", Cond.instanceMethod yX8_init, Cond.code yX8_init cX8_init 1 none, Cond.methodLink RX8 5 objectInit, Cond.fieldLink RX8 11 "PillowCourt$Scene" "cells" "[I", Cond.instanceMethod yX9_init, Cond.code yX9_init cX9_init 1 none, Cond.methodLink RX9 3 objectInit, Cond.fieldLink RX9 11 "PillowCourt$Shelf" "past" "[I", Cond.fieldLink RX9 17 "PillowCourt$Shelf" "images" "[I", Cond.arrayClass .boolean, Cond.fieldLink RX9 20 "PillowCourt$Shelf" "isKept" "[Z"]
def wsL_law_r4 : List Cond := [Cond.instanceMethod yX0_init, Cond.code yX0_init cX0_init 1 none, Cond.methodLink RX0 3 objectInit, Cond.fieldLink RX0 9 "PillowCourt$Fitting" "gains" "[I", Cond.fieldLink RX0 15 "PillowCourt$Fitting" "most" "[I", Cond.instanceMethod yX6_init, Cond.code yX6_init cX6_init 1 none, Cond.methodLink RX6 1 objectInit, Cond.instanceMethod yX3_init, Cond.code yX3_init cX3_init 1 none, Cond.instanceMethod yX2_init, Cond.code yX2_init cX2_init 1 none, Cond.instanceMethod yX4_init, Cond.code yX4_init cX4_init 1 none, Cond.instanceMethod yX5_init, Cond.code yX5_init cX5_init 1 none, Cond.instanceMethod yX1_init, Cond.code yX1_init cX1_init 1 none, Cond.instanceMethod yX10_init, Cond.code yX10_init cX10_init 1 none, Cond.methodLink RX10 3 objectInit, Cond.fieldLink RX10 9 "PillowCourt$Told" "knows" "[I", Cond.fieldLink RX10 15 "PillowCourt$Told" "talks" "[I", Cond.fieldLink RX10 18 "PillowCourt$Told" "clashing" "[I"]
def wsL_law_r5 : List Cond := [Cond.fieldLink RX10 21 "PillowCourt$Told" "pillows" "I", Cond.methodLink RX11 82 yX8_begin, Cond.instanceMethod yX8_begin, Cond.selects RX8 yX8_begin yX8_begin, Cond.code yX8_begin cX8_begin 3 none, Cond.methodLink RX8 15 yJ7_fill_53178, Cond.static yJ7_fill_53178, Cond.initialized RJ7, Cond.code yJ7_fill_53178 cJ7_fill_53178 4 none, Cond.methodLink RX8 21 yX10_hasPerson, Cond.instanceMethod yX10_hasPerson, Cond.selects RX10 yX10_hasPerson yX10_hasPerson, Cond.code yX10_hasPerson cX10_hasPerson 2 (some .boolean), Cond.fieldLink RX10 31 "PillowCourt$Told" "people" "I", Cond.methodLink RX8 27 yX10_hasPillow, Cond.instanceMethod yX10_hasPillow, Cond.selects RX10 yX10_hasPillow yX10_hasPillow, Cond.code yX10_hasPillow cX10_hasPillow 2 (some .boolean), Cond.methodLink RX8 30 yX8_lay, Cond.instanceMethod yX8_lay, Cond.selects RX8 yX8_lay yX8_lay, Cond.code yX8_lay cX8_lay 3 none, Cond.methodLink RL 12 yX12_init, Cond.instanceMethod yX12_init]
def wsL_law_r6 : List Cond := [Cond.code yX12_init cX12_init 1 none, Cond.methodLink RX12 1 objectInit, Cond.fieldLink RX12 7 "PillowCourtModel" "text" "[I", Cond.fieldLink RX12 13 "PillowCourtModel" "read" "[I", Cond.fieldLink RX12 16 "PillowCourtModel" "paper" "[I", Cond.fieldLink RX12 19 "PillowCourtModel" "now" "[I", Cond.fieldLink RX12 22 "PillowCourtModel" "undone" "[I", Cond.fieldLink RX12 25 "PillowCourtModel" "fits" "[I", Cond.fieldLink RX12 28 "PillowCourtModel" "aside" "[I", Cond.fieldLink RX12 31 "PillowCourtModel" "notes" "[I", Cond.fieldLink RX12 34 "PillowCourtModel" "news" "[I", Cond.fieldLink RX12 37 "PillowCourtModel" "kept" "[I", Cond.methodLink RX12 40 yX12_plain, Cond.instanceMethod yX12_plain, Cond.selects RX12 yX12_plain yX12_plain, Cond.code yX12_plain cX12_plain 2 none, Cond.methodLink RX12 43 yX12_takes, Cond.instanceMethod yX12_takes, Cond.selects RX12 yX12_takes yX12_takes, Cond.code yX12_takes cX12_takes 2 none, Cond.fieldLink RX12 93 "PillowCourtModel" "noted" "I", Cond.fieldLink RX12 96 "PillowCourtModel" "undos" "I", Cond.methodLink RL 13 yX11_type, Cond.instanceMethod yX11_type]
def wsL_law_r7 : List Cond := [Cond.selects RX11 yX11_type yX11_type, Cond.code yX11_type cX11_type 2 (some .int), Cond.fieldLink RX11 90 "PillowCourt$Reader" "length" "I", Cond.methodLink RX11 86 yX7_append, Cond.instanceMethod yX7_append, Cond.selects RX7 yX7_append yX7_append, Cond.code yX7_append cX7_append 2 (some .boolean), Cond.fieldLink RX7 15 "PillowCourt$Reader" "length" "I", Cond.methodLink RL 17 yX12_type, Cond.instanceMethod yX12_type, Cond.selects RX12 yX12_type yX12_type, Cond.code yX12_type cX12_type 2 (some .int), Cond.constantLong RX12 46 (255), Cond.fieldLink RX12 52 "PillowCourtModel" "size" "I", Cond.methodLink RX12 48 yX12_in, Cond.static yX12_in, Cond.code yX12_in cX12_in 6 (some .boolean), Cond.methodLink RL 18 yX11_clear, Cond.instanceMethod yX11_clear, Cond.selects RX11 yX11_clear yX11_clear, Cond.code yX11_clear cX11_clear 1 (some .int), Cond.methodLink RX11 94 yX7_empty, Cond.instanceMethod yX7_empty, Cond.selects RX7 yX7_empty yX7_empty]
def wsL_law_r8 : List Cond := [Cond.code yX7_empty cX7_empty 2 (some .int), Cond.methodLink RL 22 yX12_clear, Cond.instanceMethod yX12_clear, Cond.selects RX12 yX12_clear yX12_clear, Cond.code yX12_clear cX12_clear 2 (some .int), Cond.methodLink RL 23 yX11_court, Cond.instanceMethod yX11_court, Cond.selects RX11 yX11_court yX11_court, Cond.code yX11_court cX11_court 3 (some .int), Cond.fieldLink RX11 104 "PillowCourt" "noted" "I", Cond.methodLink RX11 98 yX7_read, Cond.instanceMethod yX7_read, Cond.selects RX7 yX7_read yX7_read, Cond.code yX7_read cX7_read 3 (some .int), Cond.fieldLink RX7 24 "PillowCourt$Reader" "place" "I", Cond.fieldLink RX7 30 "PillowCourt$Reader" "token" "I", Cond.fieldLink RX7 37 "PillowCourt$Reader" "start" "I", Cond.methodLink RX7 19 yX10_begin, Cond.instanceMethod yX10_begin, Cond.selects RX10 yX10_begin yX10_begin, Cond.code yX10_begin cX10_begin 1 none, Cond.methodLink RX10 25 yJ7_fill_53178, Cond.methodLink RX7 27 yX7_advance, Cond.instanceMethod yX7_advance]
def wsL_law_r9 : List Cond := [Cond.selects RX7 yX7_advance yX7_advance, Cond.code yX7_advance cX7_advance 1 none, Cond.methodLink RX7 74 yX7_isDigit, Cond.static yX7_isDigit, Cond.code yX7_isDigit cX7_isDigit 1 (some .boolean), Cond.methodLink RX7 78 yX7_scanNumber, Cond.instanceMethod yX7_scanNumber, Cond.selects RX7 yX7_scanNumber yX7_scanNumber, Cond.code yX7_scanNumber cX7_scanNumber 2 (some .int), Cond.fieldLink RX7 57 "PillowCourt$Reader" "number" "I", Cond.methodLink RX7 82 yX7_tokenOf, Cond.static yX7_tokenOf, Cond.code yX7_tokenOf cX7_tokenOf 1 (some .int), Cond.methodLink RX7 33 yX7_readItem, Cond.instanceMethod yX7_readItem, Cond.selects RX7 yX7_readItem yX7_readItem, Cond.code yX7_readItem cX7_readItem 3 (some .boolean), Cond.fieldLink RX7 44 "PillowCourt$Told" "people" "I", Cond.methodLink RX7 40 yX7_readPillows, Cond.instanceMethod yX7_readPillows, Cond.selects RX7 yX7_readPillows yX7_readPillows, Cond.code yX7_readPillows cX7_readPillows 2 (some .boolean), Cond.fieldLink RX7 60 "PillowCourt$Told" "pillows" "I", Cond.methodLink RX7 53 yX7_readNumber]
def wsL_law_r10 : List Cond := [Cond.instanceMethod yX7_readNumber, Cond.selects RX7 yX7_readNumber yX7_readNumber, Cond.code yX7_readNumber cX7_readNumber 3 (some .boolean), Cond.methodLink RX7 63 yX7_readItemEnd, Cond.instanceMethod yX7_readItemEnd, Cond.selects RX7 yX7_readItemEnd yX7_readItemEnd, Cond.code yX7_readItemEnd cX7_readItemEnd 1 (some .boolean), Cond.methodLink RX7 47 yX7_readPerson, Cond.instanceMethod yX7_readPerson, Cond.selects RX7 yX7_readPerson yX7_readPerson, Cond.code yX7_readPerson cX7_readPerson 3 (some .boolean), Cond.methodLink RX7 67 yX10_addPerson, Cond.instanceMethod yX10_addPerson, Cond.selects RX10 yX10_addPerson yX10_addPerson, Cond.code yX10_addPerson cX10_addPerson 3 none, Cond.methodLink RX7 50 yX7_readClash, Cond.instanceMethod yX7_readClash, Cond.selects RX7 yX7_readClash yX7_readClash, Cond.code yX7_readClash cX7_readClash 3 (some .boolean), Cond.methodLink RX7 71 yX10_addClash, Cond.instanceMethod yX10_addClash, Cond.selects RX10 yX10_addClash yX10_addClash, Cond.code yX10_addClash cX10_addClash 3 none, Cond.methodLink RX11 102 yX9_empty]
def wsL_law_r11 : List Cond := [Cond.instanceMethod yX9_empty, Cond.selects RX9 yX9_empty yX9_empty, Cond.code yX9_empty cX9_empty 2 none, Cond.fieldLink RX9 24 "PillowCourt$Shelf" "undoable" "I", Cond.methodLink RL 26 yX12_court, Cond.instanceMethod yX12_court, Cond.selects RX12 yX12_court yX12_court, Cond.code yX12_court cX12_court 2 (some .int), Cond.fieldLink RX12 60 "PillowCourtModel" "at" "I", Cond.fieldLink RX12 66 "PillowCourtModel" "token" "I", Cond.fieldLink RX12 63 "PillowCourtModel" "begin" "I", Cond.methodLink RX12 76 yX12_reads, Cond.instanceMethod yX12_reads, Cond.selects RX12 yX12_reads yX12_reads, Cond.code yX12_reads cX12_reads 1 none, Cond.fieldLink RX12 73 "PillowCourtModel" "told" "I", Cond.methodLink RX12 69 yX12_isFigure, Cond.static yX12_isFigure, Cond.code yX12_isFigure cX12_isFigure 1 (some .boolean), Cond.constantLong RX12 56 (48), Cond.constantLong RX12 58 (57), Cond.methodLink RX12 90 yX12_readItem, Cond.instanceMethod yX12_readItem, Cond.selects RX12 yX12_readItem yX12_readItem]
def wsL_law_r12 : List Cond := [Cond.code yX12_readItem cX12_readItem 3 (some .boolean), Cond.methodLink RX12 79 yX12_number, Cond.instanceMethod yX12_number, Cond.selects RX12 yX12_number yX12_number, Cond.code yX12_number cX12_number 3 (some .boolean), Cond.methodLink RX12 83 yX12_itemEnds, Cond.instanceMethod yX12_itemEnds, Cond.selects RX12 yX12_itemEnds yX12_itemEnds, Cond.code yX12_itemEnds cX12_itemEnds 1 (some .boolean), Cond.methodLink RX12 87 yX12_readClash, Cond.instanceMethod yX12_readClash, Cond.selects RX12 yX12_readClash yX12_readClash, Cond.code yX12_readClash cX12_readClash 2 (some .boolean), Cond.methodLink RL 27 yX11_person, Cond.instanceMethod yX11_person, Cond.selects RX11 yX11_person yX11_person, Cond.code yX11_person cX11_person 3 (some .int), Cond.fieldLink RX11 110 "PillowCourt$Told" "knows" "[I", Cond.fieldLink RX11 113 "PillowCourt$Told" "talks" "[I", Cond.methodLink RX11 107 yX10_hasPerson, Cond.methodLink RX11 116 yX8_bedOf, Cond.instanceMethod yX8_bedOf, Cond.selects RX8 yX8_bedOf yX8_bedOf, Cond.code yX8_bedOf cX8_bedOf 2 (some .int)]
def wsL_law_r13 : List Cond := [Cond.methodLink RX11 120 yX11_safePillows, Cond.instanceMethod yX11_safePillows, Cond.selects RX11 yX11_safePillows yX11_safePillows, Cond.code yX11_safePillows cX11_safePillows 5 (some .int), Cond.fieldLink RX11 226 "PillowCourt$Told" "pillows" "I", Cond.methodLink RX11 135 yX8_sleepersOn, Cond.instanceMethod yX8_sleepersOn, Cond.selects RX8 yX8_sleepersOn yX8_sleepersOn, Cond.code yX8_sleepersOn cX8_sleepersOn 4 (some .int), Cond.methodLink RX8 53 yX8_bedOf, Cond.methodLink RX11 207 yX10_knownTo, Cond.instanceMethod yX10_knownTo, Cond.selects RX10 yX10_knownTo yX10_knownTo, Cond.code yX10_knownTo cX10_knownTo 4 (some .int), Cond.methodLink RL 31 yX12_person, Cond.instanceMethod yX12_person, Cond.selects RX12 yX12_person yX12_person, Cond.code yX12_person cX12_person 3 (some .int), Cond.constantLong RX12 115 (3), Cond.methodLink RX12 112 yX12_isPerson, Cond.instanceMethod yX12_isPerson, Cond.selects RX12 yX12_isPerson yX12_isPerson, Cond.code yX12_isPerson cX12_isPerson 2 (some .boolean), Cond.methodLink RX12 117 yX12_safe]
def wsL_law_r14 : List Cond := [Cond.instanceMethod yX12_safe, Cond.selects RX12 yX12_safe yX12_safe, Cond.code yX12_safe cX12_safe 5 (some .int), Cond.methodLink RX12 109 yX12_knows, Cond.instanceMethod yX12_knows, Cond.selects RX12 yX12_knows yX12_knows, Cond.code yX12_knows cX12_knows 2 (some .int), Cond.methodLink RL 32 yX11_clashes, Cond.instanceMethod yX11_clashes, Cond.selects RX11 yX11_clashes yX11_clashes, Cond.code yX11_clashes cX11_clashes 2 (some .int), Cond.fieldLink RX11 126 "PillowCourt$Told" "clashing" "[I", Cond.methodLink RX11 123 yX11_isThing, Cond.static yX11_isThing, Cond.code yX11_isThing cX11_isThing 1 (some .boolean), Cond.methodLink RL 35 yX12_clashes, Cond.instanceMethod yX12_clashes, Cond.selects RX12 yX12_clashes yX12_clashes, Cond.code yX12_clashes cX12_clashes 2 (some .int), Cond.methodLink RX12 120 yX12_isThing, Cond.static yX12_isThing, Cond.code yX12_isThing cX12_isThing 1 (some .boolean), Cond.constantLong RX12 99 (6), Cond.methodLink RL 36 yX11_pillow]
def wsL_law_r15 : List Cond := [Cond.instanceMethod yX11_pillow, Cond.selects RX11 yX11_pillow yX11_pillow, Cond.code yX11_pillow cX11_pillow 3 (some .int), Cond.methodLink RX11 129 yX10_hasPillow, Cond.methodLink RX11 132 yX8_thingsOn, Cond.instanceMethod yX8_thingsOn, Cond.selects RX8 yX8_thingsOn yX8_thingsOn, Cond.code yX8_thingsOn cX8_thingsOn 4 (some .int), Cond.methodLink RX8 40 yX8_times, Cond.instanceMethod yX8_times, Cond.selects RX8 yX8_times yX8_times, Cond.code yX8_times cX8_times 3 (some .int), Cond.methodLink RX11 138 yX8_isExamined, Cond.instanceMethod yX8_isExamined, Cond.selects RX8 yX8_isExamined yX8_isExamined, Cond.code yX8_isExamined cX8_isExamined 2 (some .boolean), Cond.methodLink RL 39 yX12_pillow, Cond.instanceMethod yX12_pillow, Cond.selects RX12 yX12_pillow yX12_pillow, Cond.code yX12_pillow cX12_pillow 3 (some .int), Cond.constantLong RX12 126 (2), Cond.methodLink RX12 123 yX12_isPillow, Cond.instanceMethod yX12_isPillow, Cond.selects RX12 yX12_isPillow yX12_isPillow]
def wsL_law_r16 : List Cond := [Cond.code yX12_isPillow cX12_isPillow 2 (some .boolean), Cond.methodLink RX12 105 yX12_hears, Cond.instanceMethod yX12_hears, Cond.selects RX12 yX12_hears yX12_hears, Cond.code yX12_hears cX12_hears 4 (some .int), Cond.methodLink RX12 101 yX12_often, Cond.instanceMethod yX12_often, Cond.selects RX12 yX12_often yX12_often, Cond.code yX12_often cX12_often 3 (some .int), Cond.methodLink RX12 128 yX12_lieOn, Cond.instanceMethod yX12_lieOn, Cond.selects RX12 yX12_lieOn yX12_lieOn, Cond.code yX12_lieOn cX12_lieOn 4 (some .int), Cond.methodLink RL 40 yX11_heard, Cond.instanceMethod yX11_heard, Cond.selects RX11 yX11_heard yX11_heard, Cond.code yX11_heard cX11_heard 3 (some .int), Cond.methodLink RX11 141 yX8_times, Cond.methodLink RL 43 yX12_heard, Cond.instanceMethod yX12_heard, Cond.selects RX12 yX12_heard yX12_heard, Cond.code yX12_heard cX12_heard 3 (some .int), Cond.methodLink RL 44 yX11_now, Cond.instanceMethod yX11_now]
def wsL_law_r17 : List Cond := [Cond.selects RX11 yX11_now yX11_now, Cond.code yX11_now cX11_now 2 (some .int), Cond.fieldLink RX11 160 "PillowCourt$Shelf" "undoable" "I", Cond.methodLink RX11 145 yX8_nightNumber, Cond.instanceMethod yX8_nightNumber, Cond.selects RX8 yX8_nightNumber yX8_nightNumber, Cond.code yX8_nightNumber cX8_nightNumber 1 (some .int), Cond.methodLink RX11 148 yX8_knownThings, Cond.instanceMethod yX8_knownThings, Cond.selects RX8 yX8_knownThings yX8_knownThings, Cond.code yX8_knownThings cX8_knownThings 1 (some .int), Cond.methodLink RX8 47 yX8_thingsOnSet, Cond.instanceMethod yX8_thingsOnSet, Cond.selects RX8 yX8_thingsOnSet yX8_thingsOnSet, Cond.code yX8_thingsOnSet cX8_thingsOnSet 4 (some .int), Cond.methodLink RX8 43 yX8_thingsOn, Cond.methodLink RX11 151 yX8_allThings, Cond.instanceMethod yX8_allThings, Cond.selects RX8 yX8_allThings yX8_allThings, Cond.code yX8_allThings cX8_allThings 1 (some .int), Cond.methodLink RX11 154 yX10_clashesWithin, Cond.instanceMethod yX10_clashesWithin, Cond.selects RX10 yX10_clashesWithin yX10_clashesWithin, Cond.code yX10_clashesWithin cX10_clashesWithin 4 (some .int)]
def wsL_law_r18 : List Cond := [Cond.methodLink RX10 34 yJ6_bitCount_0f7a4, Cond.static yJ6_bitCount_0f7a4, Cond.initialized RJ6, Cond.code yJ6_bitCount_0f7a4 cJ6_bitCount_0f7a4 1 (some .int), Cond.constant RJ6 265 (1431655765), Cond.constant RJ6 266 (858993459), Cond.constant RJ6 267 (252645135), Cond.methodLink RX11 157 yX10_knownToOne, Cond.instanceMethod yX10_knownToOne, Cond.selects RX10 yX10_knownToOne yX10_knownToOne, Cond.code yX10_knownToOne cX10_knownToOne 4 (some .int), Cond.methodLink RL 47 yX12_now, Cond.instanceMethod yX12_now, Cond.selects RX12 yX12_now yX12_now, Cond.code yX12_now cX12_now 2 (some .int), Cond.methodLink RX12 131 yX12_hear, Cond.instanceMethod yX12_hear, Cond.selects RX12 yX12_hear yX12_hear, Cond.code yX12_hear cX12_hear 4 (some .int), Cond.methodLink RX12 137 yX12_against, Cond.instanceMethod yX12_against, Cond.selects RX12 yX12_against yX12_against, Cond.code yX12_against cX12_against 4 (some .int), Cond.methodLink RX12 134 yX12_many]
def wsL_law_r19 : List Cond := [Cond.static yX12_many, Cond.code yX12_many cX12_many 3 (some .int), Cond.methodLink RX12 141 yX12_alone, Cond.instanceMethod yX12_alone, Cond.selects RX12 yX12_alone yX12_alone, Cond.code yX12_alone cX12_alone 4 (some .int), Cond.methodLink RL 48 yX11_lays, Cond.instanceMethod yX11_lays, Cond.selects RX11 yX11_lays yX11_lays, Cond.code yX11_lays cX11_lays 4 (some .int), Cond.methodLink RX11 163 yX9_remember, Cond.instanceMethod yX9_remember, Cond.selects RX9 yX9_remember yX9_remember, Cond.code yX9_remember cX9_remember 2 none, Cond.fieldLink RX9 28 "PillowCourt$Scene" "cells" "[I", Cond.fieldLink RX9 31 "PillowCourt$Shelf" "top" "I", Cond.methodLink RX9 34 arraycopyName, Cond.native arraycopyName, Cond.static arraycopyName, Cond.initialized "java/lang/System", Cond.methodLink RX9 40 Lib.Math.min.name, Cond.static Lib.Math.min.name, Cond.initialized "java/lang/Math", Cond.code Lib.Math.min.name Lib.Math.min.code 2 (some .int)]
def wsL_law_r20 : List Cond := [Cond.methodLink RX11 167 yX8_lay, Cond.methodLink RL 51 yX12_lays, Cond.instanceMethod yX12_lays, Cond.selects RX12 yX12_lays yX12_lays, Cond.code yX12_lays cX12_lays 4 (some .int), Cond.methodLink RX12 144 yX12_keepsUndo, Cond.instanceMethod yX12_keepsUndo, Cond.selects RX12 yX12_keepsUndo yX12_keepsUndo, Cond.code yX12_keepsUndo cX12_keepsUndo 2 none, Cond.methodLink RL 52 yX11_night, Cond.instanceMethod yX11_night, Cond.selects RX11 yX11_night yX11_night, Cond.code yX11_night cX11_night 2 (some .int), Cond.methodLink RX11 171 yX11_isDraw, Cond.static yX11_isDraw, Cond.code yX11_isDraw cX11_isDraw 1 (some .boolean), Cond.methodLink RX11 174 yX8_sleep, Cond.instanceMethod yX8_sleep, Cond.selects RX8 yX8_sleep yX8_sleep, Cond.code yX8_sleep cX8_sleep 6 (some .int), Cond.fieldLink RX8 56 "PillowCourt$Told" "people" "I", Cond.methodLink RX8 60 yX8_nightNumber, Cond.methodLink RX8 64 yX10_thingSaid, Cond.instanceMethod yX10_thingSaid]
def wsL_law_r21 : List Cond := [Cond.selects RX10 yX10_thingSaid yX10_thingSaid, Cond.code yX10_thingSaid cX10_thingSaid 8 (some .int), Cond.constantLong RX10 40 (7919), Cond.constantLong RX10 42 (6151), Cond.constantLong RX10 44 (4253), Cond.constantLong RX10 46 (65521), Cond.constantLong RX10 48 (8), Cond.methodLink RX10 50 yX10_thingAt, Cond.static yX10_thingAt, Cond.code yX10_thingAt cX10_thingAt 4 (some .int), Cond.methodLink RX8 68 yX8_hear, Cond.instanceMethod yX8_hear, Cond.selects RX8 yX8_hear yX8_hear, Cond.code yX8_hear cX8_hear 3 none, Cond.methodLink RX8 71 yX8_setTimes, Cond.instanceMethod yX8_setTimes, Cond.selects RX8 yX8_setTimes yX8_setTimes, Cond.code yX8_setTimes cX8_setTimes 4 none, Cond.methodLink RX8 34 Lib.Math.min.name, Cond.methodLink RL 55 yX12_night, Cond.instanceMethod yX12_night, Cond.selects RX12 yX12_night yX12_night, Cond.code yX12_night cX12_night 2 (some .int), Cond.constantLong RX12 160 (9999)]
def wsL_law_r22 : List Cond := [Cond.methodLink RX12 162 yX12_goesBy, Cond.instanceMethod yX12_goesBy, Cond.selects RX12 yX12_goesBy yX12_goesBy, Cond.code yX12_goesBy cX12_goesBy 6 (some .int), Cond.methodLink RX12 157 yX12_says, Cond.instanceMethod yX12_says, Cond.selects RX12 yX12_says yX12_says, Cond.code yX12_says cX12_says 9 (some .int), Cond.constantLong RX12 147 (7919), Cond.constantLong RX12 149 (6151), Cond.constantLong RX12 151 (4253), Cond.constantLong RX12 153 (65521), Cond.constantLong RX12 155 (8), Cond.methodLink RL 56 yX11_slips, Cond.instanceMethod yX11_slips, Cond.selects RX11 yX11_slips yX11_slips, Cond.code yX11_slips cX11_slips 3 (some .int), Cond.methodLink RX11 178 yX8_slip, Cond.instanceMethod yX8_slip, Cond.selects RX8 yX8_slip yX8_slip, Cond.code yX8_slip cX8_slip 3 none, Cond.methodLink RX11 182 yJ6_bitCount_0f7a4, Cond.methodLink RL 59 yX12_slips, Cond.instanceMethod yX12_slips]
def wsL_law_r23 : List Cond := [Cond.selects RX12 yX12_slips yX12_slips, Cond.code yX12_slips cX12_slips 4 (some .int), Cond.methodLink RL 60 yX11_mixes, Cond.instanceMethod yX11_mixes, Cond.selects RX11 yX11_mixes yX11_mixes, Cond.code yX11_mixes cX11_mixes 3 (some .int), Cond.methodLink RX11 187 yX11_areTwoPillows, Cond.instanceMethod yX11_areTwoPillows, Cond.selects RX11 yX11_areTwoPillows yX11_areTwoPillows, Cond.code yX11_areTwoPillows cX11_areTwoPillows 3 (some .boolean), Cond.methodLink RX11 191 yX8_mix, Cond.instanceMethod yX8_mix, Cond.selects RX8 yX8_mix yX8_mix, Cond.code yX8_mix cX8_mix 5 none, Cond.methodLink RL 63 yX12_mixes, Cond.instanceMethod yX12_mixes, Cond.selects RX12 yX12_mixes yX12_mixes, Cond.code yX12_mixes cX12_mixes 5 (some .int), Cond.methodLink RL 64 yX11_examines, Cond.instanceMethod yX11_examines, Cond.selects RX11 yX11_examines yX11_examines, Cond.code yX11_examines cX11_examines 3 (some .int), Cond.methodLink RX11 194 yX8_examine, Cond.instanceMethod yX8_examine]
def wsL_law_r24 : List Cond := [Cond.selects RX8 yX8_examine yX8_examine, Cond.code yX8_examine cX8_examine 2 none, Cond.methodLink RL 67 yX12_examines, Cond.instanceMethod yX12_examines, Cond.selects RX12 yX12_examines yX12_examines, Cond.code yX12_examines cX12_examines 3 (some .int), Cond.methodLink RL 68 yX11_undo, Cond.instanceMethod yX11_undo, Cond.selects RX11 yX11_undo yX11_undo, Cond.code yX11_undo cX11_undo 1 (some .int), Cond.methodLink RX11 197 yX9_restoreLatest, Cond.instanceMethod yX9_restoreLatest, Cond.selects RX9 yX9_restoreLatest yX9_restoreLatest, Cond.code yX9_restoreLatest cX9_restoreLatest 2 (some .boolean), Cond.methodLink RL 71 yX12_undo, Cond.instanceMethod yX12_undo, Cond.selects RX12 yX12_undo yX12_undo, Cond.code yX12_undo cX12_undo 2 (some .int), Cond.methodLink RL 72 yX11_whose, Cond.instanceMethod yX11_whose, Cond.selects RX11 yX11_whose yX11_whose, Cond.code yX11_whose cX11_whose 7 (some .int), Cond.fieldLink RX11 204 "PillowCourt$Told" "people" "I", Cond.methodLink RX11 201 yX11_isZeroOrOne]
def wsL_law_r25 : List Cond := [Cond.static yX11_isZeroOrOne, Cond.code yX11_isZeroOrOne cX11_isZeroOrOne 1 (some .boolean), Cond.methodLink RX11 210 yX11_fewerOf, Cond.static yX11_fewerOf, Cond.code yX11_fewerOf cX11_fewerOf 2 (some .int), Cond.methodLink RL 75 yX12_whose, Cond.instanceMethod yX12_whose, Cond.selects RX12 yX12_whose yX12_whose, Cond.code yX12_whose cX12_whose 9 (some .int), Cond.methodLink RL 76 yX11_so, Cond.instanceMethod yX11_so, Cond.selects RX11 yX11_so yX11_so, Cond.code yX11_so cX11_so 6 (some .int), Cond.methodLink RX11 213 yX8_timesOfSet, Cond.instanceMethod yX8_timesOfSet, Cond.selects RX8 yX8_timesOfSet yX8_timesOfSet, Cond.code yX8_timesOfSet cX8_timesOfSet 4 (some .int), Cond.methodLink RX8 50 yX8_timesOn, Cond.instanceMethod yX8_timesOn, Cond.selects RX8 yX8_timesOn yX8_timesOn, Cond.code yX8_timesOn cX8_timesOn 5 (some .int), Cond.methodLink RL 79 yX12_so, Cond.instanceMethod yX12_so, Cond.selects RX12 yX12_so yX12_so]
def wsL_law_r26 : List Cond := [Cond.code yX12_so cX12_so 9 (some .int), Cond.methodLink RL 80 yX11_tally, Cond.instanceMethod yX11_tally, Cond.selects RX11 yX11_tally yX11_tally, Cond.code yX11_tally cX11_tally 3 (some .int), Cond.methodLink RL 83 yX12_tally, Cond.instanceMethod yX12_tally, Cond.selects RX12 yX12_tally yX12_tally, Cond.code yX12_tally cX12_tally 3 (some .int), Cond.methodLink RL 84 yX11_fit, Cond.instanceMethod yX11_fit, Cond.selects RX11 yX11_fit yX11_fit, Cond.code yX11_fit cX11_fit 2 (some .int), Cond.methodLink RX11 216 yX0_weigh, Cond.instanceMethod yX0_weigh, Cond.selects RX0 yX0_weigh yX0_weigh, Cond.code yX0_weigh cX0_weigh 5 none, Cond.fieldLink RX0 24 "PillowCourt$Told" "people" "I", Cond.fieldLink RX0 30 "PillowCourt$Told" "knows" "[I", Cond.methodLink RX0 18 yJ7_fill_53178, Cond.methodLink RX0 33 yX8_timesOn, Cond.methodLink RX0 39 yX0_bestOf, Cond.instanceMethod yX0_bestOf, Cond.selects RX0 yX0_bestOf yX0_bestOf]
def wsL_law_r27 : List Cond := [Cond.code yX0_bestOf cX0_bestOf 6 (some .int), Cond.fieldLink RX0 47 "PillowCourt$Told" "pillows" "I", Cond.methodLink RX0 50 Lib.Math.max.name, Cond.static Lib.Math.max.name, Cond.code Lib.Math.max.name Lib.Math.max.code 2 (some .int), Cond.methodLink RX0 43 yX0_mostWith, Cond.instanceMethod yX0_mostWith, Cond.selects RX0 yX0_mostWith yX0_mostWith, Cond.code yX0_mostWith cX0_mostWith 5 (some .int), Cond.methodLink RX11 220 yX0_explained, Cond.instanceMethod yX0_explained, Cond.selects RX0 yX0_explained yX0_explained, Cond.code yX0_explained cX0_explained 1 (some .int), Cond.methodLink RX11 223 yX0_pillowOf, Cond.instanceMethod yX0_pillowOf, Cond.selects RX0 yX0_pillowOf yX0_pillowOf, Cond.code yX0_pillowOf cX0_pillowOf 6 (some .int), Cond.methodLink RX0 55 yX0_firstBest, Cond.instanceMethod yX0_firstBest, Cond.selects RX0 yX0_firstBest yX0_firstBest, Cond.code yX0_firstBest cX0_firstBest 6 (some .int), Cond.methodLink RL 87 yX12_fit, Cond.instanceMethod yX12_fit, Cond.selects RX12 yX12_fit yX12_fit]
def wsL_law_r28 : List Cond := [Cond.code yX12_fit cX12_fit 8 (some .int), Cond.methodLink RX12 168 yX12_works, Cond.instanceMethod yX12_works, Cond.selects RX12 yX12_works yX12_works, Cond.code yX12_works cX12_works 6 none, Cond.methodLink RX12 165 yX12_explains, Cond.instanceMethod yX12_explains, Cond.selects RX12 yX12_explains yX12_explains, Cond.code yX12_explains cX12_explains 5 (some .int), Cond.methodLink RL 88 yX11_looks, Cond.instanceMethod yX11_looks, Cond.selects RX11 yX11_looks yX11_looks, Cond.code yX11_looks cX11_looks 4 (some .int), Cond.methodLink RX11 229 yX8_thingsOnSet, Cond.methodLink RL 91 yX12_looks, Cond.instanceMethod yX12_looks, Cond.selects RX12 yX12_looks yX12_looks, Cond.code yX12_looks cX12_looks 5 (some .int), Cond.methodLink RL 92 yX11_next, Cond.instanceMethod yX11_next, Cond.selects RX11 yX11_next yX11_next, Cond.code yX11_next cX11_next 6 (some .int), Cond.methodLink RL 95 yX12_next, Cond.instanceMethod yX12_next]
def wsL_law_r29 : List Cond := [Cond.selects RX12 yX12_next yX12_next, Cond.code yX12_next cX12_next 6 (some .int), Cond.methodLink RL 96 yX11_inNights, Cond.instanceMethod yX11_inNights, Cond.selects RX11 yX11_inNights yX11_inNights, Cond.code yX11_inNights cX11_inNights 6 (some .int), Cond.methodLink RX11 232 yX11_listen, Cond.instanceMethod yX11_listen, Cond.selects RX11 yX11_listen yX11_listen, Cond.code yX11_listen cX11_listen 6 none, Cond.methodLink RX11 268 yJ7_fill_53178, Cond.methodLink RX11 274 yX10_thingSaid, Cond.methodLink RL 100 yX12_inNights, Cond.instanceMethod yX12_inNights, Cond.selects RX12 yX12_inNights yX12_inNights, Cond.code yX12_inNights cX12_inNights 5 (some .int), Cond.constantLong RX12 171 (20), Cond.methodLink RX12 173 yX12_asides, Cond.instanceMethod yX12_asides, Cond.selects RX12 yX12_asides yX12_asides, Cond.code yX12_asides cX12_asides 2 none, Cond.methodLink RX12 176 yX12_backs, Cond.instanceMethod yX12_backs, Cond.selects RX12 yX12_backs yX12_backs]
def wsL_law_r30 : List Cond := [Cond.code yX12_backs cX12_backs 2 none, Cond.methodLink RL 101 yX11_notes, Cond.instanceMethod yX11_notes, Cond.selects RX11 yX11_notes yX11_notes, Cond.code yX11_notes cX11_notes 4 (some .int), Cond.methodLink RL 104 yX12_notes, Cond.instanceMethod yX12_notes, Cond.selects RX12 yX12_notes yX12_notes, Cond.code yX12_notes cX12_notes 4 (some .int), Cond.methodLink RL 105 yX11_forget, Cond.instanceMethod yX11_forget, Cond.selects RX11 yX11_forget yX11_forget, Cond.code yX11_forget cX11_forget 2 (some .int), Cond.methodLink RL 108 yX12_forget, Cond.instanceMethod yX12_forget, Cond.selects RX12 yX12_forget yX12_forget, Cond.code yX12_forget cX12_forget 2 (some .int), Cond.methodLink RL 109 yX11_which, Cond.instanceMethod yX11_which, Cond.selects RX11 yX11_which yX11_which, Cond.code yX11_which cX11_which 5 (some .int), Cond.methodLink RX11 235 yX11_agreesWithNotes, Cond.instanceMethod yX11_agreesWithNotes, Cond.selects RX11 yX11_agreesWithNotes yX11_agreesWithNotes]
def wsL_law_r31 : List Cond := [Cond.code yX11_agreesWithNotes cX11_agreesWithNotes 3 (some .boolean), Cond.methodLink RL 112 yX12_which, Cond.instanceMethod yX12_which, Cond.selects RX12 yX12_which yX12_which, Cond.code yX12_which cX12_which 6 (some .int), Cond.methodLink RX12 179 yX12_isSo, Cond.instanceMethod yX12_isSo, Cond.selects RX12 yX12_isSo yX12_isSo, Cond.code yX12_isSo cX12_isSo 4 (some .boolean), Cond.methodLink RL 113 yX11_odds, Cond.instanceMethod yX11_odds, Cond.selects RX11 yX11_odds yX11_odds, Cond.code yX11_odds cX11_odds 10 (some .long), Cond.constantLong RX11 239 (-1), Cond.methodLink RX11 241 yX11_commonDivisor, Cond.static yX11_commonDivisor, Cond.code yX11_commonDivisor cX11_commonDivisor 6 (some .int), Cond.methodLink RX11 244 yX11_power, Cond.static yX11_power, Cond.code yX11_power cX11_power 5 (some .long), Cond.methodLink RL 117 yX12_odds, Cond.instanceMethod yX12_odds, Cond.selects RX12 yX12_odds yX12_odds, Cond.code yX12_odds cX12_odds 17 (some .long)]
def wsL_law_r32 : List Cond := [Cond.constantLong RX12 182 (5), Cond.constantLong RX12 184 (-1), Cond.constantLong RX12 186 (10), Cond.methodLink RL 118 yX11_rate, Cond.instanceMethod yX11_rate, Cond.selects RX11 yX11_rate yX11_rate, Cond.code yX11_rate cX11_rate 5 (some .int), Cond.constant RX11 248 (-1000000), Cond.fieldLink RX11 249 "PillowCourt$KindPillow" "added" "J", Cond.fieldLink RX11 257 "PillowCourt" "traced" "J", Cond.methodLink RX11 253 ⟨"PillowCourt$KindPillow", "rating", "(LPillowCourt$Scene;I)I"⟩, Cond.sameMethod "PillowCourt$KindPillow" "PillowCourt$KindPillow" "rating" "(LPillowCourt$Scene;I)I", Cond.instanceMethod ⟨"PillowCourt$KindPillow", "rating", "(LPillowCourt$Scene;I)I"⟩, Cond.selects RX1 ⟨"PillowCourt$KindPillow", "rating", "(LPillowCourt$Scene;I)I"⟩ yX1_rating, Cond.instanceMethod yX1_rating, Cond.code yX1_rating cX1_rating 3 (some .int), Cond.fieldLink RX1 7 "PillowCourt$KindBench" "added" "J", Cond.sameField "PillowCourt$KindBench" "PillowCourt$KindPillow" "added" "J", Cond.constantLong RX1 13 (100000), Cond.methodLink RX1 15 yX6_rating, Cond.superclass RX1 RX6, Cond.instanceMethod yX6_rating, Cond.code yX6_rating cX6_rating 3 (some .int), Cond.fieldLink RX6 7 "PillowCourt$KindPillow" "added" "J"]
def wsL_law_r33 : List Cond := [Cond.methodLink RX6 13 yX8_thingsOn, Cond.methodLink RX6 19 yJ6_bitCount_0f7a4, Cond.methodLink RX1 19 yX8_nightNumber, Cond.selects RX2 ⟨"PillowCourt$KindPillow", "rating", "(LPillowCourt$Scene;I)I"⟩ yX2_rating, Cond.instanceMethod yX2_rating, Cond.code yX2_rating cX2_rating 3 (some .int), Cond.fieldLink RX2 7 "PillowCourt$KindBolster" "added" "J", Cond.sameField "PillowCourt$KindBolster" "PillowCourt$KindPillow" "added" "J", Cond.constantLong RX2 13 (100), Cond.methodLink RX2 15 yX6_rating, Cond.superclass RX2 RX6, Cond.methodLink RX2 19 yX8_sleepersOn, Cond.methodLink RX2 25 yJ6_bitCount_0f7a4, Cond.selects RX3 ⟨"PillowCourt$KindPillow", "rating", "(LPillowCourt$Scene;I)I"⟩ yX3_rating, Cond.instanceMethod yX3_rating, Cond.code yX3_rating cX3_rating 3 (some .int), Cond.fieldLink RX3 9 "PillowCourt$KindDown" "added" "J", Cond.sameField "PillowCourt$KindDown" "PillowCourt$KindPillow" "added" "J", Cond.constantLong RX3 15 (10), Cond.methodLink RX3 17 yX6_rating, Cond.superclass RX3 RX6, Cond.methodLink RX3 21 yX8_timesOn, Cond.selects RX4 ⟨"PillowCourt$KindPillow", "rating", "(LPillowCourt$Scene;I)I"⟩ yX4_rating, Cond.instanceMethod yX4_rating]
def wsL_law_r34 : List Cond := [Cond.code yX4_rating cX4_rating 3 (some .int), Cond.fieldLink RX4 7 "PillowCourt$KindGoose" "added" "J", Cond.sameField "PillowCourt$KindGoose" "PillowCourt$KindPillow" "added" "J", Cond.constantLong RX4 13 (1000), Cond.methodLink RX4 15 yX3_rating, Cond.sameMethod "PillowCourt$KindDown" "PillowCourt$KindDown" "rating" "(LPillowCourt$Scene;I)I", Cond.superclass RX4 RX3, Cond.selects RX5 ⟨"PillowCourt$KindPillow", "rating", "(LPillowCourt$Scene;I)I"⟩ yX5_rating, Cond.instanceMethod yX5_rating, Cond.code yX5_rating cX5_rating 3 (some .int), Cond.fieldLink RX5 7 "PillowCourt$KindHotel" "added" "J", Cond.sameField "PillowCourt$KindHotel" "PillowCourt$KindPillow" "added" "J", Cond.constantLong RX5 13 (10000), Cond.methodLink RX5 15 yX2_rating, Cond.sameMethod "PillowCourt$KindBolster" "PillowCourt$KindBolster" "rating" "(LPillowCourt$Scene;I)I", Cond.superclass RX5 RX2, Cond.methodLink RX11 253 yX6_rating, Cond.selects RX6 yX6_rating yX6_rating, Cond.methodLink RL 121 yX12_rate, Cond.instanceMethod yX12_rate, Cond.selects RX12 yX12_rate yX12_rate, Cond.code yX12_rate cX12_rate 6 (some .int), Cond.constant RX12 188 (-1000000), Cond.fieldLink RX12 189 "PillowCourtModel" "trace" "J"]
def wsL_law_r35 : List Cond := [Cond.constantLong RX12 193 (11), Cond.constantLong RX12 195 (101), Cond.constantLong RX12 197 (1011), Cond.constantLong RX12 199 (10101), Cond.constantLong RX12 201 (100001), Cond.methodLink RL 122 yX11_keep, Cond.instanceMethod yX11_keep, Cond.selects RX11 yX11_keep yX11_keep, Cond.code yX11_keep cX11_keep 2 (some .int), Cond.methodLink RX11 260 yX9_keepImage, Cond.instanceMethod yX9_keepImage, Cond.selects RX9 yX9_keepImage yX9_keepImage, Cond.code yX9_keepImage cX9_keepImage 3 none, Cond.methodLink RL 125 yX12_keep, Cond.instanceMethod yX12_keep, Cond.selects RX12 yX12_keep yX12_keep, Cond.code yX12_keep cX12_keep 3 (some .int), Cond.methodLink RL 126 yX11_back, Cond.instanceMethod yX11_back, Cond.selects RX11 yX11_back yX11_back, Cond.code yX11_back cX11_back 2 (some .int), Cond.methodLink RX11 264 yX9_restoreImage, Cond.instanceMethod yX9_restoreImage, Cond.selects RX9 yX9_restoreImage yX9_restoreImage]
def wsL_law_r36 : List Cond := [Cond.code yX9_restoreImage cX9_restoreImage 3 (some .boolean), Cond.methodLink RL 129 yX12_back, Cond.instanceMethod yX12_back, Cond.selects RX12 yX12_back yX12_back, Cond.code yX12_back cX12_back 3 (some .int), Cond.methodLink RL 130 yX11_count, Cond.instanceMethod yX11_count, Cond.selects RX11 yX11_count yX11_count, Cond.code yX11_count cX11_count 2 (some .int), Cond.methodLink RL 133 yX12_count, Cond.instanceMethod yX12_count, Cond.selects RX12 yX12_count yX12_count, Cond.code yX12_count cX12_count 2 (some .int), Cond.methodLink RL 134 yX11_trace, Cond.instanceMethod yX11_trace, Cond.selects RX11 yX11_trace yX11_trace, Cond.code yX11_trace cX11_trace 1 (some .long), Cond.methodLink RL 138 yX12_trace, Cond.instanceMethod yX12_trace, Cond.selects RX12 yX12_trace yX12_trace, Cond.code yX12_trace cX12_trace 1 (some .long)]
def wsL_law : List Cond := (wsL_law_r1 ++ (wsL_law_r2 ++ (wsL_law_r3 ++ (wsL_law_r4 ++ (wsL_law_r5 ++ (wsL_law_r6 ++ (wsL_law_r7 ++ (wsL_law_r8 ++ (wsL_law_r9 ++ (wsL_law_r10 ++ (wsL_law_r11 ++ (wsL_law_r12 ++ (wsL_law_r13 ++ (wsL_law_r14 ++ (wsL_law_r15 ++ (wsL_law_r16 ++ (wsL_law_r17 ++ (wsL_law_r18 ++ (wsL_law_r19 ++ (wsL_law_r20 ++ (wsL_law_r21 ++ (wsL_law_r22 ++ (wsL_law_r23 ++ (wsL_law_r24 ++ (wsL_law_r25 ++ (wsL_law_r26 ++ (wsL_law_r27 ++ (wsL_law_r28 ++ (wsL_law_r29 ++ (wsL_law_r30 ++ (wsL_law_r31 ++ (wsL_law_r32 ++ (wsL_law_r33 ++ (wsL_law_r34 ++ (wsL_law_r35 ++ wsL_law_r36))))))))))))))))))))))))))))))))))) ++ wsX110 ++ wsX120 ++ wsX70 ++ wsX80 ++ wsX90 ++ wsX00 ++ wsX60 ++ wsX30 ++ wsX20 ++ wsX40 ++ wsX50 ++ wsX10 ++ wsX100 ++ ([] : List Cond)
abbrev vwCl : List vw_C := [(RX0, TX0, 2), (RX1, TX1, 1), (RX2, TX2, 1), (RX3, TX3, 1), (RX4, TX4, 1), (RX5, TX5, 1), (RX6, TX6, 1), (RX7, TX7, 6), (RX8, TX8, 1), (RX9, TX9, 5), (RX10, TX10, 5), (RX11, TX11, 13), (RX12, TX12, 18)]
end
section
theorem dX0_init_0 : decode cX0_init 0 = .ok (.aload_n 0, 1) := by decide +kernel
theorem dX0_init_1 : decode cX0_init 1 = .ok (.invokespecial 3, 3) := by decide +kernel
theorem dX0_init_4 : decode cX0_init 4 = .ok (.aload_n 0, 1) := by decide +kernel
theorem dX0_init_5 : decode cX0_init 5 = .ok (.bipush 36, 2) := by decide +kernel
theorem dX0_init_7 : decode cX0_init 7 = .ok (.newarray .int, 2) := by decide +kernel
theorem dX0_init_9 : decode cX0_init 9 = .ok (.putfield 9, 3) := by decide +kernel
theorem dX0_init_12 : decode cX0_init 12 = .ok (.aload_n 0, 1) := by decide +kernel
theorem dX0_init_13 : decode cX0_init 13 = .ok (.sipush 448, 3) := by decide +kernel
theorem dX0_init_16 : decode cX0_init 16 = .ok (.newarray .int, 2) := by decide +kernel
theorem dX0_init_18 : decode cX0_init 18 = .ok (.putfield 15, 3) := by decide +kernel
theorem dX0_init_21 : decode cX0_init 21 = .ok (.return_, 1) := by decide +kernel
set_option maxRecDepth 20000 in
theorem ggX0_weigh_J7_fill_53178 : GoodIn wsX0_weigh wsJ7_fill_53178 := goodIn_r _ [8] (by decide +kernel) (by decide +kernel)
set_option maxRecDepth 20000 in
theorem gX0_weigh_J7_fill_53178 : GoodIn wsX0_weigh (va_wsS RX0 18 yJ7_fill_53178 wsJ7_fill_53178) := goodIn_app (goodIn_of _ (by decide +kernel)) ggX0_weigh_J7_fill_53178
set_option maxRecDepth 20000 in
theorem ggX0_weigh_X8_timesOn : GoodIn wsX0_weigh wsX8_timesOn := goodIn_r _ [13, 14, 15, 16, 12, 17, 18, 40] (by decide +kernel) (by decide +kernel)
set_option maxRecDepth 20000 in
theorem gX0_weigh_X8_timesOn : GoodIn wsX0_weigh (wsV RX0 33 RX8 yX8_timesOn wsX8_timesOn) := goodIn_app (goodIn_of _ (by decide +kernel)) ggX0_weigh_X8_timesOn
set_option maxRecDepth 20000 in
theorem ggX0_weigh_X0_bestOf : GoodIn wsX0_weigh wsX0_bestOf := goodIn_r _ [23, 24, 25, 26, 27, 28, 29, 30, 31, 22, 32, 1, 3, 35, 36, 37, 38, 39, 33, 34] (by decide +kernel) (by decide +kernel)
set_option maxRecDepth 20000 in
theorem gX0_weigh_X0_bestOf : GoodIn wsX0_weigh (wsV RX0 39 RX0 yX0_bestOf wsX0_bestOf) := goodIn_app (goodIn_of _ (by decide +kernel)) ggX0_weigh_X0_bestOf
theorem dX0_weigh_0 : decode cX0_weigh 0 = .ok (.aload_n 0, 1) := by decide +kernel
theorem dX0_weigh_1 : decode cX0_weigh 1 = .ok (.getfield 15, 3) := by decide +kernel
theorem dX0_weigh_4 : decode cX0_weigh 4 = .ok (.iconst 0, 1) := by decide +kernel
theorem dX0_weigh_5 : decode cX0_weigh 5 = .ok (.invokestatic 18, 3) := by decide +kernel
theorem dX0_weigh_8 : decode cX0_weigh 8 = .ok (.aload_n 1, 1) := by decide +kernel
theorem dX0_weigh_9 : decode cX0_weigh 9 = .ok (.getfield 24, 3) := by decide +kernel
theorem dX0_weigh_12 : decode cX0_weigh 12 = .ok (.iconst 1, 1) := by decide +kernel
theorem dX0_weigh_13 : decode cX0_weigh 13 = .ok (.isub, 1) := by decide +kernel
theorem dX0_weigh_14 : decode cX0_weigh 14 = .ok (.istore_n 3, 1) := by decide +kernel
theorem dX0_weigh_15 : decode cX0_weigh 15 = .ok (.iload_n 3, 1) := by decide +kernel
theorem dX0_weigh_16 : decode cX0_weigh 16 = .ok (.ifCond .lt 85, 3) := by decide +kernel
theorem dX0_weigh_19 : decode cX0_weigh 19 = .ok (.iconst 0, 1) := by decide +kernel
theorem dX0_weigh_20 : decode cX0_weigh 20 = .ok (.istore 4, 2) := by decide +kernel
theorem dX0_weigh_22 : decode cX0_weigh 22 = .ok (.iload 4, 2) := by decide +kernel
theorem dX0_weigh_24 : decode cX0_weigh 24 = .ok (.bipush 6, 2) := by decide +kernel
theorem dX0_weigh_26 : decode cX0_weigh 26 = .ok (.if_icmp .ge 33, 3) := by decide +kernel
theorem dX0_weigh_29 : decode cX0_weigh 29 = .ok (.aload_n 0, 1) := by decide +kernel
theorem dX0_weigh_30 : decode cX0_weigh 30 = .ok (.getfield 9, 3) := by decide +kernel
theorem dX0_weigh_33 : decode cX0_weigh 33 = .ok (.iload_n 3, 1) := by decide +kernel
theorem dX0_weigh_34 : decode cX0_weigh 34 = .ok (.bipush 6, 2) := by decide +kernel
theorem dX0_weigh_36 : decode cX0_weigh 36 = .ok (.imul, 1) := by decide +kernel
theorem dX0_weigh_37 : decode cX0_weigh 37 = .ok (.iload 4, 2) := by decide +kernel
theorem dX0_weigh_39 : decode cX0_weigh 39 = .ok (.iadd, 1) := by decide +kernel
theorem dX0_weigh_40 : decode cX0_weigh 40 = .ok (.aload_n 2, 1) := by decide +kernel
theorem dX0_weigh_41 : decode cX0_weigh 41 = .ok (.iload 4, 2) := by decide +kernel
theorem dX0_weigh_43 : decode cX0_weigh 43 = .ok (.aload_n 1, 1) := by decide +kernel
theorem dX0_weigh_44 : decode cX0_weigh 44 = .ok (.getfield 30, 3) := by decide +kernel
theorem dX0_weigh_47 : decode cX0_weigh 47 = .ok (.iload_n 3, 1) := by decide +kernel
theorem dX0_weigh_48 : decode cX0_weigh 48 = .ok (.iaload, 1) := by decide +kernel
theorem dX0_weigh_49 : decode cX0_weigh 49 = .ok (.invokevirtual 33, 3) := by decide +kernel
theorem dX0_weigh_52 : decode cX0_weigh 52 = .ok (.iastore, 1) := by decide +kernel
theorem dX0_weigh_53 : decode cX0_weigh 53 = .ok (.iinc 4 1, 3) := by decide +kernel
theorem dX0_weigh_56 : decode cX0_weigh 56 = .ok (.goto (-34), 3) := by decide +kernel
theorem dX0_weigh_59 : decode cX0_weigh 59 = .ok (.iconst 0, 1) := by decide +kernel
theorem dX0_weigh_60 : decode cX0_weigh 60 = .ok (.istore 4, 2) := by decide +kernel
theorem dX0_weigh_62 : decode cX0_weigh 62 = .ok (.iload 4, 2) := by decide +kernel
theorem dX0_weigh_64 : decode cX0_weigh 64 = .ok (.bipush 64, 2) := by decide +kernel
theorem dX0_weigh_66 : decode cX0_weigh 66 = .ok (.if_icmp .ge 29, 3) := by decide +kernel
theorem dX0_weigh_69 : decode cX0_weigh 69 = .ok (.aload_n 0, 1) := by decide +kernel
theorem dX0_weigh_70 : decode cX0_weigh 70 = .ok (.getfield 15, 3) := by decide +kernel
theorem dX0_weigh_73 : decode cX0_weigh 73 = .ok (.iload_n 3, 1) := by decide +kernel
theorem dX0_weigh_74 : decode cX0_weigh 74 = .ok (.bipush 64, 2) := by decide +kernel
theorem dX0_weigh_76 : decode cX0_weigh 76 = .ok (.imul, 1) := by decide +kernel
theorem dX0_weigh_77 : decode cX0_weigh 77 = .ok (.iload 4, 2) := by decide +kernel
theorem dX0_weigh_79 : decode cX0_weigh 79 = .ok (.iadd, 1) := by decide +kernel
theorem dX0_weigh_80 : decode cX0_weigh 80 = .ok (.aload_n 0, 1) := by decide +kernel
theorem dX0_weigh_81 : decode cX0_weigh 81 = .ok (.aload_n 1, 1) := by decide +kernel
theorem dX0_weigh_82 : decode cX0_weigh 82 = .ok (.iload_n 3, 1) := by decide +kernel
theorem dX0_weigh_83 : decode cX0_weigh 83 = .ok (.iload 4, 2) := by decide +kernel
theorem dX0_weigh_85 : decode cX0_weigh 85 = .ok (.invokevirtual 39, 3) := by decide +kernel
theorem dX0_weigh_88 : decode cX0_weigh 88 = .ok (.iastore, 1) := by decide +kernel
theorem dX0_weigh_89 : decode cX0_weigh 89 = .ok (.iinc 4 1, 3) := by decide +kernel
theorem dX0_weigh_92 : decode cX0_weigh 92 = .ok (.goto (-30), 3) := by decide +kernel
theorem dX0_weigh_95 : decode cX0_weigh 95 = .ok (.iinc 3 (-1), 3) := by decide +kernel
theorem dX0_weigh_98 : decode cX0_weigh 98 = .ok (.goto (-83), 3) := by decide +kernel
theorem dX0_weigh_101 : decode cX0_weigh 101 = .ok (.return_, 1) := by decide +kernel
set_option maxRecDepth 20000 in
theorem ggX0_bestOf_X0_mostWith : GoodIn wsX0_bestOf wsX0_mostWith := goodIn_r _ [10, 11, 12, 18, 19] (by decide +kernel) (by decide +kernel)
set_option maxRecDepth 20000 in
theorem gX0_bestOf_X0_mostWith : GoodIn wsX0_bestOf (wsV RX0 43 RX0 yX0_mostWith wsX0_mostWith) := goodIn_app (goodIn_of _ (by decide +kernel)) ggX0_bestOf_X0_mostWith
theorem dX0_bestOf_0 : decode cX0_bestOf 0 = .ok (.aload_n 0, 1) := by decide +kernel
theorem dX0_bestOf_1 : decode cX0_bestOf 1 = .ok (.iload_n 2, 1) := by decide +kernel
theorem dX0_bestOf_2 : decode cX0_bestOf 2 = .ok (.iload_n 3, 1) := by decide +kernel
theorem dX0_bestOf_3 : decode cX0_bestOf 3 = .ok (.bipush (-9), 2) := by decide +kernel
theorem dX0_bestOf_5 : decode cX0_bestOf 5 = .ok (.invokevirtual 43, 3) := by decide +kernel
theorem dX0_bestOf_8 : decode cX0_bestOf 8 = .ok (.istore 4, 2) := by decide +kernel
theorem dX0_bestOf_10 : decode cX0_bestOf 10 = .ok (.iconst 0, 1) := by decide +kernel
theorem dX0_bestOf_11 : decode cX0_bestOf 11 = .ok (.istore 5, 2) := by decide +kernel
theorem dX0_bestOf_13 : decode cX0_bestOf 13 = .ok (.iload 5, 2) := by decide +kernel
theorem dX0_bestOf_15 : decode cX0_bestOf 15 = .ok (.aload_n 1, 1) := by decide +kernel
theorem dX0_bestOf_16 : decode cX0_bestOf 16 = .ok (.getfield 47, 3) := by decide +kernel
theorem dX0_bestOf_19 : decode cX0_bestOf 19 = .ok (.if_icmp .ge 33, 3) := by decide +kernel
theorem dX0_bestOf_22 : decode cX0_bestOf 22 = .ok (.iload_n 3, 1) := by decide +kernel
theorem dX0_bestOf_23 : decode cX0_bestOf 23 = .ok (.iload 5, 2) := by decide +kernel
theorem dX0_bestOf_25 : decode cX0_bestOf 25 = .ok (.ishr, 1) := by decide +kernel
theorem dX0_bestOf_26 : decode cX0_bestOf 26 = .ok (.iconst 1, 1) := by decide +kernel
theorem dX0_bestOf_27 : decode cX0_bestOf 27 = .ok (.iand, 1) := by decide +kernel
theorem dX0_bestOf_28 : decode cX0_bestOf 28 = .ok (.ifCond .ne 18, 3) := by decide +kernel
theorem dX0_bestOf_31 : decode cX0_bestOf 31 = .ok (.iload 4, 2) := by decide +kernel
theorem dX0_bestOf_33 : decode cX0_bestOf 33 = .ok (.aload_n 0, 1) := by decide +kernel
theorem dX0_bestOf_34 : decode cX0_bestOf 34 = .ok (.iload_n 2, 1) := by decide +kernel
theorem dX0_bestOf_35 : decode cX0_bestOf 35 = .ok (.iload_n 3, 1) := by decide +kernel
theorem dX0_bestOf_36 : decode cX0_bestOf 36 = .ok (.iload 5, 2) := by decide +kernel
theorem dX0_bestOf_38 : decode cX0_bestOf 38 = .ok (.invokevirtual 43, 3) := by decide +kernel
theorem dX0_bestOf_41 : decode cX0_bestOf 41 = .ok (.invokestatic 50, 3) := by decide +kernel
theorem dX0_bestOf_44 : decode cX0_bestOf 44 = .ok (.istore 4, 2) := by decide +kernel
theorem dX0_bestOf_46 : decode cX0_bestOf 46 = .ok (.iinc 5 1, 3) := by decide +kernel
theorem dX0_bestOf_49 : decode cX0_bestOf 49 = .ok (.goto (-36), 3) := by decide +kernel
theorem dX0_bestOf_52 : decode cX0_bestOf 52 = .ok (.iload 4, 2) := by decide +kernel
theorem dX0_bestOf_54 : decode cX0_bestOf 54 = .ok (.ireturn, 1) := by decide +kernel
theorem dX0_mostWith_0 : decode cX0_mostWith 0 = .ok (.iload_n 1, 1) := by decide +kernel
theorem dX0_mostWith_1 : decode cX0_mostWith 1 = .ok (.iconst 1, 1) := by decide +kernel
theorem dX0_mostWith_2 : decode cX0_mostWith 2 = .ok (.iadd, 1) := by decide +kernel
theorem dX0_mostWith_3 : decode cX0_mostWith 3 = .ok (.bipush 64, 2) := by decide +kernel
theorem dX0_mostWith_5 : decode cX0_mostWith 5 = .ok (.imul, 1) := by decide +kernel
theorem dX0_mostWith_6 : decode cX0_mostWith 6 = .ok (.istore 4, 2) := by decide +kernel
theorem dX0_mostWith_8 : decode cX0_mostWith 8 = .ok (.iload_n 3, 1) := by decide +kernel
theorem dX0_mostWith_9 : decode cX0_mostWith 9 = .ok (.ifCond .ge 13, 3) := by decide +kernel
theorem dX0_mostWith_12 : decode cX0_mostWith 12 = .ok (.aload_n 0, 1) := by decide +kernel
theorem dX0_mostWith_13 : decode cX0_mostWith 13 = .ok (.getfield 15, 3) := by decide +kernel
theorem dX0_mostWith_16 : decode cX0_mostWith 16 = .ok (.iload 4, 2) := by decide +kernel
theorem dX0_mostWith_18 : decode cX0_mostWith 18 = .ok (.iload_n 2, 1) := by decide +kernel
theorem dX0_mostWith_19 : decode cX0_mostWith 19 = .ok (.iadd, 1) := by decide +kernel
theorem dX0_mostWith_20 : decode cX0_mostWith 20 = .ok (.iaload, 1) := by decide +kernel
theorem dX0_mostWith_21 : decode cX0_mostWith 21 = .ok (.ireturn, 1) := by decide +kernel
theorem dX0_mostWith_22 : decode cX0_mostWith 22 = .ok (.aload_n 0, 1) := by decide +kernel
theorem dX0_mostWith_23 : decode cX0_mostWith 23 = .ok (.getfield 9, 3) := by decide +kernel
theorem dX0_mostWith_26 : decode cX0_mostWith 26 = .ok (.iload_n 1, 1) := by decide +kernel
theorem dX0_mostWith_27 : decode cX0_mostWith 27 = .ok (.bipush 6, 2) := by decide +kernel
theorem dX0_mostWith_29 : decode cX0_mostWith 29 = .ok (.imul, 1) := by decide +kernel
theorem dX0_mostWith_30 : decode cX0_mostWith 30 = .ok (.iload_n 3, 1) := by decide +kernel
theorem dX0_mostWith_31 : decode cX0_mostWith 31 = .ok (.iadd, 1) := by decide +kernel
theorem dX0_mostWith_32 : decode cX0_mostWith 32 = .ok (.iaload, 1) := by decide +kernel
theorem dX0_mostWith_33 : decode cX0_mostWith 33 = .ok (.aload_n 0, 1) := by decide +kernel
theorem dX0_mostWith_34 : decode cX0_mostWith 34 = .ok (.getfield 15, 3) := by decide +kernel
theorem dX0_mostWith_37 : decode cX0_mostWith 37 = .ok (.iload 4, 2) := by decide +kernel
theorem dX0_mostWith_39 : decode cX0_mostWith 39 = .ok (.iload_n 2, 1) := by decide +kernel
theorem dX0_mostWith_40 : decode cX0_mostWith 40 = .ok (.iconst 1, 1) := by decide +kernel
theorem dX0_mostWith_41 : decode cX0_mostWith 41 = .ok (.iload_n 3, 1) := by decide +kernel
theorem dX0_mostWith_42 : decode cX0_mostWith 42 = .ok (.ishl, 1) := by decide +kernel
theorem dX0_mostWith_43 : decode cX0_mostWith 43 = .ok (.ior, 1) := by decide +kernel
theorem dX0_mostWith_44 : decode cX0_mostWith 44 = .ok (.iadd, 1) := by decide +kernel
theorem dX0_mostWith_45 : decode cX0_mostWith 45 = .ok (.iaload, 1) := by decide +kernel
theorem dX0_mostWith_46 : decode cX0_mostWith 46 = .ok (.iadd, 1) := by decide +kernel
theorem dX0_mostWith_47 : decode cX0_mostWith 47 = .ok (.ireturn, 1) := by decide +kernel
theorem dX0_explained_0 : decode cX0_explained 0 = .ok (.aload_n 0, 1) := by decide +kernel
theorem dX0_explained_1 : decode cX0_explained 1 = .ok (.getfield 15, 3) := by decide +kernel
theorem dX0_explained_4 : decode cX0_explained 4 = .ok (.iconst 0, 1) := by decide +kernel
theorem dX0_explained_5 : decode cX0_explained 5 = .ok (.iaload, 1) := by decide +kernel
theorem dX0_explained_6 : decode cX0_explained 6 = .ok (.ireturn, 1) := by decide +kernel
set_option maxRecDepth 20000 in
theorem ggX0_pillowOf_X0_firstBest : GoodIn wsX0_pillowOf wsX0_firstBest := goodIn_r _ [5, 6, 7, 8, 9, 10, 4, 11, 12, 13, 14, 15, 16, 17, 18, 19] (by decide +kernel) (by decide +kernel)
set_option maxRecDepth 20000 in
theorem gX0_pillowOf_X0_firstBest : GoodIn wsX0_pillowOf (wsV RX0 55 RX0 yX0_firstBest wsX0_firstBest) := goodIn_app (goodIn_of _ (by decide +kernel)) ggX0_pillowOf_X0_firstBest
theorem dX0_pillowOf_0 : decode cX0_pillowOf 0 = .ok (.iconst 0, 1) := by decide +kernel
theorem dX0_pillowOf_1 : decode cX0_pillowOf 1 = .ok (.istore_n 3, 1) := by decide +kernel
theorem dX0_pillowOf_2 : decode cX0_pillowOf 2 = .ok (.bipush (-9), 2) := by decide +kernel
theorem dX0_pillowOf_4 : decode cX0_pillowOf 4 = .ok (.istore 4, 2) := by decide +kernel
theorem dX0_pillowOf_6 : decode cX0_pillowOf 6 = .ok (.iconst 0, 1) := by decide +kernel
theorem dX0_pillowOf_7 : decode cX0_pillowOf 7 = .ok (.istore 5, 2) := by decide +kernel
theorem dX0_pillowOf_9 : decode cX0_pillowOf 9 = .ok (.iload 5, 2) := by decide +kernel
theorem dX0_pillowOf_11 : decode cX0_pillowOf 11 = .ok (.iload_n 2, 1) := by decide +kernel
theorem dX0_pillowOf_12 : decode cX0_pillowOf 12 = .ok (.if_icmp .gt 31, 3) := by decide +kernel
theorem dX0_pillowOf_15 : decode cX0_pillowOf 15 = .ok (.aload_n 0, 1) := by decide +kernel
theorem dX0_pillowOf_16 : decode cX0_pillowOf 16 = .ok (.aload_n 1, 1) := by decide +kernel
theorem dX0_pillowOf_17 : decode cX0_pillowOf 17 = .ok (.iload 5, 2) := by decide +kernel
theorem dX0_pillowOf_19 : decode cX0_pillowOf 19 = .ok (.iload_n 3, 1) := by decide +kernel
theorem dX0_pillowOf_20 : decode cX0_pillowOf 20 = .ok (.invokevirtual 55, 3) := by decide +kernel
theorem dX0_pillowOf_23 : decode cX0_pillowOf 23 = .ok (.istore 4, 2) := by decide +kernel
theorem dX0_pillowOf_25 : decode cX0_pillowOf 25 = .ok (.iload 4, 2) := by decide +kernel
theorem dX0_pillowOf_27 : decode cX0_pillowOf 27 = .ok (.ifCond .lt 10, 3) := by decide +kernel
theorem dX0_pillowOf_30 : decode cX0_pillowOf 30 = .ok (.iload_n 3, 1) := by decide +kernel
theorem dX0_pillowOf_31 : decode cX0_pillowOf 31 = .ok (.iconst 1, 1) := by decide +kernel
theorem dX0_pillowOf_32 : decode cX0_pillowOf 32 = .ok (.iload 4, 2) := by decide +kernel
theorem dX0_pillowOf_34 : decode cX0_pillowOf 34 = .ok (.ishl, 1) := by decide +kernel
theorem dX0_pillowOf_35 : decode cX0_pillowOf 35 = .ok (.ior, 1) := by decide +kernel
theorem dX0_pillowOf_36 : decode cX0_pillowOf 36 = .ok (.istore_n 3, 1) := by decide +kernel
theorem dX0_pillowOf_37 : decode cX0_pillowOf 37 = .ok (.iinc 5 1, 3) := by decide +kernel
theorem dX0_pillowOf_40 : decode cX0_pillowOf 40 = .ok (.goto (-31), 3) := by decide +kernel
theorem dX0_pillowOf_43 : decode cX0_pillowOf 43 = .ok (.iload 4, 2) := by decide +kernel
theorem dX0_pillowOf_45 : decode cX0_pillowOf 45 = .ok (.ireturn, 1) := by decide +kernel
set_option maxRecDepth 20000 in
theorem ggX0_firstBest_X0_mostWith : GoodIn wsX0_firstBest wsX0_mostWith := goodIn_r _ [7, 1, 8, 9, 10] (by decide +kernel) (by decide +kernel)
set_option maxRecDepth 20000 in
theorem gX0_firstBest_X0_mostWith : GoodIn wsX0_firstBest (wsV RX0 43 RX0 yX0_mostWith wsX0_mostWith) := goodIn_app (goodIn_of _ (by decide +kernel)) ggX0_firstBest_X0_mostWith
theorem dX0_firstBest_0 : decode cX0_firstBest 0 = .ok (.aload_n 0, 1) := by decide +kernel
theorem dX0_firstBest_1 : decode cX0_firstBest 1 = .ok (.getfield 15, 3) := by decide +kernel
theorem dX0_firstBest_4 : decode cX0_firstBest 4 = .ok (.iload_n 2, 1) := by decide +kernel
theorem dX0_firstBest_5 : decode cX0_firstBest 5 = .ok (.bipush 64, 2) := by decide +kernel
theorem dX0_firstBest_7 : decode cX0_firstBest 7 = .ok (.imul, 1) := by decide +kernel
theorem dX0_firstBest_8 : decode cX0_firstBest 8 = .ok (.iload_n 3, 1) := by decide +kernel
theorem dX0_firstBest_9 : decode cX0_firstBest 9 = .ok (.iadd, 1) := by decide +kernel
theorem dX0_firstBest_10 : decode cX0_firstBest 10 = .ok (.iaload, 1) := by decide +kernel
theorem dX0_firstBest_11 : decode cX0_firstBest 11 = .ok (.istore 4, 2) := by decide +kernel
theorem dX0_firstBest_13 : decode cX0_firstBest 13 = .ok (.aload_n 0, 1) := by decide +kernel
theorem dX0_firstBest_14 : decode cX0_firstBest 14 = .ok (.iload_n 2, 1) := by decide +kernel
theorem dX0_firstBest_15 : decode cX0_firstBest 15 = .ok (.iload_n 3, 1) := by decide +kernel
theorem dX0_firstBest_16 : decode cX0_firstBest 16 = .ok (.bipush (-9), 2) := by decide +kernel
theorem dX0_firstBest_18 : decode cX0_firstBest 18 = .ok (.invokevirtual 43, 3) := by decide +kernel
theorem dX0_firstBest_21 : decode cX0_firstBest 21 = .ok (.iload 4, 2) := by decide +kernel
theorem dX0_firstBest_23 : decode cX0_firstBest 23 = .ok (.if_icmp .ne 6, 3) := by decide +kernel
theorem dX0_firstBest_26 : decode cX0_firstBest 26 = .ok (.bipush (-9), 2) := by decide +kernel
theorem dX0_firstBest_28 : decode cX0_firstBest 28 = .ok (.ireturn, 1) := by decide +kernel
theorem dX0_firstBest_29 : decode cX0_firstBest 29 = .ok (.iconst 0, 1) := by decide +kernel
theorem dX0_firstBest_30 : decode cX0_firstBest 30 = .ok (.istore 5, 2) := by decide +kernel
theorem dX0_firstBest_32 : decode cX0_firstBest 32 = .ok (.iload 5, 2) := by decide +kernel
theorem dX0_firstBest_34 : decode cX0_firstBest 34 = .ok (.aload_n 1, 1) := by decide +kernel
theorem dX0_firstBest_35 : decode cX0_firstBest 35 = .ok (.getfield 47, 3) := by decide +kernel
theorem dX0_firstBest_38 : decode cX0_firstBest 38 = .ok (.if_icmp .ge 34, 3) := by decide +kernel
theorem dX0_firstBest_41 : decode cX0_firstBest 41 = .ok (.iload_n 3, 1) := by decide +kernel
theorem dX0_firstBest_42 : decode cX0_firstBest 42 = .ok (.iload 5, 2) := by decide +kernel
theorem dX0_firstBest_44 : decode cX0_firstBest 44 = .ok (.ishr, 1) := by decide +kernel
theorem dX0_firstBest_45 : decode cX0_firstBest 45 = .ok (.iconst 1, 1) := by decide +kernel
theorem dX0_firstBest_46 : decode cX0_firstBest 46 = .ok (.iand, 1) := by decide +kernel
theorem dX0_firstBest_47 : decode cX0_firstBest 47 = .ok (.ifCond .ne 19, 3) := by decide +kernel
theorem dX0_firstBest_50 : decode cX0_firstBest 50 = .ok (.aload_n 0, 1) := by decide +kernel
theorem dX0_firstBest_51 : decode cX0_firstBest 51 = .ok (.iload_n 2, 1) := by decide +kernel
theorem dX0_firstBest_52 : decode cX0_firstBest 52 = .ok (.iload_n 3, 1) := by decide +kernel
theorem dX0_firstBest_53 : decode cX0_firstBest 53 = .ok (.iload 5, 2) := by decide +kernel
theorem dX0_firstBest_55 : decode cX0_firstBest 55 = .ok (.invokevirtual 43, 3) := by decide +kernel
theorem dX0_firstBest_58 : decode cX0_firstBest 58 = .ok (.iload 4, 2) := by decide +kernel
theorem dX0_firstBest_60 : decode cX0_firstBest 60 = .ok (.if_icmp .ne 6, 3) := by decide +kernel
theorem dX0_firstBest_63 : decode cX0_firstBest 63 = .ok (.iload 5, 2) := by decide +kernel
theorem dX0_firstBest_65 : decode cX0_firstBest 65 = .ok (.ireturn, 1) := by decide +kernel
theorem dX0_firstBest_66 : decode cX0_firstBest 66 = .ok (.iinc 5 1, 3) := by decide +kernel
theorem dX0_firstBest_69 : decode cX0_firstBest 69 = .ok (.goto (-37), 3) := by decide +kernel
theorem dX0_firstBest_72 : decode cX0_firstBest 72 = .ok (.bipush (-9), 2) := by decide +kernel
theorem dX0_firstBest_74 : decode cX0_firstBest 74 = .ok (.ireturn, 1) := by decide +kernel
set_option maxRecDepth 20000 in
theorem ggX1_init_X6_init : GoodIn wsX1_init wsX6_init := goodIn_r _ [3, 4, 5, 6] (by decide +kernel) (by decide +kernel)
set_option maxRecDepth 20000 in
theorem gX1_init_X6_init_n1 : GoodIn wsX1_init (wsX6_init) := ggX1_init_X6_init
theorem dX1_init_0 : decode cX1_init 0 = .ok (.aload_n 0, 1) := by decide +kernel
theorem dX1_init_1 : decode cX1_init 1 = .ok (.invokespecial 1, 3) := by decide +kernel
theorem dX1_init_4 : decode cX1_init 4 = .ok (.return_, 1) := by decide +kernel
set_option maxRecDepth 20000 in
theorem ggX1_rating_X6_rating : GoodIn wsX1_rating wsX6_rating := goodIn_r _ [9, 10, 11, 12, 13, 14, 15, 16, 17, 18, 19, 20, 21, 22, 23, 24, 25, 26, 27, 32, 33, 34, 35, 36, 37, 38] (by decide +kernel) (by decide +kernel)
set_option maxRecDepth 20000 in
theorem gX1_rating_X6_rating_s15 : GoodIn wsX1_rating (va_wsSU RX1 15 yX6_rating wsX6_rating) := goodIn_app (goodIn_of _ (by decide +kernel)) ggX1_rating_X6_rating
set_option maxRecDepth 20000 in
theorem ggX1_rating_X8_nightNumber : GoodIn wsX1_rating wsX8_nightNumber := goodIn_r _ [31, 20, 38] (by decide +kernel) (by decide +kernel)
set_option maxRecDepth 20000 in
theorem gX1_rating_X8_nightNumber : GoodIn wsX1_rating (wsV RX1 19 RX8 yX8_nightNumber wsX8_nightNumber) := goodIn_app (goodIn_of _ (by decide +kernel)) ggX1_rating_X8_nightNumber
theorem dX1_rating_0 : decode cX1_rating 0 = .ok (.aload_n 0, 1) := by decide +kernel
theorem dX1_rating_1 : decode cX1_rating 1 = .ok (.dup, 1) := by decide +kernel
theorem dX1_rating_2 : decode cX1_rating 2 = .ok (.getfield 7, 3) := by decide +kernel
theorem dX1_rating_5 : decode cX1_rating 5 = .ok (.ldc2_w 13, 3) := by decide +kernel
theorem dX1_rating_8 : decode cX1_rating 8 = .ok (.ladd, 1) := by decide +kernel
theorem dX1_rating_9 : decode cX1_rating 9 = .ok (.putfield 7, 3) := by decide +kernel
theorem dX1_rating_12 : decode cX1_rating 12 = .ok (.aload_n 0, 1) := by decide +kernel
theorem dX1_rating_13 : decode cX1_rating 13 = .ok (.aload_n 1, 1) := by decide +kernel
theorem dX1_rating_14 : decode cX1_rating 14 = .ok (.iload_n 2, 1) := by decide +kernel
theorem dX1_rating_15 : decode cX1_rating 15 = .ok (.invokespecial 15, 3) := by decide +kernel
theorem dX1_rating_18 : decode cX1_rating 18 = .ok (.aload_n 1, 1) := by decide +kernel
theorem dX1_rating_19 : decode cX1_rating 19 = .ok (.invokevirtual 19, 3) := by decide +kernel
theorem dX1_rating_22 : decode cX1_rating 22 = .ok (.iadd, 1) := by decide +kernel
theorem dX1_rating_23 : decode cX1_rating 23 = .ok (.ireturn, 1) := by decide +kernel
set_option maxRecDepth 20000 in
theorem ggX2_init_X6_init : GoodIn wsX2_init wsX6_init := goodIn_r _ [3, 4, 5, 6] (by decide +kernel) (by decide +kernel)
set_option maxRecDepth 20000 in
theorem gX2_init_X6_init_n1 : GoodIn wsX2_init (wsX6_init) := ggX2_init_X6_init
theorem dX2_init_0 : decode cX2_init 0 = .ok (.aload_n 0, 1) := by decide +kernel
theorem dX2_init_1 : decode cX2_init 1 = .ok (.invokespecial 1, 3) := by decide +kernel
theorem dX2_init_4 : decode cX2_init 4 = .ok (.return_, 1) := by decide +kernel
set_option maxRecDepth 20000 in
theorem ggX2_rating_X6_rating : GoodIn wsX2_rating wsX6_rating := goodIn_r _ [9, 10, 11, 12, 13, 14, 15, 16, 17, 18, 19, 20, 21, 22, 23, 24, 25, 26, 27, 37, 38, 39, 40, 41, 42, 43] (by decide +kernel) (by decide +kernel)
set_option maxRecDepth 20000 in
theorem gX2_rating_X6_rating_s15 : GoodIn wsX2_rating (va_wsSU RX2 15 yX6_rating wsX6_rating) := goodIn_app (goodIn_of _ (by decide +kernel)) ggX2_rating_X6_rating
set_option maxRecDepth 20000 in
theorem ggX2_rating_X8_sleepersOn : GoodIn wsX2_rating wsX8_sleepersOn := goodIn_r _ [31, 32, 33, 34, 14, 35, 20, 43] (by decide +kernel) (by decide +kernel)
set_option maxRecDepth 20000 in
theorem gX2_rating_X8_sleepersOn : GoodIn wsX2_rating (wsV RX2 19 RX8 yX8_sleepersOn wsX8_sleepersOn) := goodIn_app (goodIn_of _ (by decide +kernel)) ggX2_rating_X8_sleepersOn
set_option maxRecDepth 20000 in
theorem ggX2_rating_J6_bitCount_0f7a4 : GoodIn wsX2_rating wsJ6_bitCount_0f7a4 := goodIn_r _ [24, 25, 26, 27] (by decide +kernel) (by decide +kernel)
set_option maxRecDepth 20000 in
theorem gX2_rating_J6_bitCount_0f7a4 : GoodIn wsX2_rating (va_wsS RX2 25 yJ6_bitCount_0f7a4 wsJ6_bitCount_0f7a4) := goodIn_app (goodIn_of _ (by decide +kernel)) ggX2_rating_J6_bitCount_0f7a4
theorem dX2_rating_0 : decode cX2_rating 0 = .ok (.aload_n 0, 1) := by decide +kernel
theorem dX2_rating_1 : decode cX2_rating 1 = .ok (.dup, 1) := by decide +kernel
theorem dX2_rating_2 : decode cX2_rating 2 = .ok (.getfield 7, 3) := by decide +kernel
theorem dX2_rating_5 : decode cX2_rating 5 = .ok (.ldc2_w 13, 3) := by decide +kernel
theorem dX2_rating_8 : decode cX2_rating 8 = .ok (.ladd, 1) := by decide +kernel
theorem dX2_rating_9 : decode cX2_rating 9 = .ok (.putfield 7, 3) := by decide +kernel
theorem dX2_rating_12 : decode cX2_rating 12 = .ok (.aload_n 0, 1) := by decide +kernel
theorem dX2_rating_13 : decode cX2_rating 13 = .ok (.aload_n 1, 1) := by decide +kernel
theorem dX2_rating_14 : decode cX2_rating 14 = .ok (.iload_n 2, 1) := by decide +kernel
theorem dX2_rating_15 : decode cX2_rating 15 = .ok (.invokespecial 15, 3) := by decide +kernel
theorem dX2_rating_18 : decode cX2_rating 18 = .ok (.aload_n 1, 1) := by decide +kernel
theorem dX2_rating_19 : decode cX2_rating 19 = .ok (.iload_n 2, 1) := by decide +kernel
theorem dX2_rating_20 : decode cX2_rating 20 = .ok (.invokevirtual 19, 3) := by decide +kernel
theorem dX2_rating_23 : decode cX2_rating 23 = .ok (.invokestatic 25, 3) := by decide +kernel
theorem dX2_rating_26 : decode cX2_rating 26 = .ok (.isub, 1) := by decide +kernel
theorem dX2_rating_27 : decode cX2_rating 27 = .ok (.ireturn, 1) := by decide +kernel
set_option maxRecDepth 20000 in
theorem ggX3_init_X6_init : GoodIn wsX3_init wsX6_init := goodIn_r _ [3, 4, 5, 6] (by decide +kernel) (by decide +kernel)
set_option maxRecDepth 20000 in
theorem gX3_init_X6_init_n3 : GoodIn wsX3_init (wsX6_init) := ggX3_init_X6_init
theorem dX3_init_0 : decode cX3_init 0 = .ok (.aload_n 0, 1) := by decide +kernel
theorem dX3_init_1 : decode cX3_init 1 = .ok (.invokespecial 3, 3) := by decide +kernel
theorem dX3_init_4 : decode cX3_init 4 = .ok (.return_, 1) := by decide +kernel
set_option maxRecDepth 20000 in
theorem ggX3_rating_X6_rating : GoodIn wsX3_rating wsX6_rating := goodIn_r _ [9, 10, 11, 12, 13, 14, 15, 16, 17, 18, 19, 20, 21, 22, 23, 24, 25, 26, 27, 32, 33, 34, 35, 36, 37, 38] (by decide +kernel) (by decide +kernel)
set_option maxRecDepth 20000 in
theorem gX3_rating_X6_rating_s17 : GoodIn wsX3_rating (va_wsSU RX3 17 yX6_rating wsX6_rating) := goodIn_app (goodIn_of _ (by decide +kernel)) ggX3_rating_X6_rating
set_option maxRecDepth 20000 in
theorem ggX3_rating_X8_timesOn : GoodIn wsX3_rating wsX8_timesOn := goodIn_r _ [31, 16, 17, 18, 14, 19, 20, 38] (by decide +kernel) (by decide +kernel)
set_option maxRecDepth 20000 in
theorem gX3_rating_X8_timesOn : GoodIn wsX3_rating (wsV RX3 21 RX8 yX8_timesOn wsX8_timesOn) := goodIn_app (goodIn_of _ (by decide +kernel)) ggX3_rating_X8_timesOn
theorem dX3_rating_0 : decode cX3_rating 0 = .ok (.aload_n 0, 1) := by decide +kernel
theorem dX3_rating_1 : decode cX3_rating 1 = .ok (.dup, 1) := by decide +kernel
theorem dX3_rating_2 : decode cX3_rating 2 = .ok (.getfield 9, 3) := by decide +kernel
theorem dX3_rating_5 : decode cX3_rating 5 = .ok (.ldc2_w 15, 3) := by decide +kernel
theorem dX3_rating_8 : decode cX3_rating 8 = .ok (.ladd, 1) := by decide +kernel
theorem dX3_rating_9 : decode cX3_rating 9 = .ok (.putfield 9, 3) := by decide +kernel
theorem dX3_rating_12 : decode cX3_rating 12 = .ok (.aload_n 0, 1) := by decide +kernel
theorem dX3_rating_13 : decode cX3_rating 13 = .ok (.aload_n 1, 1) := by decide +kernel
theorem dX3_rating_14 : decode cX3_rating 14 = .ok (.iload_n 2, 1) := by decide +kernel
theorem dX3_rating_15 : decode cX3_rating 15 = .ok (.invokespecial 17, 3) := by decide +kernel
theorem dX3_rating_18 : decode cX3_rating 18 = .ok (.aload_n 1, 1) := by decide +kernel
theorem dX3_rating_19 : decode cX3_rating 19 = .ok (.iload_n 2, 1) := by decide +kernel
theorem dX3_rating_20 : decode cX3_rating 20 = .ok (.bipush 127, 2) := by decide +kernel
theorem dX3_rating_22 : decode cX3_rating 22 = .ok (.invokevirtual 21, 3) := by decide +kernel
theorem dX3_rating_25 : decode cX3_rating 25 = .ok (.iadd, 1) := by decide +kernel
theorem dX3_rating_26 : decode cX3_rating 26 = .ok (.ireturn, 1) := by decide +kernel
set_option maxRecDepth 20000 in
theorem ggX4_init_X3_init : GoodIn wsX4_init wsX3_init := goodIn_r _ [3, 4, 5, 6, 7, 8, 9] (by decide +kernel) (by decide +kernel)
set_option maxRecDepth 20000 in
theorem gX4_init_X3_init_n1 : GoodIn wsX4_init (wsX3_init) := ggX4_init_X3_init
theorem dX4_init_0 : decode cX4_init 0 = .ok (.aload_n 0, 1) := by decide +kernel
theorem dX4_init_1 : decode cX4_init 1 = .ok (.invokespecial 1, 3) := by decide +kernel
theorem dX4_init_4 : decode cX4_init 4 = .ok (.return_, 1) := by decide +kernel
set_option maxRecDepth 20000 in
theorem ggX4_rating_X3_rating : GoodIn wsX4_rating wsX3_rating := goodIn_r _ [9, 10, 11, 12, 13, 14, 15, 16, 17, 18, 19, 20, 21, 22, 23, 24, 25, 26, 27, 28, 29, 30, 31, 32, 33, 34, 35, 36, 37, 38, 39, 40, 41, 42, 43, 44, 45, 46, 47] (by decide +kernel) (by decide +kernel)
set_option maxRecDepth 20000 in
theorem gX4_rating_X3_rating_s15 : GoodIn wsX4_rating (va_wsSU RX4 15 yX3_rating wsX3_rating) := goodIn_app (goodIn_of _ (by decide +kernel)) ggX4_rating_X3_rating
theorem dX4_rating_0 : decode cX4_rating 0 = .ok (.aload_n 0, 1) := by decide +kernel
theorem dX4_rating_1 : decode cX4_rating 1 = .ok (.dup, 1) := by decide +kernel
theorem dX4_rating_2 : decode cX4_rating 2 = .ok (.getfield 7, 3) := by decide +kernel
theorem dX4_rating_5 : decode cX4_rating 5 = .ok (.ldc2_w 13, 3) := by decide +kernel
theorem dX4_rating_8 : decode cX4_rating 8 = .ok (.ladd, 1) := by decide +kernel
theorem dX4_rating_9 : decode cX4_rating 9 = .ok (.putfield 7, 3) := by decide +kernel
theorem dX4_rating_12 : decode cX4_rating 12 = .ok (.iconst 2, 1) := by decide +kernel
theorem dX4_rating_13 : decode cX4_rating 13 = .ok (.aload_n 0, 1) := by decide +kernel
theorem dX4_rating_14 : decode cX4_rating 14 = .ok (.aload_n 1, 1) := by decide +kernel
theorem dX4_rating_15 : decode cX4_rating 15 = .ok (.iload_n 2, 1) := by decide +kernel
theorem dX4_rating_16 : decode cX4_rating 16 = .ok (.invokespecial 15, 3) := by decide +kernel
theorem dX4_rating_19 : decode cX4_rating 19 = .ok (.imul, 1) := by decide +kernel
theorem dX4_rating_20 : decode cX4_rating 20 = .ok (.ireturn, 1) := by decide +kernel
set_option maxRecDepth 20000 in
theorem ggX5_init_X2_init : GoodIn wsX5_init wsX2_init := goodIn_r _ [3, 4, 5, 6, 7, 8, 9] (by decide +kernel) (by decide +kernel)
set_option maxRecDepth 20000 in
theorem gX5_init_X2_init_n1 : GoodIn wsX5_init (wsX2_init) := ggX5_init_X2_init
theorem dX5_init_0 : decode cX5_init 0 = .ok (.aload_n 0, 1) := by decide +kernel
theorem dX5_init_1 : decode cX5_init 1 = .ok (.invokespecial 1, 3) := by decide +kernel
theorem dX5_init_4 : decode cX5_init 4 = .ok (.return_, 1) := by decide +kernel
set_option maxRecDepth 20000 in
theorem ggX5_rating_X2_rating : GoodIn wsX5_rating wsX2_rating := goodIn_r _ [9, 10, 11, 12, 13, 14, 15, 16, 17, 18, 19, 20, 21, 22, 23, 24, 25, 26, 27, 28, 29, 30, 31, 32, 33, 34, 35, 36, 37, 38, 39, 40, 41, 42, 43, 44, 45, 46, 47, 48, 49, 50, 51, 52] (by decide +kernel) (by decide +kernel)
set_option maxRecDepth 20000 in
theorem gX5_rating_X2_rating_s15 : GoodIn wsX5_rating (va_wsSU RX5 15 yX2_rating wsX2_rating) := goodIn_app (goodIn_of _ (by decide +kernel)) ggX5_rating_X2_rating
theorem dX5_rating_0 : decode cX5_rating 0 = .ok (.aload_n 0, 1) := by decide +kernel
theorem dX5_rating_1 : decode cX5_rating 1 = .ok (.dup, 1) := by decide +kernel
theorem dX5_rating_2 : decode cX5_rating 2 = .ok (.getfield 7, 3) := by decide +kernel
theorem dX5_rating_5 : decode cX5_rating 5 = .ok (.ldc2_w 13, 3) := by decide +kernel
theorem dX5_rating_8 : decode cX5_rating 8 = .ok (.ladd, 1) := by decide +kernel
theorem dX5_rating_9 : decode cX5_rating 9 = .ok (.putfield 7, 3) := by decide +kernel
theorem dX5_rating_12 : decode cX5_rating 12 = .ok (.aload_n 0, 1) := by decide +kernel
theorem dX5_rating_13 : decode cX5_rating 13 = .ok (.aload_n 1, 1) := by decide +kernel
theorem dX5_rating_14 : decode cX5_rating 14 = .ok (.iload_n 2, 1) := by decide +kernel
theorem dX5_rating_15 : decode cX5_rating 15 = .ok (.invokespecial 15, 3) := by decide +kernel
theorem dX5_rating_18 : decode cX5_rating 18 = .ok (.iload_n 2, 1) := by decide +kernel
theorem dX5_rating_19 : decode cX5_rating 19 = .ok (.iadd, 1) := by decide +kernel
theorem dX5_rating_20 : decode cX5_rating 20 = .ok (.ireturn, 1) := by decide +kernel
theorem dX6_init_0 : decode cX6_init 0 = .ok (.aload_n 0, 1) := by decide +kernel
theorem dX6_init_1 : decode cX6_init 1 = .ok (.invokespecial 1, 3) := by decide +kernel
theorem dX6_init_4 : decode cX6_init 4 = .ok (.return_, 1) := by decide +kernel
set_option maxRecDepth 20000 in
theorem ggX6_rating_X8_thingsOn : GoodIn wsX6_rating wsX8_thingsOn := goodIn_r _ [6, 7, 8, 9, 5, 10, 11, 25] (by decide +kernel) (by decide +kernel)
set_option maxRecDepth 20000 in
theorem gX6_rating_X8_thingsOn : GoodIn wsX6_rating (wsV RX6 13 RX8 yX8_thingsOn wsX8_thingsOn) := goodIn_app (goodIn_of _ (by decide +kernel)) ggX6_rating_X8_thingsOn
set_option maxRecDepth 20000 in
theorem ggX6_rating_J6_bitCount_0f7a4 : GoodIn wsX6_rating wsJ6_bitCount_0f7a4 := goodIn_r _ [15, 16, 17, 18] (by decide +kernel) (by decide +kernel)
set_option maxRecDepth 20000 in
theorem gX6_rating_J6_bitCount_0f7a4 : GoodIn wsX6_rating (va_wsS RX6 19 yJ6_bitCount_0f7a4 wsJ6_bitCount_0f7a4) := goodIn_app (goodIn_of _ (by decide +kernel)) ggX6_rating_J6_bitCount_0f7a4
theorem dX6_rating_0 : decode cX6_rating 0 = .ok (.aload_n 0, 1) := by decide +kernel
theorem dX6_rating_1 : decode cX6_rating 1 = .ok (.dup, 1) := by decide +kernel
theorem dX6_rating_2 : decode cX6_rating 2 = .ok (.getfield 7, 3) := by decide +kernel
theorem dX6_rating_5 : decode cX6_rating 5 = .ok (.lconst 1, 1) := by decide +kernel
theorem dX6_rating_6 : decode cX6_rating 6 = .ok (.ladd, 1) := by decide +kernel
theorem dX6_rating_7 : decode cX6_rating 7 = .ok (.putfield 7, 3) := by decide +kernel
theorem dX6_rating_10 : decode cX6_rating 10 = .ok (.aload_n 1, 1) := by decide +kernel
theorem dX6_rating_11 : decode cX6_rating 11 = .ok (.iload_n 2, 1) := by decide +kernel
theorem dX6_rating_12 : decode cX6_rating 12 = .ok (.invokevirtual 13, 3) := by decide +kernel
theorem dX6_rating_15 : decode cX6_rating 15 = .ok (.invokestatic 19, 3) := by decide +kernel
theorem dX6_rating_18 : decode cX6_rating 18 = .ok (.ireturn, 1) := by decide +kernel
theorem dX7_init_0 : decode cX7_init 0 = .ok (.aload_n 0, 1) := by decide +kernel
theorem dX7_init_1 : decode cX7_init 1 = .ok (.invokespecial 3, 3) := by decide +kernel
theorem dX7_init_4 : decode cX7_init 4 = .ok (.aload_n 0, 1) := by decide +kernel
theorem dX7_init_5 : decode cX7_init 5 = .ok (.sipush 200, 3) := by decide +kernel
theorem dX7_init_8 : decode cX7_init 8 = .ok (.newarray .int, 2) := by decide +kernel
theorem dX7_init_10 : decode cX7_init 10 = .ok (.putfield 9, 3) := by decide +kernel
theorem dX7_init_13 : decode cX7_init 13 = .ok (.return_, 1) := by decide +kernel
theorem dX7_append_0 : decode cX7_append 0 = .ok (.aload_n 0, 1) := by decide +kernel
theorem dX7_append_1 : decode cX7_append 1 = .ok (.getfield 15, 3) := by decide +kernel
theorem dX7_append_4 : decode cX7_append 4 = .ok (.sipush 200, 3) := by decide +kernel
theorem dX7_append_7 : decode cX7_append 7 = .ok (.if_icmp .lt 5, 3) := by decide +kernel
theorem dX7_append_10 : decode cX7_append 10 = .ok (.iconst 0, 1) := by decide +kernel
theorem dX7_append_11 : decode cX7_append 11 = .ok (.ireturn, 1) := by decide +kernel
theorem dX7_append_12 : decode cX7_append 12 = .ok (.aload_n 0, 1) := by decide +kernel
theorem dX7_append_13 : decode cX7_append 13 = .ok (.getfield 9, 3) := by decide +kernel
theorem dX7_append_16 : decode cX7_append 16 = .ok (.aload_n 0, 1) := by decide +kernel
theorem dX7_append_17 : decode cX7_append 17 = .ok (.getfield 15, 3) := by decide +kernel
theorem dX7_append_20 : decode cX7_append 20 = .ok (.iload_n 1, 1) := by decide +kernel
theorem dX7_append_21 : decode cX7_append 21 = .ok (.iastore, 1) := by decide +kernel
theorem dX7_append_22 : decode cX7_append 22 = .ok (.aload_n 0, 1) := by decide +kernel
theorem dX7_append_23 : decode cX7_append 23 = .ok (.dup, 1) := by decide +kernel
theorem dX7_append_24 : decode cX7_append 24 = .ok (.getfield 15, 3) := by decide +kernel
theorem dX7_append_27 : decode cX7_append 27 = .ok (.iconst 1, 1) := by decide +kernel
theorem dX7_append_28 : decode cX7_append 28 = .ok (.iadd, 1) := by decide +kernel
theorem dX7_append_29 : decode cX7_append 29 = .ok (.putfield 15, 3) := by decide +kernel
theorem dX7_append_32 : decode cX7_append 32 = .ok (.iconst 1, 1) := by decide +kernel
theorem dX7_append_33 : decode cX7_append 33 = .ok (.ireturn, 1) := by decide +kernel
theorem dX7_empty_0 : decode cX7_empty 0 = .ok (.aload_n 0, 1) := by decide +kernel
theorem dX7_empty_1 : decode cX7_empty 1 = .ok (.getfield 15, 3) := by decide +kernel
theorem dX7_empty_4 : decode cX7_empty 4 = .ok (.istore_n 1, 1) := by decide +kernel
theorem dX7_empty_5 : decode cX7_empty 5 = .ok (.aload_n 0, 1) := by decide +kernel
theorem dX7_empty_6 : decode cX7_empty 6 = .ok (.iconst 0, 1) := by decide +kernel
theorem dX7_empty_7 : decode cX7_empty 7 = .ok (.putfield 15, 3) := by decide +kernel
theorem dX7_empty_10 : decode cX7_empty 10 = .ok (.iload_n 1, 1) := by decide +kernel
theorem dX7_empty_11 : decode cX7_empty 11 = .ok (.ireturn, 1) := by decide +kernel
set_option maxRecDepth 20000 in
theorem ggX7_read_X10_begin : GoodIn wsX7_read wsX10_begin := goodIn_r _ [8, 9, 10, 11, 12, 13, 14, 15, 76, 77, 78, 79, 80] (by decide +kernel) (by decide +kernel)
set_option maxRecDepth 20000 in
theorem gX7_read_X10_begin : GoodIn wsX7_read (wsV RX7 19 RX10 yX10_begin wsX10_begin) := goodIn_app (goodIn_of _ (by decide +kernel)) ggX7_read_X10_begin
set_option maxRecDepth 20000 in
theorem ggX7_read_X7_advance : GoodIn wsX7_read wsX7_advance := goodIn_r _ [20, 1, 21, 22, 3, 2, 23, 24, 19, 25, 26, 27, 28, 29, 30, 31, 32, 33, 70, 71, 72, 73, 74, 75] (by decide +kernel) (by decide +kernel)
set_option maxRecDepth 20000 in
theorem gX7_read_X7_advance : GoodIn wsX7_read (wsV RX7 27 RX7 yX7_advance wsX7_advance) := goodIn_app (goodIn_of _ (by decide +kernel)) ggX7_read_X7_advance
set_option maxRecDepth 20000 in
theorem ggX7_read_X7_readItem : GoodIn wsX7_read wsX7_readItem := goodIn_r _ [37, 2, 38, 39, 40, 41, 19, 42, 30, 43, 44, 45, 46, 47, 16, 17, 18, 20, 1, 21, 22, 3, 23, 24, 25, 26, 27, 28, 29, 31, 32, 33, 48, 49, 50, 51, 52, 53, 54, 55, 56, 57, 58, 7, 59, 10, 60, 61, 62, 63, 64, 65, 66, 67, 68, 69, 9, 70, 71, 72, 73, 74, 75, 76, 77, 78, 79, 80] (by decide +kernel) (by decide +kernel)
set_option maxRecDepth 20000 in
theorem gX7_read_X7_readItem : GoodIn wsX7_read (wsV RX7 33 RX7 yX7_readItem wsX7_readItem) := goodIn_app (goodIn_of _ (by decide +kernel)) ggX7_read_X7_readItem
theorem dX7_read_0 : decode cX7_read 0 = .ok (.aload_n 1, 1) := by decide +kernel
theorem dX7_read_1 : decode cX7_read 1 = .ok (.invokevirtual 19, 3) := by decide +kernel
theorem dX7_read_4 : decode cX7_read 4 = .ok (.aload_n 0, 1) := by decide +kernel
theorem dX7_read_5 : decode cX7_read 5 = .ok (.iconst 0, 1) := by decide +kernel
theorem dX7_read_6 : decode cX7_read 6 = .ok (.putfield 24, 3) := by decide +kernel
theorem dX7_read_9 : decode cX7_read 9 = .ok (.aload_n 0, 1) := by decide +kernel
theorem dX7_read_10 : decode cX7_read 10 = .ok (.invokevirtual 27, 3) := by decide +kernel
theorem dX7_read_13 : decode cX7_read 13 = .ok (.iconst 0, 1) := by decide +kernel
theorem dX7_read_14 : decode cX7_read 14 = .ok (.istore_n 2, 1) := by decide +kernel
theorem dX7_read_15 : decode cX7_read 15 = .ok (.aload_n 0, 1) := by decide +kernel
theorem dX7_read_16 : decode cX7_read 16 = .ok (.getfield 30, 3) := by decide +kernel
theorem dX7_read_19 : decode cX7_read 19 = .ok (.ifCond .eq 45, 3) := by decide +kernel
theorem dX7_read_22 : decode cX7_read 22 = .ok (.iload_n 2, 1) := by decide +kernel
theorem dX7_read_23 : decode cX7_read 23 = .ok (.sipush 200, 3) := by decide +kernel
theorem dX7_read_26 : decode cX7_read 26 = .ok (.if_icmp .gt 38, 3) := by decide +kernel
theorem dX7_read_29 : decode cX7_read 29 = .ok (.aload_n 0, 1) := by decide +kernel
theorem dX7_read_30 : decode cX7_read 30 = .ok (.aload_n 1, 1) := by decide +kernel
theorem dX7_read_31 : decode cX7_read 31 = .ok (.iload_n 2, 1) := by decide +kernel
theorem dX7_read_32 : decode cX7_read 32 = .ok (.ifCond .ne 7, 3) := by decide +kernel
theorem dX7_read_35 : decode cX7_read 35 = .ok (.iconst 1, 1) := by decide +kernel
theorem dX7_read_36 : decode cX7_read 36 = .ok (.goto 4, 3) := by decide +kernel
theorem dX7_read_39 : decode cX7_read 39 = .ok (.iconst 0, 1) := by decide +kernel
theorem dX7_read_40 : decode cX7_read 40 = .ok (.invokevirtual 33, 3) := by decide +kernel
theorem dX7_read_43 : decode cX7_read 43 = .ok (.ifCond .ne 11, 3) := by decide +kernel
theorem dX7_read_46 : decode cX7_read 46 = .ok (.bipush (-10), 2) := by decide +kernel
theorem dX7_read_48 : decode cX7_read 48 = .ok (.aload_n 0, 1) := by decide +kernel
theorem dX7_read_49 : decode cX7_read 49 = .ok (.getfield 37, 3) := by decide +kernel
theorem dX7_read_52 : decode cX7_read 52 = .ok (.isub, 1) := by decide +kernel
theorem dX7_read_53 : decode cX7_read 53 = .ok (.ireturn, 1) := by decide +kernel
theorem dX7_read_54 : decode cX7_read 54 = .ok (.iinc 2 1, 3) := by decide +kernel
theorem dX7_read_57 : decode cX7_read 57 = .ok (.aload_n 0, 1) := by decide +kernel
theorem dX7_read_58 : decode cX7_read 58 = .ok (.invokevirtual 27, 3) := by decide +kernel
theorem dX7_read_61 : decode cX7_read 61 = .ok (.goto (-46), 3) := by decide +kernel
theorem dX7_read_64 : decode cX7_read 64 = .ok (.iload_n 2, 1) := by decide +kernel
theorem dX7_read_65 : decode cX7_read 65 = .ok (.ireturn, 1) := by decide +kernel
set_option maxRecDepth 20000 in
theorem ggX7_readItem_X7_readPillows : GoodIn wsX7_readItem wsX7_readPillows := goodIn_r _ [7, 8, 9, 10, 11, 12, 6, 13, 1, 14, 15, 16, 17, 18, 19, 20, 21, 22, 23, 24, 25, 26, 27, 28, 29, 30, 31, 32, 33, 34, 35, 57, 58, 59, 60, 61, 62, 63, 64, 65, 66, 67] (by decide +kernel) (by decide +kernel)
set_option maxRecDepth 20000 in
theorem gX7_readItem_X7_readPillows : GoodIn wsX7_readItem (wsV RX7 40 RX7 yX7_readPillows wsX7_readPillows) := goodIn_app (goodIn_of _ (by decide +kernel)) ggX7_readItem_X7_readPillows
set_option maxRecDepth 20000 in
theorem ggX7_readItem_X7_readPerson : GoodIn wsX7_readItem wsX7_readPerson := goodIn_r _ [39, 8, 10, 11, 12, 6, 13, 1, 14, 15, 16, 17, 18, 19, 20, 21, 22, 23, 24, 25, 26, 27, 28, 29, 30, 31, 40, 41, 42, 43, 44, 45, 46, 47, 32, 33, 34, 35, 57, 58, 59, 60, 61, 62, 63, 64, 65, 66, 67] (by decide +kernel) (by decide +kernel)
set_option maxRecDepth 20000 in
theorem gX7_readItem_X7_readPerson : GoodIn wsX7_readItem (wsV RX7 47 RX7 yX7_readPerson wsX7_readPerson) := goodIn_app (goodIn_of _ (by decide +kernel)) ggX7_readItem_X7_readPerson
set_option maxRecDepth 20000 in
theorem ggX7_readItem_X7_readClash : GoodIn wsX7_readItem wsX7_readClash := goodIn_r _ [51, 8, 10, 11, 12, 6, 13, 1, 14, 15, 16, 17, 18, 19, 20, 21, 22, 23, 24, 25, 26, 27, 28, 29, 30, 31, 52, 53, 54, 43, 55, 56, 32, 33, 34, 35, 57, 58, 59, 60, 61, 62, 63, 64, 65, 66, 67] (by decide +kernel) (by decide +kernel)
set_option maxRecDepth 20000 in
theorem gX7_readItem_X7_readClash : GoodIn wsX7_readItem (wsV RX7 50 RX7 yX7_readClash wsX7_readClash) := goodIn_app (goodIn_of _ (by decide +kernel)) ggX7_readItem_X7_readClash
theorem dX7_readItem_0 : decode cX7_readItem 0 = .ok (.aload_n 0, 1) := by decide +kernel
theorem dX7_readItem_1 : decode cX7_readItem 1 = .ok (.getfield 30, 3) := by decide +kernel
theorem dX7_readItem_4 : decode cX7_readItem 4 = .ok (.lookupswitch 83 #[(112, 54), (113, 36), (120, 77)], 36) := by decide +kernel
theorem dX7_readItem_40 : decode cX7_readItem 40 = .ok (.iload_n 2, 1) := by decide +kernel
theorem dX7_readItem_41 : decode cX7_readItem 41 = .ok (.ifCond .eq 15, 3) := by decide +kernel
theorem dX7_readItem_44 : decode cX7_readItem 44 = .ok (.aload_n 0, 1) := by decide +kernel
theorem dX7_readItem_45 : decode cX7_readItem 45 = .ok (.aload_n 1, 1) := by decide +kernel
theorem dX7_readItem_46 : decode cX7_readItem 46 = .ok (.invokevirtual 40, 3) := by decide +kernel
theorem dX7_readItem_49 : decode cX7_readItem 49 = .ok (.ifCond .eq 7, 3) := by decide +kernel
theorem dX7_readItem_52 : decode cX7_readItem 52 = .ok (.iconst 1, 1) := by decide +kernel
theorem dX7_readItem_53 : decode cX7_readItem 53 = .ok (.goto 4, 3) := by decide +kernel
theorem dX7_readItem_56 : decode cX7_readItem 56 = .ok (.iconst 0, 1) := by decide +kernel
theorem dX7_readItem_57 : decode cX7_readItem 57 = .ok (.ireturn, 1) := by decide +kernel
theorem dX7_readItem_58 : decode cX7_readItem 58 = .ok (.aload_n 1, 1) := by decide +kernel
theorem dX7_readItem_59 : decode cX7_readItem 59 = .ok (.getfield 44, 3) := by decide +kernel
theorem dX7_readItem_62 : decode cX7_readItem 62 = .ok (.bipush 6, 2) := by decide +kernel
theorem dX7_readItem_64 : decode cX7_readItem 64 = .ok (.if_icmp .ge 15, 3) := by decide +kernel
theorem dX7_readItem_67 : decode cX7_readItem 67 = .ok (.aload_n 0, 1) := by decide +kernel
theorem dX7_readItem_68 : decode cX7_readItem 68 = .ok (.aload_n 1, 1) := by decide +kernel
theorem dX7_readItem_69 : decode cX7_readItem 69 = .ok (.invokevirtual 47, 3) := by decide +kernel
theorem dX7_readItem_72 : decode cX7_readItem 72 = .ok (.ifCond .eq 7, 3) := by decide +kernel
theorem dX7_readItem_75 : decode cX7_readItem 75 = .ok (.iconst 1, 1) := by decide +kernel
theorem dX7_readItem_76 : decode cX7_readItem 76 = .ok (.goto 4, 3) := by decide +kernel
theorem dX7_readItem_79 : decode cX7_readItem 79 = .ok (.iconst 0, 1) := by decide +kernel
theorem dX7_readItem_80 : decode cX7_readItem 80 = .ok (.ireturn, 1) := by decide +kernel
theorem dX7_readItem_81 : decode cX7_readItem 81 = .ok (.aload_n 0, 1) := by decide +kernel
theorem dX7_readItem_82 : decode cX7_readItem 82 = .ok (.aload_n 1, 1) := by decide +kernel
theorem dX7_readItem_83 : decode cX7_readItem 83 = .ok (.invokevirtual 50, 3) := by decide +kernel
theorem dX7_readItem_86 : decode cX7_readItem 86 = .ok (.ireturn, 1) := by decide +kernel
theorem dX7_readItem_87 : decode cX7_readItem 87 = .ok (.iconst 0, 1) := by decide +kernel
theorem dX7_readItem_88 : decode cX7_readItem 88 = .ok (.ireturn, 1) := by decide +kernel
set_option maxRecDepth 20000 in
theorem ggX7_readPillows_X7_readNumber : GoodIn wsX7_readPillows wsX7_readNumber := goodIn_r _ [7, 8, 1, 9, 10, 11, 6, 12, 13, 14, 15, 16, 17, 18, 19, 20, 21, 22, 23, 24, 25, 26, 31, 32, 33, 34, 35, 36] (by decide +kernel) (by decide +kernel)
set_option maxRecDepth 20000 in
theorem gX7_readPillows_X7_readNumber : GoodIn wsX7_readPillows (wsV RX7 53 RX7 yX7_readNumber wsX7_readNumber) := goodIn_app (goodIn_of _ (by decide +kernel)) ggX7_readPillows_X7_readNumber
set_option maxRecDepth 20000 in
theorem ggX7_readPillows_X7_readItemEnd : GoodIn wsX7_readPillows wsX7_readItemEnd := goodIn_r _ [30, 8, 9, 10, 11, 6, 12, 13, 14, 15, 16, 17, 18, 19, 20, 21, 22, 23, 1, 24, 25, 26, 31, 32, 33, 34, 35, 36] (by decide +kernel) (by decide +kernel)
set_option maxRecDepth 20000 in
theorem gX7_readPillows_X7_readItemEnd : GoodIn wsX7_readPillows (wsV RX7 63 RX7 yX7_readItemEnd wsX7_readItemEnd) := goodIn_app (goodIn_of _ (by decide +kernel)) ggX7_readPillows_X7_readItemEnd
theorem dX7_readPillows_0 : decode cX7_readPillows 0 = .ok (.aload_n 0, 1) := by decide +kernel
theorem dX7_readPillows_1 : decode cX7_readPillows 1 = .ok (.iconst 1, 1) := by decide +kernel
theorem dX7_readPillows_2 : decode cX7_readPillows 2 = .ok (.bipush 6, 2) := by decide +kernel
theorem dX7_readPillows_4 : decode cX7_readPillows 4 = .ok (.invokevirtual 53, 3) := by decide +kernel
theorem dX7_readPillows_7 : decode cX7_readPillows 7 = .ok (.ifCond .ne 5, 3) := by decide +kernel
theorem dX7_readPillows_10 : decode cX7_readPillows 10 = .ok (.iconst 0, 1) := by decide +kernel
theorem dX7_readPillows_11 : decode cX7_readPillows 11 = .ok (.ireturn, 1) := by decide +kernel
theorem dX7_readPillows_12 : decode cX7_readPillows 12 = .ok (.aload_n 1, 1) := by decide +kernel
theorem dX7_readPillows_13 : decode cX7_readPillows 13 = .ok (.aload_n 0, 1) := by decide +kernel
theorem dX7_readPillows_14 : decode cX7_readPillows 14 = .ok (.getfield 57, 3) := by decide +kernel
theorem dX7_readPillows_17 : decode cX7_readPillows 17 = .ok (.putfield 60, 3) := by decide +kernel
theorem dX7_readPillows_20 : decode cX7_readPillows 20 = .ok (.aload_n 0, 1) := by decide +kernel
theorem dX7_readPillows_21 : decode cX7_readPillows 21 = .ok (.invokevirtual 63, 3) := by decide +kernel
theorem dX7_readPillows_24 : decode cX7_readPillows 24 = .ok (.ireturn, 1) := by decide +kernel
set_option maxRecDepth 20000 in
theorem ggX7_readPerson_X7_readNumber : GoodIn wsX7_readPerson wsX7_readNumber := goodIn_r _ [6, 7, 1, 8, 9, 10, 5, 11, 12, 13, 14, 15, 16, 17, 18, 19, 20, 21, 22, 23, 24, 25, 38, 39, 40, 41, 42, 43] (by decide +kernel) (by decide +kernel)
set_option maxRecDepth 20000 in
theorem gX7_readPerson_X7_readNumber : GoodIn wsX7_readPerson (wsV RX7 53 RX7 yX7_readNumber wsX7_readNumber) := goodIn_app (goodIn_of _ (by decide +kernel)) ggX7_readPerson_X7_readNumber
set_option maxRecDepth 20000 in
theorem ggX7_readPerson_X10_addPerson : GoodIn wsX7_readPerson wsX10_addPerson := goodIn_r _ [30, 31, 32, 33, 44, 45, 46, 47, 48] (by decide +kernel) (by decide +kernel)
set_option maxRecDepth 20000 in
theorem gX7_readPerson_X10_addPerson : GoodIn wsX7_readPerson (wsV RX7 67 RX10 yX10_addPerson wsX10_addPerson) := goodIn_app (goodIn_of _ (by decide +kernel)) ggX7_readPerson_X10_addPerson
set_option maxRecDepth 20000 in
theorem ggX7_readPerson_X7_readItemEnd : GoodIn wsX7_readPerson wsX7_readItemEnd := goodIn_r _ [37, 7, 8, 9, 10, 5, 11, 12, 13, 14, 15, 16, 17, 18, 19, 20, 21, 22, 1, 23, 24, 25, 38, 39, 40, 41, 42, 43] (by decide +kernel) (by decide +kernel)
set_option maxRecDepth 20000 in
theorem gX7_readPerson_X7_readItemEnd : GoodIn wsX7_readPerson (wsV RX7 63 RX7 yX7_readItemEnd wsX7_readItemEnd) := goodIn_app (goodIn_of _ (by decide +kernel)) ggX7_readPerson_X7_readItemEnd
theorem dX7_readPerson_0 : decode cX7_readPerson 0 = .ok (.aload_n 0, 1) := by decide +kernel
theorem dX7_readPerson_1 : decode cX7_readPerson 1 = .ok (.iconst 0, 1) := by decide +kernel
theorem dX7_readPerson_2 : decode cX7_readPerson 2 = .ok (.bipush 127, 2) := by decide +kernel
theorem dX7_readPerson_4 : decode cX7_readPerson 4 = .ok (.invokevirtual 53, 3) := by decide +kernel
theorem dX7_readPerson_7 : decode cX7_readPerson 7 = .ok (.ifCond .ne 5, 3) := by decide +kernel
theorem dX7_readPerson_10 : decode cX7_readPerson 10 = .ok (.iconst 0, 1) := by decide +kernel
theorem dX7_readPerson_11 : decode cX7_readPerson 11 = .ok (.ireturn, 1) := by decide +kernel
theorem dX7_readPerson_12 : decode cX7_readPerson 12 = .ok (.aload_n 0, 1) := by decide +kernel
theorem dX7_readPerson_13 : decode cX7_readPerson 13 = .ok (.getfield 57, 3) := by decide +kernel
theorem dX7_readPerson_16 : decode cX7_readPerson 16 = .ok (.istore_n 2, 1) := by decide +kernel
theorem dX7_readPerson_17 : decode cX7_readPerson 17 = .ok (.aload_n 0, 1) := by decide +kernel
theorem dX7_readPerson_18 : decode cX7_readPerson 18 = .ok (.iconst 0, 1) := by decide +kernel
theorem dX7_readPerson_19 : decode cX7_readPerson 19 = .ok (.bipush 10, 2) := by decide +kernel
theorem dX7_readPerson_21 : decode cX7_readPerson 21 = .ok (.invokevirtual 53, 3) := by decide +kernel
theorem dX7_readPerson_24 : decode cX7_readPerson 24 = .ok (.ifCond .ne 5, 3) := by decide +kernel
theorem dX7_readPerson_27 : decode cX7_readPerson 27 = .ok (.iconst 0, 1) := by decide +kernel
theorem dX7_readPerson_28 : decode cX7_readPerson 28 = .ok (.ireturn, 1) := by decide +kernel
theorem dX7_readPerson_29 : decode cX7_readPerson 29 = .ok (.aload_n 1, 1) := by decide +kernel
theorem dX7_readPerson_30 : decode cX7_readPerson 30 = .ok (.iload_n 2, 1) := by decide +kernel
theorem dX7_readPerson_31 : decode cX7_readPerson 31 = .ok (.aload_n 0, 1) := by decide +kernel
theorem dX7_readPerson_32 : decode cX7_readPerson 32 = .ok (.getfield 57, 3) := by decide +kernel
theorem dX7_readPerson_35 : decode cX7_readPerson 35 = .ok (.invokevirtual 67, 3) := by decide +kernel
theorem dX7_readPerson_38 : decode cX7_readPerson 38 = .ok (.aload_n 0, 1) := by decide +kernel
theorem dX7_readPerson_39 : decode cX7_readPerson 39 = .ok (.invokevirtual 63, 3) := by decide +kernel
theorem dX7_readPerson_42 : decode cX7_readPerson 42 = .ok (.ireturn, 1) := by decide +kernel
set_option maxRecDepth 20000 in
theorem ggX7_readClash_X7_readNumber : GoodIn wsX7_readClash wsX7_readNumber := goodIn_r _ [6, 7, 1, 8, 9, 10, 5, 11, 12, 13, 14, 15, 16, 17, 18, 19, 20, 21, 22, 23, 24, 25, 36, 37, 38, 39, 40, 41] (by decide +kernel) (by decide +kernel)
set_option maxRecDepth 20000 in
theorem gX7_readClash_X7_readNumber : GoodIn wsX7_readClash (wsV RX7 53 RX7 yX7_readNumber wsX7_readNumber) := goodIn_app (goodIn_of _ (by decide +kernel)) ggX7_readClash_X7_readNumber
set_option maxRecDepth 20000 in
theorem ggX7_readClash_X10_addClash : GoodIn wsX7_readClash wsX10_addClash := goodIn_r _ [30, 31, 42, 43, 44, 45, 46] (by decide +kernel) (by decide +kernel)
set_option maxRecDepth 20000 in
theorem gX7_readClash_X10_addClash : GoodIn wsX7_readClash (wsV RX7 71 RX10 yX10_addClash wsX10_addClash) := goodIn_app (goodIn_of _ (by decide +kernel)) ggX7_readClash_X10_addClash
set_option maxRecDepth 20000 in
theorem ggX7_readClash_X7_readItemEnd : GoodIn wsX7_readClash wsX7_readItemEnd := goodIn_r _ [35, 7, 8, 9, 10, 5, 11, 12, 13, 14, 15, 16, 17, 18, 19, 20, 21, 22, 1, 23, 24, 25, 36, 37, 38, 39, 40, 41] (by decide +kernel) (by decide +kernel)
set_option maxRecDepth 20000 in
theorem gX7_readClash_X7_readItemEnd : GoodIn wsX7_readClash (wsV RX7 63 RX7 yX7_readItemEnd wsX7_readItemEnd) := goodIn_app (goodIn_of _ (by decide +kernel)) ggX7_readClash_X7_readItemEnd
theorem dX7_readClash_0 : decode cX7_readClash 0 = .ok (.aload_n 0, 1) := by decide +kernel
theorem dX7_readClash_1 : decode cX7_readClash 1 = .ok (.iconst 0, 1) := by decide +kernel
theorem dX7_readClash_2 : decode cX7_readClash 2 = .ok (.bipush 6, 2) := by decide +kernel
theorem dX7_readClash_4 : decode cX7_readClash 4 = .ok (.invokevirtual 53, 3) := by decide +kernel
theorem dX7_readClash_7 : decode cX7_readClash 7 = .ok (.ifCond .ne 5, 3) := by decide +kernel
theorem dX7_readClash_10 : decode cX7_readClash 10 = .ok (.iconst 0, 1) := by decide +kernel
theorem dX7_readClash_11 : decode cX7_readClash 11 = .ok (.ireturn, 1) := by decide +kernel
theorem dX7_readClash_12 : decode cX7_readClash 12 = .ok (.aload_n 0, 1) := by decide +kernel
theorem dX7_readClash_13 : decode cX7_readClash 13 = .ok (.getfield 57, 3) := by decide +kernel
theorem dX7_readClash_16 : decode cX7_readClash 16 = .ok (.istore_n 2, 1) := by decide +kernel
theorem dX7_readClash_17 : decode cX7_readClash 17 = .ok (.aload_n 0, 1) := by decide +kernel
theorem dX7_readClash_18 : decode cX7_readClash 18 = .ok (.iconst 0, 1) := by decide +kernel
theorem dX7_readClash_19 : decode cX7_readClash 19 = .ok (.bipush 6, 2) := by decide +kernel
theorem dX7_readClash_21 : decode cX7_readClash 21 = .ok (.invokevirtual 53, 3) := by decide +kernel
theorem dX7_readClash_24 : decode cX7_readClash 24 = .ok (.ifCond .eq 11, 3) := by decide +kernel
theorem dX7_readClash_27 : decode cX7_readClash 27 = .ok (.aload_n 0, 1) := by decide +kernel
theorem dX7_readClash_28 : decode cX7_readClash 28 = .ok (.getfield 57, 3) := by decide +kernel
theorem dX7_readClash_31 : decode cX7_readClash 31 = .ok (.iload_n 2, 1) := by decide +kernel
theorem dX7_readClash_32 : decode cX7_readClash 32 = .ok (.if_icmp .ne 5, 3) := by decide +kernel
theorem dX7_readClash_35 : decode cX7_readClash 35 = .ok (.iconst 0, 1) := by decide +kernel
theorem dX7_readClash_36 : decode cX7_readClash 36 = .ok (.ireturn, 1) := by decide +kernel
theorem dX7_readClash_37 : decode cX7_readClash 37 = .ok (.aload_n 1, 1) := by decide +kernel
theorem dX7_readClash_38 : decode cX7_readClash 38 = .ok (.iload_n 2, 1) := by decide +kernel
theorem dX7_readClash_39 : decode cX7_readClash 39 = .ok (.aload_n 0, 1) := by decide +kernel
theorem dX7_readClash_40 : decode cX7_readClash 40 = .ok (.getfield 57, 3) := by decide +kernel
theorem dX7_readClash_43 : decode cX7_readClash 43 = .ok (.invokevirtual 71, 3) := by decide +kernel
theorem dX7_readClash_46 : decode cX7_readClash 46 = .ok (.aload_n 0, 1) := by decide +kernel
theorem dX7_readClash_47 : decode cX7_readClash 47 = .ok (.invokevirtual 63, 3) := by decide +kernel
theorem dX7_readClash_50 : decode cX7_readClash 50 = .ok (.ireturn, 1) := by decide +kernel
set_option maxRecDepth 20000 in
theorem ggX7_readNumber_X7_advance : GoodIn wsX7_readNumber wsX7_advance := goodIn_r _ [7, 8, 9, 10, 11, 1, 12, 13, 6, 14, 15, 16, 17, 18, 2, 19, 20, 21, 22, 23, 24, 25, 26, 27] (by decide +kernel) (by decide +kernel)
set_option maxRecDepth 20000 in
theorem gX7_readNumber_X7_advance : GoodIn wsX7_readNumber (wsV RX7 27 RX7 yX7_advance wsX7_advance) := goodIn_app (goodIn_of _ (by decide +kernel)) ggX7_readNumber_X7_advance
theorem dX7_readNumber_0 : decode cX7_readNumber 0 = .ok (.aload_n 0, 1) := by decide +kernel
theorem dX7_readNumber_1 : decode cX7_readNumber 1 = .ok (.invokevirtual 27, 3) := by decide +kernel
theorem dX7_readNumber_4 : decode cX7_readNumber 4 = .ok (.aload_n 0, 1) := by decide +kernel
theorem dX7_readNumber_5 : decode cX7_readNumber 5 = .ok (.getfield 30, 3) := by decide +kernel
theorem dX7_readNumber_8 : decode cX7_readNumber 8 = .ok (.iconst 1, 1) := by decide +kernel
theorem dX7_readNumber_9 : decode cX7_readNumber 9 = .ok (.if_icmp .ne 23, 3) := by decide +kernel
theorem dX7_readNumber_12 : decode cX7_readNumber 12 = .ok (.aload_n 0, 1) := by decide +kernel
theorem dX7_readNumber_13 : decode cX7_readNumber 13 = .ok (.getfield 57, 3) := by decide +kernel
theorem dX7_readNumber_16 : decode cX7_readNumber 16 = .ok (.iload_n 1, 1) := by decide +kernel
theorem dX7_readNumber_17 : decode cX7_readNumber 17 = .ok (.if_icmp .lt 15, 3) := by decide +kernel
theorem dX7_readNumber_20 : decode cX7_readNumber 20 = .ok (.aload_n 0, 1) := by decide +kernel
theorem dX7_readNumber_21 : decode cX7_readNumber 21 = .ok (.getfield 57, 3) := by decide +kernel
theorem dX7_readNumber_24 : decode cX7_readNumber 24 = .ok (.iload_n 2, 1) := by decide +kernel
theorem dX7_readNumber_25 : decode cX7_readNumber 25 = .ok (.if_icmp .gt 7, 3) := by decide +kernel
theorem dX7_readNumber_28 : decode cX7_readNumber 28 = .ok (.iconst 1, 1) := by decide +kernel
theorem dX7_readNumber_29 : decode cX7_readNumber 29 = .ok (.goto 4, 3) := by decide +kernel
theorem dX7_readNumber_32 : decode cX7_readNumber 32 = .ok (.iconst 0, 1) := by decide +kernel
theorem dX7_readNumber_33 : decode cX7_readNumber 33 = .ok (.ireturn, 1) := by decide +kernel
set_option maxRecDepth 20000 in
theorem ggX7_readItemEnd_X7_advance : GoodIn wsX7_readItemEnd wsX7_advance := goodIn_r _ [6, 7, 8, 9, 10, 1, 11, 12, 5, 13, 14, 15, 16, 17, 18, 19, 20, 21, 22, 23, 24, 25, 26, 27] (by decide +kernel) (by decide +kernel)
set_option maxRecDepth 20000 in
theorem gX7_readItemEnd_X7_advance : GoodIn wsX7_readItemEnd (wsV RX7 27 RX7 yX7_advance wsX7_advance) := goodIn_app (goodIn_of _ (by decide +kernel)) ggX7_readItemEnd_X7_advance
theorem dX7_readItemEnd_0 : decode cX7_readItemEnd 0 = .ok (.aload_n 0, 1) := by decide +kernel
theorem dX7_readItemEnd_1 : decode cX7_readItemEnd 1 = .ok (.invokevirtual 27, 3) := by decide +kernel
theorem dX7_readItemEnd_4 : decode cX7_readItemEnd 4 = .ok (.aload_n 0, 1) := by decide +kernel
theorem dX7_readItemEnd_5 : decode cX7_readItemEnd 5 = .ok (.getfield 30, 3) := by decide +kernel
theorem dX7_readItemEnd_8 : decode cX7_readItemEnd 8 = .ok (.bipush 59, 2) := by decide +kernel
theorem dX7_readItemEnd_10 : decode cX7_readItemEnd 10 = .ok (.if_icmp .ne 7, 3) := by decide +kernel
theorem dX7_readItemEnd_13 : decode cX7_readItemEnd 13 = .ok (.iconst 1, 1) := by decide +kernel
theorem dX7_readItemEnd_14 : decode cX7_readItemEnd 14 = .ok (.goto 4, 3) := by decide +kernel
theorem dX7_readItemEnd_17 : decode cX7_readItemEnd 17 = .ok (.iconst 0, 1) := by decide +kernel
theorem dX7_readItemEnd_18 : decode cX7_readItemEnd 18 = .ok (.ireturn, 1) := by decide +kernel
set_option maxRecDepth 20000 in
theorem ggX7_advance_X7_isDigit : GoodIn wsX7_advance wsX7_isDigit := goodIn_r _ [9] (by decide +kernel) (by decide +kernel)
set_option maxRecDepth 20000 in
theorem gX7_advance_X7_isDigit : GoodIn wsX7_advance (va_wsS RX7 74 yX7_isDigit wsX7_isDigit) := goodIn_app (goodIn_of _ (by decide +kernel)) ggX7_advance_X7_isDigit
set_option maxRecDepth 20000 in
theorem ggX7_advance_X7_scanNumber : GoodIn wsX7_advance wsX7_scanNumber := goodIn_r _ [13, 14, 1, 2, 3, 4, 6, 7, 8, 9, 18, 19, 20, 21, 22, 23] (by decide +kernel) (by decide +kernel)
set_option maxRecDepth 20000 in
theorem gX7_advance_X7_scanNumber : GoodIn wsX7_advance (wsV RX7 78 RX7 yX7_scanNumber wsX7_scanNumber) := goodIn_app (goodIn_of _ (by decide +kernel)) ggX7_advance_X7_scanNumber
set_option maxRecDepth 20000 in
theorem ggX7_advance_X7_tokenOf : GoodIn wsX7_advance wsX7_tokenOf := goodIn_r _ [17] (by decide +kernel) (by decide +kernel)
set_option maxRecDepth 20000 in
theorem gX7_advance_X7_tokenOf : GoodIn wsX7_advance (va_wsS RX7 82 yX7_tokenOf wsX7_tokenOf) := goodIn_app (goodIn_of _ (by decide +kernel)) ggX7_advance_X7_tokenOf
theorem dX7_advance_0 : decode cX7_advance 0 = .ok (.aload_n 0, 1) := by decide +kernel
theorem dX7_advance_1 : decode cX7_advance 1 = .ok (.getfield 24, 3) := by decide +kernel
theorem dX7_advance_4 : decode cX7_advance 4 = .ok (.aload_n 0, 1) := by decide +kernel
theorem dX7_advance_5 : decode cX7_advance 5 = .ok (.getfield 15, 3) := by decide +kernel
theorem dX7_advance_8 : decode cX7_advance 8 = .ok (.if_icmp .ge 30, 3) := by decide +kernel
theorem dX7_advance_11 : decode cX7_advance 11 = .ok (.aload_n 0, 1) := by decide +kernel
theorem dX7_advance_12 : decode cX7_advance 12 = .ok (.getfield 9, 3) := by decide +kernel
theorem dX7_advance_15 : decode cX7_advance 15 = .ok (.aload_n 0, 1) := by decide +kernel
theorem dX7_advance_16 : decode cX7_advance 16 = .ok (.getfield 24, 3) := by decide +kernel
theorem dX7_advance_19 : decode cX7_advance 19 = .ok (.iaload, 1) := by decide +kernel
theorem dX7_advance_20 : decode cX7_advance 20 = .ok (.bipush 32, 2) := by decide +kernel
theorem dX7_advance_22 : decode cX7_advance 22 = .ok (.if_icmp .ne 16, 3) := by decide +kernel
theorem dX7_advance_25 : decode cX7_advance 25 = .ok (.aload_n 0, 1) := by decide +kernel
theorem dX7_advance_26 : decode cX7_advance 26 = .ok (.dup, 1) := by decide +kernel
theorem dX7_advance_27 : decode cX7_advance 27 = .ok (.getfield 24, 3) := by decide +kernel
theorem dX7_advance_30 : decode cX7_advance 30 = .ok (.iconst 1, 1) := by decide +kernel
theorem dX7_advance_31 : decode cX7_advance 31 = .ok (.iadd, 1) := by decide +kernel
theorem dX7_advance_32 : decode cX7_advance 32 = .ok (.putfield 24, 3) := by decide +kernel
theorem dX7_advance_35 : decode cX7_advance 35 = .ok (.goto (-35), 3) := by decide +kernel
theorem dX7_advance_38 : decode cX7_advance 38 = .ok (.aload_n 0, 1) := by decide +kernel
theorem dX7_advance_39 : decode cX7_advance 39 = .ok (.aload_n 0, 1) := by decide +kernel
theorem dX7_advance_40 : decode cX7_advance 40 = .ok (.getfield 24, 3) := by decide +kernel
theorem dX7_advance_43 : decode cX7_advance 43 = .ok (.putfield 37, 3) := by decide +kernel
theorem dX7_advance_46 : decode cX7_advance 46 = .ok (.aload_n 0, 1) := by decide +kernel
theorem dX7_advance_47 : decode cX7_advance 47 = .ok (.getfield 24, 3) := by decide +kernel
theorem dX7_advance_50 : decode cX7_advance 50 = .ok (.aload_n 0, 1) := by decide +kernel
theorem dX7_advance_51 : decode cX7_advance 51 = .ok (.getfield 15, 3) := by decide +kernel
theorem dX7_advance_54 : decode cX7_advance 54 = .ok (.if_icmp .lt 11, 3) := by decide +kernel
theorem dX7_advance_57 : decode cX7_advance 57 = .ok (.aload_n 0, 1) := by decide +kernel
theorem dX7_advance_58 : decode cX7_advance 58 = .ok (.iconst 0, 1) := by decide +kernel
theorem dX7_advance_59 : decode cX7_advance 59 = .ok (.putfield 30, 3) := by decide +kernel
theorem dX7_advance_62 : decode cX7_advance 62 = .ok (.goto 55, 3) := by decide +kernel
theorem dX7_advance_65 : decode cX7_advance 65 = .ok (.aload_n 0, 1) := by decide +kernel
theorem dX7_advance_66 : decode cX7_advance 66 = .ok (.getfield 9, 3) := by decide +kernel
theorem dX7_advance_69 : decode cX7_advance 69 = .ok (.aload_n 0, 1) := by decide +kernel
theorem dX7_advance_70 : decode cX7_advance 70 = .ok (.getfield 24, 3) := by decide +kernel
theorem dX7_advance_73 : decode cX7_advance 73 = .ok (.iaload, 1) := by decide +kernel
theorem dX7_advance_74 : decode cX7_advance 74 = .ok (.invokestatic 74, 3) := by decide +kernel
theorem dX7_advance_77 : decode cX7_advance 77 = .ok (.ifCond .eq 14, 3) := by decide +kernel
theorem dX7_advance_80 : decode cX7_advance 80 = .ok (.aload_n 0, 1) := by decide +kernel
theorem dX7_advance_81 : decode cX7_advance 81 = .ok (.aload_n 0, 1) := by decide +kernel
theorem dX7_advance_82 : decode cX7_advance 82 = .ok (.invokevirtual 78, 3) := by decide +kernel
theorem dX7_advance_85 : decode cX7_advance 85 = .ok (.putfield 30, 3) := by decide +kernel
theorem dX7_advance_88 : decode cX7_advance 88 = .ok (.goto 29, 3) := by decide +kernel
theorem dX7_advance_91 : decode cX7_advance 91 = .ok (.aload_n 0, 1) := by decide +kernel
theorem dX7_advance_92 : decode cX7_advance 92 = .ok (.aload_n 0, 1) := by decide +kernel
theorem dX7_advance_93 : decode cX7_advance 93 = .ok (.getfield 9, 3) := by decide +kernel
theorem dX7_advance_96 : decode cX7_advance 96 = .ok (.aload_n 0, 1) := by decide +kernel
theorem dX7_advance_97 : decode cX7_advance 97 = .ok (.getfield 24, 3) := by decide +kernel
theorem dX7_advance_100 : decode cX7_advance 100 = .ok (.iaload, 1) := by decide +kernel
theorem dX7_advance_101 : decode cX7_advance 101 = .ok (.invokestatic 82, 3) := by decide +kernel
theorem dX7_advance_104 : decode cX7_advance 104 = .ok (.putfield 30, 3) := by decide +kernel
theorem dX7_advance_107 : decode cX7_advance 107 = .ok (.aload_n 0, 1) := by decide +kernel
theorem dX7_advance_108 : decode cX7_advance 108 = .ok (.dup, 1) := by decide +kernel
theorem dX7_advance_109 : decode cX7_advance 109 = .ok (.getfield 24, 3) := by decide +kernel
theorem dX7_advance_112 : decode cX7_advance 112 = .ok (.iconst 1, 1) := by decide +kernel
theorem dX7_advance_113 : decode cX7_advance 113 = .ok (.iadd, 1) := by decide +kernel
theorem dX7_advance_114 : decode cX7_advance 114 = .ok (.putfield 24, 3) := by decide +kernel
theorem dX7_advance_117 : decode cX7_advance 117 = .ok (.return_, 1) := by decide +kernel
end
section
theorem dX7_isDigit_0 : decode cX7_isDigit 0 = .ok (.iload_n 0, 1) := by decide +kernel
theorem dX7_isDigit_1 : decode cX7_isDigit 1 = .ok (.bipush 48, 2) := by decide +kernel
theorem dX7_isDigit_3 : decode cX7_isDigit 3 = .ok (.if_icmp .lt 13, 3) := by decide +kernel
theorem dX7_isDigit_6 : decode cX7_isDigit 6 = .ok (.iload_n 0, 1) := by decide +kernel
theorem dX7_isDigit_7 : decode cX7_isDigit 7 = .ok (.bipush 57, 2) := by decide +kernel
theorem dX7_isDigit_9 : decode cX7_isDigit 9 = .ok (.if_icmp .gt 7, 3) := by decide +kernel
theorem dX7_isDigit_12 : decode cX7_isDigit 12 = .ok (.iconst 1, 1) := by decide +kernel
theorem dX7_isDigit_13 : decode cX7_isDigit 13 = .ok (.goto 4, 3) := by decide +kernel
theorem dX7_isDigit_16 : decode cX7_isDigit 16 = .ok (.iconst 0, 1) := by decide +kernel
theorem dX7_isDigit_17 : decode cX7_isDigit 17 = .ok (.ireturn, 1) := by decide +kernel
set_option maxRecDepth 20000 in
theorem ggX7_scanNumber_X7_isDigit : GoodIn wsX7_scanNumber wsX7_isDigit := goodIn_r _ [9] (by decide +kernel) (by decide +kernel)
set_option maxRecDepth 20000 in
theorem gX7_scanNumber_X7_isDigit : GoodIn wsX7_scanNumber (va_wsS RX7 74 yX7_isDigit wsX7_isDigit) := goodIn_app (goodIn_of _ (by decide +kernel)) ggX7_scanNumber_X7_isDigit
theorem dX7_scanNumber_0 : decode cX7_scanNumber 0 = .ok (.aload_n 0, 1) := by decide +kernel
theorem dX7_scanNumber_1 : decode cX7_scanNumber 1 = .ok (.iconst 0, 1) := by decide +kernel
theorem dX7_scanNumber_2 : decode cX7_scanNumber 2 = .ok (.putfield 57, 3) := by decide +kernel
theorem dX7_scanNumber_5 : decode cX7_scanNumber 5 = .ok (.aload_n 0, 1) := by decide +kernel
theorem dX7_scanNumber_6 : decode cX7_scanNumber 6 = .ok (.getfield 24, 3) := by decide +kernel
theorem dX7_scanNumber_9 : decode cX7_scanNumber 9 = .ok (.aload_n 0, 1) := by decide +kernel
theorem dX7_scanNumber_10 : decode cX7_scanNumber 10 = .ok (.getfield 15, 3) := by decide +kernel
theorem dX7_scanNumber_13 : decode cX7_scanNumber 13 = .ok (.if_icmp .ge 64, 3) := by decide +kernel
theorem dX7_scanNumber_16 : decode cX7_scanNumber 16 = .ok (.aload_n 0, 1) := by decide +kernel
theorem dX7_scanNumber_17 : decode cX7_scanNumber 17 = .ok (.getfield 9, 3) := by decide +kernel
theorem dX7_scanNumber_20 : decode cX7_scanNumber 20 = .ok (.aload_n 0, 1) := by decide +kernel
theorem dX7_scanNumber_21 : decode cX7_scanNumber 21 = .ok (.getfield 24, 3) := by decide +kernel
theorem dX7_scanNumber_24 : decode cX7_scanNumber 24 = .ok (.iaload, 1) := by decide +kernel
theorem dX7_scanNumber_25 : decode cX7_scanNumber 25 = .ok (.invokestatic 74, 3) := by decide +kernel
theorem dX7_scanNumber_28 : decode cX7_scanNumber 28 = .ok (.ifCond .eq 49, 3) := by decide +kernel
theorem dX7_scanNumber_31 : decode cX7_scanNumber 31 = .ok (.aload_n 0, 1) := by decide +kernel
theorem dX7_scanNumber_32 : decode cX7_scanNumber 32 = .ok (.getfield 57, 3) := by decide +kernel
theorem dX7_scanNumber_35 : decode cX7_scanNumber 35 = .ok (.bipush 127, 2) := by decide +kernel
theorem dX7_scanNumber_37 : decode cX7_scanNumber 37 = .ok (.if_icmp .gt 27, 3) := by decide +kernel
theorem dX7_scanNumber_40 : decode cX7_scanNumber 40 = .ok (.aload_n 0, 1) := by decide +kernel
theorem dX7_scanNumber_41 : decode cX7_scanNumber 41 = .ok (.aload_n 0, 1) := by decide +kernel
theorem dX7_scanNumber_42 : decode cX7_scanNumber 42 = .ok (.getfield 57, 3) := by decide +kernel
theorem dX7_scanNumber_45 : decode cX7_scanNumber 45 = .ok (.bipush 10, 2) := by decide +kernel
theorem dX7_scanNumber_47 : decode cX7_scanNumber 47 = .ok (.imul, 1) := by decide +kernel
theorem dX7_scanNumber_48 : decode cX7_scanNumber 48 = .ok (.aload_n 0, 1) := by decide +kernel
theorem dX7_scanNumber_49 : decode cX7_scanNumber 49 = .ok (.getfield 9, 3) := by decide +kernel
theorem dX7_scanNumber_52 : decode cX7_scanNumber 52 = .ok (.aload_n 0, 1) := by decide +kernel
theorem dX7_scanNumber_53 : decode cX7_scanNumber 53 = .ok (.getfield 24, 3) := by decide +kernel
theorem dX7_scanNumber_56 : decode cX7_scanNumber 56 = .ok (.iaload, 1) := by decide +kernel
theorem dX7_scanNumber_57 : decode cX7_scanNumber 57 = .ok (.iadd, 1) := by decide +kernel
theorem dX7_scanNumber_58 : decode cX7_scanNumber 58 = .ok (.bipush 48, 2) := by decide +kernel
theorem dX7_scanNumber_60 : decode cX7_scanNumber 60 = .ok (.isub, 1) := by decide +kernel
theorem dX7_scanNumber_61 : decode cX7_scanNumber 61 = .ok (.putfield 57, 3) := by decide +kernel
theorem dX7_scanNumber_64 : decode cX7_scanNumber 64 = .ok (.aload_n 0, 1) := by decide +kernel
theorem dX7_scanNumber_65 : decode cX7_scanNumber 65 = .ok (.dup, 1) := by decide +kernel
theorem dX7_scanNumber_66 : decode cX7_scanNumber 66 = .ok (.getfield 24, 3) := by decide +kernel
theorem dX7_scanNumber_69 : decode cX7_scanNumber 69 = .ok (.iconst 1, 1) := by decide +kernel
theorem dX7_scanNumber_70 : decode cX7_scanNumber 70 = .ok (.iadd, 1) := by decide +kernel
theorem dX7_scanNumber_71 : decode cX7_scanNumber 71 = .ok (.putfield 24, 3) := by decide +kernel
theorem dX7_scanNumber_74 : decode cX7_scanNumber 74 = .ok (.goto (-69), 3) := by decide +kernel
theorem dX7_scanNumber_77 : decode cX7_scanNumber 77 = .ok (.aload_n 0, 1) := by decide +kernel
theorem dX7_scanNumber_78 : decode cX7_scanNumber 78 = .ok (.getfield 24, 3) := by decide +kernel
theorem dX7_scanNumber_81 : decode cX7_scanNumber 81 = .ok (.aload_n 0, 1) := by decide +kernel
theorem dX7_scanNumber_82 : decode cX7_scanNumber 82 = .ok (.getfield 37, 3) := by decide +kernel
theorem dX7_scanNumber_85 : decode cX7_scanNumber 85 = .ok (.isub, 1) := by decide +kernel
theorem dX7_scanNumber_86 : decode cX7_scanNumber 86 = .ok (.iconst 1, 1) := by decide +kernel
theorem dX7_scanNumber_87 : decode cX7_scanNumber 87 = .ok (.if_icmp .le 21, 3) := by decide +kernel
theorem dX7_scanNumber_90 : decode cX7_scanNumber 90 = .ok (.aload_n 0, 1) := by decide +kernel
theorem dX7_scanNumber_91 : decode cX7_scanNumber 91 = .ok (.getfield 9, 3) := by decide +kernel
theorem dX7_scanNumber_94 : decode cX7_scanNumber 94 = .ok (.aload_n 0, 1) := by decide +kernel
theorem dX7_scanNumber_95 : decode cX7_scanNumber 95 = .ok (.getfield 37, 3) := by decide +kernel
theorem dX7_scanNumber_98 : decode cX7_scanNumber 98 = .ok (.iaload, 1) := by decide +kernel
theorem dX7_scanNumber_99 : decode cX7_scanNumber 99 = .ok (.bipush 48, 2) := by decide +kernel
theorem dX7_scanNumber_101 : decode cX7_scanNumber 101 = .ok (.if_icmp .ne 7, 3) := by decide +kernel
theorem dX7_scanNumber_104 : decode cX7_scanNumber 104 = .ok (.iconst 1, 1) := by decide +kernel
theorem dX7_scanNumber_105 : decode cX7_scanNumber 105 = .ok (.goto 4, 3) := by decide +kernel
theorem dX7_scanNumber_108 : decode cX7_scanNumber 108 = .ok (.iconst 0, 1) := by decide +kernel
theorem dX7_scanNumber_109 : decode cX7_scanNumber 109 = .ok (.istore_n 1, 1) := by decide +kernel
theorem dX7_scanNumber_110 : decode cX7_scanNumber 110 = .ok (.iload_n 1, 1) := by decide +kernel
theorem dX7_scanNumber_111 : decode cX7_scanNumber 111 = .ok (.ifCond .ne 12, 3) := by decide +kernel
theorem dX7_scanNumber_114 : decode cX7_scanNumber 114 = .ok (.aload_n 0, 1) := by decide +kernel
theorem dX7_scanNumber_115 : decode cX7_scanNumber 115 = .ok (.getfield 57, 3) := by decide +kernel
theorem dX7_scanNumber_118 : decode cX7_scanNumber 118 = .ok (.bipush 127, 2) := by decide +kernel
theorem dX7_scanNumber_120 : decode cX7_scanNumber 120 = .ok (.if_icmp .le 7, 3) := by decide +kernel
theorem dX7_scanNumber_123 : decode cX7_scanNumber 123 = .ok (.iconst 2, 1) := by decide +kernel
theorem dX7_scanNumber_124 : decode cX7_scanNumber 124 = .ok (.goto 4, 3) := by decide +kernel
theorem dX7_scanNumber_127 : decode cX7_scanNumber 127 = .ok (.iconst 1, 1) := by decide +kernel
theorem dX7_scanNumber_128 : decode cX7_scanNumber 128 = .ok (.ireturn, 1) := by decide +kernel
theorem dX7_tokenOf_0 : decode cX7_tokenOf 0 = .ok (.iload_n 0, 1) := by decide +kernel
theorem dX7_tokenOf_1 : decode cX7_tokenOf 1 = .ok (.bipush 113, 2) := by decide +kernel
theorem dX7_tokenOf_3 : decode cX7_tokenOf 3 = .ok (.if_icmp .eq 21, 3) := by decide +kernel
theorem dX7_tokenOf_6 : decode cX7_tokenOf 6 = .ok (.iload_n 0, 1) := by decide +kernel
theorem dX7_tokenOf_7 : decode cX7_tokenOf 7 = .ok (.bipush 112, 2) := by decide +kernel
theorem dX7_tokenOf_9 : decode cX7_tokenOf 9 = .ok (.if_icmp .eq 15, 3) := by decide +kernel
theorem dX7_tokenOf_12 : decode cX7_tokenOf 12 = .ok (.iload_n 0, 1) := by decide +kernel
theorem dX7_tokenOf_13 : decode cX7_tokenOf 13 = .ok (.bipush 120, 2) := by decide +kernel
theorem dX7_tokenOf_15 : decode cX7_tokenOf 15 = .ok (.if_icmp .eq 9, 3) := by decide +kernel
theorem dX7_tokenOf_18 : decode cX7_tokenOf 18 = .ok (.iload_n 0, 1) := by decide +kernel
theorem dX7_tokenOf_19 : decode cX7_tokenOf 19 = .ok (.bipush 59, 2) := by decide +kernel
theorem dX7_tokenOf_21 : decode cX7_tokenOf 21 = .ok (.if_icmp .ne 7, 3) := by decide +kernel
theorem dX7_tokenOf_24 : decode cX7_tokenOf 24 = .ok (.iload_n 0, 1) := by decide +kernel
theorem dX7_tokenOf_25 : decode cX7_tokenOf 25 = .ok (.goto 4, 3) := by decide +kernel
theorem dX7_tokenOf_28 : decode cX7_tokenOf 28 = .ok (.iconst 2, 1) := by decide +kernel
theorem dX7_tokenOf_29 : decode cX7_tokenOf 29 = .ok (.ireturn, 1) := by decide +kernel
theorem dX8_init_0 : decode cX8_init 0 = .ok (.aload_n 0, 1) := by decide +kernel
theorem dX8_init_1 : decode cX8_init 1 = .ok (.invokespecial 5, 3) := by decide +kernel
theorem dX8_init_4 : decode cX8_init 4 = .ok (.aload_n 0, 1) := by decide +kernel
theorem dX8_init_5 : decode cX8_init 5 = .ok (.bipush 50, 2) := by decide +kernel
theorem dX8_init_7 : decode cX8_init 7 = .ok (.newarray .int, 2) := by decide +kernel
theorem dX8_init_9 : decode cX8_init 9 = .ok (.putfield 11, 3) := by decide +kernel
theorem dX8_init_12 : decode cX8_init 12 = .ok (.return_, 1) := by decide +kernel
set_option maxRecDepth 20000 in
theorem ggX8_begin_J7_fill_53178 : GoodIn wsX8_begin wsJ7_fill_53178 := goodIn_r _ [5] (by decide +kernel) (by decide +kernel)
set_option maxRecDepth 20000 in
theorem gX8_begin_J7_fill_53178 : GoodIn wsX8_begin (va_wsS RX8 15 yJ7_fill_53178 wsJ7_fill_53178) := goodIn_app (goodIn_of _ (by decide +kernel)) ggX8_begin_J7_fill_53178
set_option maxRecDepth 20000 in
theorem ggX8_begin_X10_hasPerson : GoodIn wsX8_begin wsX10_hasPerson := goodIn_r _ [10, 11, 23, 24, 25, 26, 27] (by decide +kernel) (by decide +kernel)
set_option maxRecDepth 20000 in
theorem gX8_begin_X10_hasPerson : GoodIn wsX8_begin (wsV RX8 21 RX10 yX10_hasPerson wsX10_hasPerson) := goodIn_app (goodIn_of _ (by decide +kernel)) ggX8_begin_X10_hasPerson
set_option maxRecDepth 20000 in
theorem ggX8_begin_X10_hasPillow : GoodIn wsX8_begin wsX10_hasPillow := goodIn_r _ [15, 16, 23, 24, 25, 26, 27] (by decide +kernel) (by decide +kernel)
set_option maxRecDepth 20000 in
theorem gX8_begin_X10_hasPillow : GoodIn wsX8_begin (wsV RX8 27 RX10 yX10_hasPillow wsX10_hasPillow) := goodIn_app (goodIn_of _ (by decide +kernel)) ggX8_begin_X10_hasPillow
set_option maxRecDepth 20000 in
theorem ggX8_begin_X8_lay : GoodIn wsX8_begin wsX8_lay := goodIn_r _ [21, 1, 22] (by decide +kernel) (by decide +kernel)
set_option maxRecDepth 20000 in
theorem gX8_begin_X8_lay : GoodIn wsX8_begin (wsV RX8 30 RX8 yX8_lay wsX8_lay) := goodIn_app (goodIn_of _ (by decide +kernel)) ggX8_begin_X8_lay
theorem dX8_begin_0 : decode cX8_begin 0 = .ok (.aload_n 0, 1) := by decide +kernel
theorem dX8_begin_1 : decode cX8_begin 1 = .ok (.getfield 11, 3) := by decide +kernel
theorem dX8_begin_4 : decode cX8_begin 4 = .ok (.iconst 0, 1) := by decide +kernel
theorem dX8_begin_5 : decode cX8_begin 5 = .ok (.invokestatic 15, 3) := by decide +kernel
theorem dX8_begin_8 : decode cX8_begin 8 = .ok (.iconst 0, 1) := by decide +kernel
theorem dX8_begin_9 : decode cX8_begin 9 = .ok (.istore_n 2, 1) := by decide +kernel
theorem dX8_begin_10 : decode cX8_begin 10 = .ok (.iload_n 2, 1) := by decide +kernel
theorem dX8_begin_11 : decode cX8_begin 11 = .ok (.bipush 6, 2) := by decide +kernel
theorem dX8_begin_13 : decode cX8_begin 13 = .ok (.if_icmp .ge 36, 3) := by decide +kernel
theorem dX8_begin_16 : decode cX8_begin 16 = .ok (.aload_n 0, 1) := by decide +kernel
theorem dX8_begin_17 : decode cX8_begin 17 = .ok (.iload_n 2, 1) := by decide +kernel
theorem dX8_begin_18 : decode cX8_begin 18 = .ok (.aload_n 1, 1) := by decide +kernel
theorem dX8_begin_19 : decode cX8_begin 19 = .ok (.iload_n 2, 1) := by decide +kernel
theorem dX8_begin_20 : decode cX8_begin 20 = .ok (.invokevirtual 21, 3) := by decide +kernel
theorem dX8_begin_23 : decode cX8_begin 23 = .ok (.ifCond .eq 15, 3) := by decide +kernel
theorem dX8_begin_26 : decode cX8_begin 26 = .ok (.aload_n 1, 1) := by decide +kernel
theorem dX8_begin_27 : decode cX8_begin 27 = .ok (.iload_n 2, 1) := by decide +kernel
theorem dX8_begin_28 : decode cX8_begin 28 = .ok (.invokevirtual 27, 3) := by decide +kernel
theorem dX8_begin_31 : decode cX8_begin 31 = .ok (.ifCond .eq 7, 3) := by decide +kernel
theorem dX8_begin_34 : decode cX8_begin 34 = .ok (.iload_n 2, 1) := by decide +kernel
theorem dX8_begin_35 : decode cX8_begin 35 = .ok (.goto 5, 3) := by decide +kernel
theorem dX8_begin_38 : decode cX8_begin 38 = .ok (.bipush (-9), 2) := by decide +kernel
theorem dX8_begin_40 : decode cX8_begin 40 = .ok (.invokevirtual 30, 3) := by decide +kernel
theorem dX8_begin_43 : decode cX8_begin 43 = .ok (.iinc 2 1, 3) := by decide +kernel
theorem dX8_begin_46 : decode cX8_begin 46 = .ok (.goto (-36), 3) := by decide +kernel
theorem dX8_begin_49 : decode cX8_begin 49 = .ok (.return_, 1) := by decide +kernel
theorem dX8_times_0 : decode cX8_times 0 = .ok (.aload_n 0, 1) := by decide +kernel
theorem dX8_times_1 : decode cX8_times 1 = .ok (.getfield 11, 3) := by decide +kernel
theorem dX8_times_4 : decode cX8_times 4 = .ok (.iload_n 1, 1) := by decide +kernel
theorem dX8_times_5 : decode cX8_times 5 = .ok (.bipush 7, 2) := by decide +kernel
theorem dX8_times_7 : decode cX8_times 7 = .ok (.imul, 1) := by decide +kernel
theorem dX8_times_8 : decode cX8_times 8 = .ok (.iload_n 2, 1) := by decide +kernel
theorem dX8_times_9 : decode cX8_times 9 = .ok (.iadd, 1) := by decide +kernel
theorem dX8_times_10 : decode cX8_times 10 = .ok (.iaload, 1) := by decide +kernel
theorem dX8_times_11 : decode cX8_times 11 = .ok (.ireturn, 1) := by decide +kernel
theorem dX8_setTimes_0 : decode cX8_setTimes 0 = .ok (.aload_n 0, 1) := by decide +kernel
theorem dX8_setTimes_1 : decode cX8_setTimes 1 = .ok (.getfield 11, 3) := by decide +kernel
theorem dX8_setTimes_4 : decode cX8_setTimes 4 = .ok (.iload_n 1, 1) := by decide +kernel
theorem dX8_setTimes_5 : decode cX8_setTimes 5 = .ok (.bipush 7, 2) := by decide +kernel
theorem dX8_setTimes_7 : decode cX8_setTimes 7 = .ok (.imul, 1) := by decide +kernel
theorem dX8_setTimes_8 : decode cX8_setTimes 8 = .ok (.iload_n 2, 1) := by decide +kernel
theorem dX8_setTimes_9 : decode cX8_setTimes 9 = .ok (.iadd, 1) := by decide +kernel
theorem dX8_setTimes_10 : decode cX8_setTimes 10 = .ok (.iload_n 3, 1) := by decide +kernel
theorem dX8_setTimes_11 : decode cX8_setTimes 11 = .ok (.bipush 99, 2) := by decide +kernel
theorem dX8_setTimes_13 : decode cX8_setTimes 13 = .ok (.invokestatic 34, 3) := by decide +kernel
theorem dX8_setTimes_16 : decode cX8_setTimes 16 = .ok (.iastore, 1) := by decide +kernel
theorem dX8_setTimes_17 : decode cX8_setTimes 17 = .ok (.return_, 1) := by decide +kernel
theorem dX8_bedOf_0 : decode cX8_bedOf 0 = .ok (.aload_n 0, 1) := by decide +kernel
theorem dX8_bedOf_1 : decode cX8_bedOf 1 = .ok (.getfield 11, 3) := by decide +kernel
theorem dX8_bedOf_4 : decode cX8_bedOf 4 = .ok (.bipush 42, 2) := by decide +kernel
theorem dX8_bedOf_6 : decode cX8_bedOf 6 = .ok (.iload_n 1, 1) := by decide +kernel
theorem dX8_bedOf_7 : decode cX8_bedOf 7 = .ok (.iadd, 1) := by decide +kernel
theorem dX8_bedOf_8 : decode cX8_bedOf 8 = .ok (.iaload, 1) := by decide +kernel
theorem dX8_bedOf_9 : decode cX8_bedOf 9 = .ok (.ireturn, 1) := by decide +kernel
theorem dX8_lay_0 : decode cX8_lay 0 = .ok (.aload_n 0, 1) := by decide +kernel
theorem dX8_lay_1 : decode cX8_lay 1 = .ok (.getfield 11, 3) := by decide +kernel
theorem dX8_lay_4 : decode cX8_lay 4 = .ok (.bipush 42, 2) := by decide +kernel
theorem dX8_lay_6 : decode cX8_lay 6 = .ok (.iload_n 1, 1) := by decide +kernel
theorem dX8_lay_7 : decode cX8_lay 7 = .ok (.iadd, 1) := by decide +kernel
theorem dX8_lay_8 : decode cX8_lay 8 = .ok (.iload_n 2, 1) := by decide +kernel
theorem dX8_lay_9 : decode cX8_lay 9 = .ok (.iastore, 1) := by decide +kernel
theorem dX8_lay_10 : decode cX8_lay 10 = .ok (.return_, 1) := by decide +kernel
theorem dX8_nightNumber_0 : decode cX8_nightNumber 0 = .ok (.aload_n 0, 1) := by decide +kernel
theorem dX8_nightNumber_1 : decode cX8_nightNumber 1 = .ok (.getfield 11, 3) := by decide +kernel
theorem dX8_nightNumber_4 : decode cX8_nightNumber 4 = .ok (.bipush 49, 2) := by decide +kernel
theorem dX8_nightNumber_6 : decode cX8_nightNumber 6 = .ok (.iaload, 1) := by decide +kernel
theorem dX8_nightNumber_7 : decode cX8_nightNumber 7 = .ok (.ireturn, 1) := by decide +kernel
theorem dX8_isExamined_0 : decode cX8_isExamined 0 = .ok (.aload_n 0, 1) := by decide +kernel
theorem dX8_isExamined_1 : decode cX8_isExamined 1 = .ok (.getfield 11, 3) := by decide +kernel
theorem dX8_isExamined_4 : decode cX8_isExamined 4 = .ok (.bipush 48, 2) := by decide +kernel
theorem dX8_isExamined_6 : decode cX8_isExamined 6 = .ok (.iaload, 1) := by decide +kernel
theorem dX8_isExamined_7 : decode cX8_isExamined 7 = .ok (.iload_n 1, 1) := by decide +kernel
theorem dX8_isExamined_8 : decode cX8_isExamined 8 = .ok (.ishr, 1) := by decide +kernel
theorem dX8_isExamined_9 : decode cX8_isExamined 9 = .ok (.iconst 1, 1) := by decide +kernel
theorem dX8_isExamined_10 : decode cX8_isExamined 10 = .ok (.iand, 1) := by decide +kernel
theorem dX8_isExamined_11 : decode cX8_isExamined 11 = .ok (.ifCond .eq 7, 3) := by decide +kernel
theorem dX8_isExamined_14 : decode cX8_isExamined 14 = .ok (.iconst 1, 1) := by decide +kernel
theorem dX8_isExamined_15 : decode cX8_isExamined 15 = .ok (.goto 4, 3) := by decide +kernel
theorem dX8_isExamined_18 : decode cX8_isExamined 18 = .ok (.iconst 0, 1) := by decide +kernel
theorem dX8_isExamined_19 : decode cX8_isExamined 19 = .ok (.ireturn, 1) := by decide +kernel
theorem dX8_examine_0 : decode cX8_examine 0 = .ok (.aload_n 0, 1) := by decide +kernel
theorem dX8_examine_1 : decode cX8_examine 1 = .ok (.getfield 11, 3) := by decide +kernel
theorem dX8_examine_4 : decode cX8_examine 4 = .ok (.bipush 48, 2) := by decide +kernel
theorem dX8_examine_6 : decode cX8_examine 6 = .ok (.dup2, 1) := by decide +kernel
theorem dX8_examine_7 : decode cX8_examine 7 = .ok (.iaload, 1) := by decide +kernel
theorem dX8_examine_8 : decode cX8_examine 8 = .ok (.iconst 1, 1) := by decide +kernel
theorem dX8_examine_9 : decode cX8_examine 9 = .ok (.iload_n 1, 1) := by decide +kernel
theorem dX8_examine_10 : decode cX8_examine 10 = .ok (.ishl, 1) := by decide +kernel
theorem dX8_examine_11 : decode cX8_examine 11 = .ok (.ior, 1) := by decide +kernel
theorem dX8_examine_12 : decode cX8_examine 12 = .ok (.iastore, 1) := by decide +kernel
theorem dX8_examine_13 : decode cX8_examine 13 = .ok (.return_, 1) := by decide +kernel
set_option maxRecDepth 20000 in
theorem ggX8_thingsOn_X8_times : GoodIn wsX8_thingsOn wsX8_times := goodIn_r _ [5, 6, 7] (by decide +kernel) (by decide +kernel)
set_option maxRecDepth 20000 in
theorem gX8_thingsOn_X8_times : GoodIn wsX8_thingsOn (wsV RX8 40 RX8 yX8_times wsX8_times) := goodIn_app (goodIn_of _ (by decide +kernel)) ggX8_thingsOn_X8_times
theorem dX8_thingsOn_0 : decode cX8_thingsOn 0 = .ok (.iconst 0, 1) := by decide +kernel
theorem dX8_thingsOn_1 : decode cX8_thingsOn 1 = .ok (.istore_n 2, 1) := by decide +kernel
theorem dX8_thingsOn_2 : decode cX8_thingsOn 2 = .ok (.iconst 0, 1) := by decide +kernel
theorem dX8_thingsOn_3 : decode cX8_thingsOn 3 = .ok (.istore_n 3, 1) := by decide +kernel
theorem dX8_thingsOn_4 : decode cX8_thingsOn 4 = .ok (.iload_n 3, 1) := by decide +kernel
theorem dX8_thingsOn_5 : decode cX8_thingsOn 5 = .ok (.bipush 7, 2) := by decide +kernel
theorem dX8_thingsOn_7 : decode cX8_thingsOn 7 = .ok (.if_icmp .ge 24, 3) := by decide +kernel
theorem dX8_thingsOn_10 : decode cX8_thingsOn 10 = .ok (.aload_n 0, 1) := by decide +kernel
theorem dX8_thingsOn_11 : decode cX8_thingsOn 11 = .ok (.iload_n 1, 1) := by decide +kernel
theorem dX8_thingsOn_12 : decode cX8_thingsOn 12 = .ok (.iload_n 3, 1) := by decide +kernel
theorem dX8_thingsOn_13 : decode cX8_thingsOn 13 = .ok (.invokevirtual 40, 3) := by decide +kernel
theorem dX8_thingsOn_16 : decode cX8_thingsOn 16 = .ok (.ifCond .le 9, 3) := by decide +kernel
theorem dX8_thingsOn_19 : decode cX8_thingsOn 19 = .ok (.iload_n 2, 1) := by decide +kernel
theorem dX8_thingsOn_20 : decode cX8_thingsOn 20 = .ok (.iconst 1, 1) := by decide +kernel
theorem dX8_thingsOn_21 : decode cX8_thingsOn 21 = .ok (.iload_n 3, 1) := by decide +kernel
theorem dX8_thingsOn_22 : decode cX8_thingsOn 22 = .ok (.ishl, 1) := by decide +kernel
theorem dX8_thingsOn_23 : decode cX8_thingsOn 23 = .ok (.ior, 1) := by decide +kernel
theorem dX8_thingsOn_24 : decode cX8_thingsOn 24 = .ok (.istore_n 2, 1) := by decide +kernel
theorem dX8_thingsOn_25 : decode cX8_thingsOn 25 = .ok (.iinc 3 1, 3) := by decide +kernel
theorem dX8_thingsOn_28 : decode cX8_thingsOn 28 = .ok (.goto (-24), 3) := by decide +kernel
theorem dX8_thingsOn_31 : decode cX8_thingsOn 31 = .ok (.iload_n 2, 1) := by decide +kernel
theorem dX8_thingsOn_32 : decode cX8_thingsOn 32 = .ok (.ireturn, 1) := by decide +kernel
set_option maxRecDepth 20000 in
theorem ggX8_thingsOnSet_X8_thingsOn : GoodIn wsX8_thingsOnSet wsX8_thingsOn := goodIn_r _ [5, 6, 7, 8, 4, 9, 10, 11] (by decide +kernel) (by decide +kernel)
set_option maxRecDepth 20000 in
theorem gX8_thingsOnSet_X8_thingsOn : GoodIn wsX8_thingsOnSet (wsV RX8 43 RX8 yX8_thingsOn wsX8_thingsOn) := goodIn_app (goodIn_of _ (by decide +kernel)) ggX8_thingsOnSet_X8_thingsOn
theorem dX8_thingsOnSet_0 : decode cX8_thingsOnSet 0 = .ok (.iconst 0, 1) := by decide +kernel
theorem dX8_thingsOnSet_1 : decode cX8_thingsOnSet 1 = .ok (.istore_n 2, 1) := by decide +kernel
theorem dX8_thingsOnSet_2 : decode cX8_thingsOnSet 2 = .ok (.iconst 0, 1) := by decide +kernel
theorem dX8_thingsOnSet_3 : decode cX8_thingsOnSet 3 = .ok (.istore_n 3, 1) := by decide +kernel
theorem dX8_thingsOnSet_4 : decode cX8_thingsOnSet 4 = .ok (.iload_n 3, 1) := by decide +kernel
theorem dX8_thingsOnSet_5 : decode cX8_thingsOnSet 5 = .ok (.bipush 6, 2) := by decide +kernel
theorem dX8_thingsOnSet_7 : decode cX8_thingsOnSet 7 = .ok (.if_icmp .ge 25, 3) := by decide +kernel
theorem dX8_thingsOnSet_10 : decode cX8_thingsOnSet 10 = .ok (.iload_n 1, 1) := by decide +kernel
theorem dX8_thingsOnSet_11 : decode cX8_thingsOnSet 11 = .ok (.iload_n 3, 1) := by decide +kernel
theorem dX8_thingsOnSet_12 : decode cX8_thingsOnSet 12 = .ok (.ishr, 1) := by decide +kernel
theorem dX8_thingsOnSet_13 : decode cX8_thingsOnSet 13 = .ok (.iconst 1, 1) := by decide +kernel
theorem dX8_thingsOnSet_14 : decode cX8_thingsOnSet 14 = .ok (.iand, 1) := by decide +kernel
theorem dX8_thingsOnSet_15 : decode cX8_thingsOnSet 15 = .ok (.ifCond .eq 11, 3) := by decide +kernel
theorem dX8_thingsOnSet_18 : decode cX8_thingsOnSet 18 = .ok (.iload_n 2, 1) := by decide +kernel
theorem dX8_thingsOnSet_19 : decode cX8_thingsOnSet 19 = .ok (.aload_n 0, 1) := by decide +kernel
theorem dX8_thingsOnSet_20 : decode cX8_thingsOnSet 20 = .ok (.iload_n 3, 1) := by decide +kernel
theorem dX8_thingsOnSet_21 : decode cX8_thingsOnSet 21 = .ok (.invokevirtual 43, 3) := by decide +kernel
theorem dX8_thingsOnSet_24 : decode cX8_thingsOnSet 24 = .ok (.ior, 1) := by decide +kernel
theorem dX8_thingsOnSet_25 : decode cX8_thingsOnSet 25 = .ok (.istore_n 2, 1) := by decide +kernel
theorem dX8_thingsOnSet_26 : decode cX8_thingsOnSet 26 = .ok (.iinc 3 1, 3) := by decide +kernel
theorem dX8_thingsOnSet_29 : decode cX8_thingsOnSet 29 = .ok (.goto (-25), 3) := by decide +kernel
theorem dX8_thingsOnSet_32 : decode cX8_thingsOnSet 32 = .ok (.iload_n 2, 1) := by decide +kernel
theorem dX8_thingsOnSet_33 : decode cX8_thingsOnSet 33 = .ok (.ireturn, 1) := by decide +kernel
set_option maxRecDepth 20000 in
theorem ggX8_allThings_X8_thingsOnSet : GoodIn wsX8_allThings wsX8_thingsOnSet := goodIn_r _ [5, 6, 7, 8, 4, 9, 10, 11, 12, 13, 14, 15] (by decide +kernel) (by decide +kernel)
set_option maxRecDepth 20000 in
theorem gX8_allThings_X8_thingsOnSet : GoodIn wsX8_allThings (wsV RX8 47 RX8 yX8_thingsOnSet wsX8_thingsOnSet) := goodIn_app (goodIn_of _ (by decide +kernel)) ggX8_allThings_X8_thingsOnSet
theorem dX8_allThings_0 : decode cX8_allThings 0 = .ok (.aload_n 0, 1) := by decide +kernel
theorem dX8_allThings_1 : decode cX8_allThings 1 = .ok (.bipush 63, 2) := by decide +kernel
theorem dX8_allThings_3 : decode cX8_allThings 3 = .ok (.invokevirtual 47, 3) := by decide +kernel
theorem dX8_allThings_6 : decode cX8_allThings 6 = .ok (.ireturn, 1) := by decide +kernel
set_option maxRecDepth 20000 in
theorem ggX8_knownThings_X8_thingsOnSet : GoodIn wsX8_knownThings wsX8_thingsOnSet := goodIn_r _ [6, 7, 8, 9, 5, 10, 11, 12, 13, 14, 1, 15] (by decide +kernel) (by decide +kernel)
set_option maxRecDepth 20000 in
theorem gX8_knownThings_X8_thingsOnSet : GoodIn wsX8_knownThings (wsV RX8 47 RX8 yX8_thingsOnSet wsX8_thingsOnSet) := goodIn_app (goodIn_of _ (by decide +kernel)) ggX8_knownThings_X8_thingsOnSet
theorem dX8_knownThings_0 : decode cX8_knownThings 0 = .ok (.aload_n 0, 1) := by decide +kernel
theorem dX8_knownThings_1 : decode cX8_knownThings 1 = .ok (.aload_n 0, 1) := by decide +kernel
theorem dX8_knownThings_2 : decode cX8_knownThings 2 = .ok (.getfield 11, 3) := by decide +kernel
theorem dX8_knownThings_5 : decode cX8_knownThings 5 = .ok (.bipush 48, 2) := by decide +kernel
theorem dX8_knownThings_7 : decode cX8_knownThings 7 = .ok (.iaload, 1) := by decide +kernel
theorem dX8_knownThings_8 : decode cX8_knownThings 8 = .ok (.invokevirtual 47, 3) := by decide +kernel
theorem dX8_knownThings_11 : decode cX8_knownThings 11 = .ok (.ireturn, 1) := by decide +kernel
set_option maxRecDepth 20000 in
theorem ggX8_timesOn_X8_times : GoodIn wsX8_timesOn wsX8_times := goodIn_r _ [5, 6, 7] (by decide +kernel) (by decide +kernel)
set_option maxRecDepth 20000 in
theorem gX8_timesOn_X8_times : GoodIn wsX8_timesOn (wsV RX8 40 RX8 yX8_times wsX8_times) := goodIn_app (goodIn_of _ (by decide +kernel)) ggX8_timesOn_X8_times
theorem dX8_timesOn_0 : decode cX8_timesOn 0 = .ok (.iconst 0, 1) := by decide +kernel
theorem dX8_timesOn_1 : decode cX8_timesOn 1 = .ok (.istore_n 3, 1) := by decide +kernel
theorem dX8_timesOn_2 : decode cX8_timesOn 2 = .ok (.iconst 0, 1) := by decide +kernel
theorem dX8_timesOn_3 : decode cX8_timesOn 3 = .ok (.istore 4, 2) := by decide +kernel
theorem dX8_timesOn_5 : decode cX8_timesOn 5 = .ok (.iload 4, 2) := by decide +kernel
theorem dX8_timesOn_7 : decode cX8_timesOn 7 = .ok (.bipush 7, 2) := by decide +kernel
theorem dX8_timesOn_9 : decode cX8_timesOn 9 = .ok (.if_icmp .ge 28, 3) := by decide +kernel
theorem dX8_timesOn_12 : decode cX8_timesOn 12 = .ok (.iload_n 2, 1) := by decide +kernel
theorem dX8_timesOn_13 : decode cX8_timesOn 13 = .ok (.iload 4, 2) := by decide +kernel
theorem dX8_timesOn_15 : decode cX8_timesOn 15 = .ok (.ishr, 1) := by decide +kernel
theorem dX8_timesOn_16 : decode cX8_timesOn 16 = .ok (.iconst 1, 1) := by decide +kernel
theorem dX8_timesOn_17 : decode cX8_timesOn 17 = .ok (.iand, 1) := by decide +kernel
theorem dX8_timesOn_18 : decode cX8_timesOn 18 = .ok (.ifCond .eq 13, 3) := by decide +kernel
theorem dX8_timesOn_21 : decode cX8_timesOn 21 = .ok (.iload_n 3, 1) := by decide +kernel
theorem dX8_timesOn_22 : decode cX8_timesOn 22 = .ok (.aload_n 0, 1) := by decide +kernel
theorem dX8_timesOn_23 : decode cX8_timesOn 23 = .ok (.iload_n 1, 1) := by decide +kernel
theorem dX8_timesOn_24 : decode cX8_timesOn 24 = .ok (.iload 4, 2) := by decide +kernel
theorem dX8_timesOn_26 : decode cX8_timesOn 26 = .ok (.invokevirtual 40, 3) := by decide +kernel
theorem dX8_timesOn_29 : decode cX8_timesOn 29 = .ok (.iadd, 1) := by decide +kernel
theorem dX8_timesOn_30 : decode cX8_timesOn 30 = .ok (.istore_n 3, 1) := by decide +kernel
theorem dX8_timesOn_31 : decode cX8_timesOn 31 = .ok (.iinc 4 1, 3) := by decide +kernel
theorem dX8_timesOn_34 : decode cX8_timesOn 34 = .ok (.goto (-29), 3) := by decide +kernel
theorem dX8_timesOn_37 : decode cX8_timesOn 37 = .ok (.iload_n 3, 1) := by decide +kernel
theorem dX8_timesOn_38 : decode cX8_timesOn 38 = .ok (.ireturn, 1) := by decide +kernel
set_option maxRecDepth 20000 in
theorem ggX8_timesOfSet_X8_timesOn : GoodIn wsX8_timesOfSet wsX8_timesOn := goodIn_r _ [5, 6, 7, 8, 4, 9, 10, 11] (by decide +kernel) (by decide +kernel)
set_option maxRecDepth 20000 in
theorem gX8_timesOfSet_X8_timesOn : GoodIn wsX8_timesOfSet (wsV RX8 50 RX8 yX8_timesOn wsX8_timesOn) := goodIn_app (goodIn_of _ (by decide +kernel)) ggX8_timesOfSet_X8_timesOn
theorem dX8_timesOfSet_0 : decode cX8_timesOfSet 0 = .ok (.iconst 0, 1) := by decide +kernel
theorem dX8_timesOfSet_1 : decode cX8_timesOfSet 1 = .ok (.istore_n 2, 1) := by decide +kernel
theorem dX8_timesOfSet_2 : decode cX8_timesOfSet 2 = .ok (.iconst 0, 1) := by decide +kernel
theorem dX8_timesOfSet_3 : decode cX8_timesOfSet 3 = .ok (.istore_n 3, 1) := by decide +kernel
theorem dX8_timesOfSet_4 : decode cX8_timesOfSet 4 = .ok (.iload_n 3, 1) := by decide +kernel
theorem dX8_timesOfSet_5 : decode cX8_timesOfSet 5 = .ok (.bipush 6, 2) := by decide +kernel
theorem dX8_timesOfSet_7 : decode cX8_timesOfSet 7 = .ok (.if_icmp .ge 18, 3) := by decide +kernel
theorem dX8_timesOfSet_10 : decode cX8_timesOfSet 10 = .ok (.iload_n 2, 1) := by decide +kernel
theorem dX8_timesOfSet_11 : decode cX8_timesOfSet 11 = .ok (.aload_n 0, 1) := by decide +kernel
theorem dX8_timesOfSet_12 : decode cX8_timesOfSet 12 = .ok (.iload_n 3, 1) := by decide +kernel
theorem dX8_timesOfSet_13 : decode cX8_timesOfSet 13 = .ok (.iload_n 1, 1) := by decide +kernel
theorem dX8_timesOfSet_14 : decode cX8_timesOfSet 14 = .ok (.invokevirtual 50, 3) := by decide +kernel
theorem dX8_timesOfSet_17 : decode cX8_timesOfSet 17 = .ok (.iadd, 1) := by decide +kernel
theorem dX8_timesOfSet_18 : decode cX8_timesOfSet 18 = .ok (.istore_n 2, 1) := by decide +kernel
theorem dX8_timesOfSet_19 : decode cX8_timesOfSet 19 = .ok (.iinc 3 1, 3) := by decide +kernel
theorem dX8_timesOfSet_22 : decode cX8_timesOfSet 22 = .ok (.goto (-18), 3) := by decide +kernel
theorem dX8_timesOfSet_25 : decode cX8_timesOfSet 25 = .ok (.iload_n 2, 1) := by decide +kernel
theorem dX8_timesOfSet_26 : decode cX8_timesOfSet 26 = .ok (.ireturn, 1) := by decide +kernel
set_option maxRecDepth 20000 in
theorem ggX8_sleepersOn_X8_bedOf : GoodIn wsX8_sleepersOn wsX8_bedOf := goodIn_r _ [5, 6, 7] (by decide +kernel) (by decide +kernel)
set_option maxRecDepth 20000 in
theorem gX8_sleepersOn_X8_bedOf : GoodIn wsX8_sleepersOn (wsV RX8 53 RX8 yX8_bedOf wsX8_bedOf) := goodIn_app (goodIn_of _ (by decide +kernel)) ggX8_sleepersOn_X8_bedOf
theorem dX8_sleepersOn_0 : decode cX8_sleepersOn 0 = .ok (.iconst 0, 1) := by decide +kernel
theorem dX8_sleepersOn_1 : decode cX8_sleepersOn 1 = .ok (.istore_n 2, 1) := by decide +kernel
theorem dX8_sleepersOn_2 : decode cX8_sleepersOn 2 = .ok (.iconst 0, 1) := by decide +kernel
theorem dX8_sleepersOn_3 : decode cX8_sleepersOn 3 = .ok (.istore_n 3, 1) := by decide +kernel
theorem dX8_sleepersOn_4 : decode cX8_sleepersOn 4 = .ok (.iload_n 3, 1) := by decide +kernel
theorem dX8_sleepersOn_5 : decode cX8_sleepersOn 5 = .ok (.bipush 6, 2) := by decide +kernel
theorem dX8_sleepersOn_7 : decode cX8_sleepersOn 7 = .ok (.if_icmp .ge 24, 3) := by decide +kernel
theorem dX8_sleepersOn_10 : decode cX8_sleepersOn 10 = .ok (.aload_n 0, 1) := by decide +kernel
theorem dX8_sleepersOn_11 : decode cX8_sleepersOn 11 = .ok (.iload_n 3, 1) := by decide +kernel
theorem dX8_sleepersOn_12 : decode cX8_sleepersOn 12 = .ok (.invokevirtual 53, 3) := by decide +kernel
theorem dX8_sleepersOn_15 : decode cX8_sleepersOn 15 = .ok (.iload_n 1, 1) := by decide +kernel
theorem dX8_sleepersOn_16 : decode cX8_sleepersOn 16 = .ok (.if_icmp .ne 9, 3) := by decide +kernel
theorem dX8_sleepersOn_19 : decode cX8_sleepersOn 19 = .ok (.iload_n 2, 1) := by decide +kernel
theorem dX8_sleepersOn_20 : decode cX8_sleepersOn 20 = .ok (.iconst 1, 1) := by decide +kernel
theorem dX8_sleepersOn_21 : decode cX8_sleepersOn 21 = .ok (.iload_n 3, 1) := by decide +kernel
theorem dX8_sleepersOn_22 : decode cX8_sleepersOn 22 = .ok (.ishl, 1) := by decide +kernel
theorem dX8_sleepersOn_23 : decode cX8_sleepersOn 23 = .ok (.ior, 1) := by decide +kernel
theorem dX8_sleepersOn_24 : decode cX8_sleepersOn 24 = .ok (.istore_n 2, 1) := by decide +kernel
theorem dX8_sleepersOn_25 : decode cX8_sleepersOn 25 = .ok (.iinc 3 1, 3) := by decide +kernel
theorem dX8_sleepersOn_28 : decode cX8_sleepersOn 28 = .ok (.goto (-24), 3) := by decide +kernel
theorem dX8_sleepersOn_31 : decode cX8_sleepersOn 31 = .ok (.iload_n 2, 1) := by decide +kernel
theorem dX8_sleepersOn_32 : decode cX8_sleepersOn 32 = .ok (.ireturn, 1) := by decide +kernel
set_option maxRecDepth 20000 in
theorem ggX8_sleep_X8_nightNumber : GoodIn wsX8_sleep wsX8_nightNumber := goodIn_r _ [7, 2, 55] (by decide +kernel) (by decide +kernel)
set_option maxRecDepth 20000 in
theorem gX8_sleep_X8_nightNumber : GoodIn wsX8_sleep (wsV RX8 60 RX8 yX8_nightNumber wsX8_nightNumber) := goodIn_app (goodIn_of _ (by decide +kernel)) ggX8_sleep_X8_nightNumber
set_option maxRecDepth 20000 in
theorem ggX8_sleep_X10_thingSaid : GoodIn wsX8_sleep wsX10_thingSaid := goodIn_r _ [12, 13, 14, 15, 16, 17, 18, 19, 20, 21, 22, 23, 24, 25, 26, 27, 28, 11, 29, 50, 51, 52, 53, 54] (by decide +kernel) (by decide +kernel)
set_option maxRecDepth 20000 in
theorem gX8_sleep_X10_thingSaid : GoodIn wsX8_sleep (wsV RX8 64 RX10 yX10_thingSaid wsX10_thingSaid) := goodIn_app (goodIn_of _ (by decide +kernel)) ggX8_sleep_X10_thingSaid
set_option maxRecDepth 20000 in
theorem ggX8_sleep_X8_bedOf : GoodIn wsX8_sleep wsX8_bedOf := goodIn_r _ [33, 2, 55] (by decide +kernel) (by decide +kernel)
set_option maxRecDepth 20000 in
theorem gX8_sleep_X8_bedOf : GoodIn wsX8_sleep (wsV RX8 53 RX8 yX8_bedOf wsX8_bedOf) := goodIn_app (goodIn_of _ (by decide +kernel)) ggX8_sleep_X8_bedOf
set_option maxRecDepth 20000 in
theorem ggX8_sleep_X8_hear : GoodIn wsX8_sleep wsX8_hear := goodIn_r _ [37, 38, 39, 40, 6, 41, 2, 42, 43, 44, 45, 46, 47, 48, 49, 55] (by decide +kernel) (by decide +kernel)
set_option maxRecDepth 20000 in
theorem gX8_sleep_X8_hear : GoodIn wsX8_sleep (wsV RX8 68 RX8 yX8_hear wsX8_hear) := goodIn_app (goodIn_of _ (by decide +kernel)) ggX8_sleep_X8_hear
theorem dX8_sleep_0 : decode cX8_sleep 0 = .ok (.iconst 0, 1) := by decide +kernel
theorem dX8_sleep_1 : decode cX8_sleep 1 = .ok (.istore_n 3, 1) := by decide +kernel
theorem dX8_sleep_2 : decode cX8_sleep 2 = .ok (.iconst 0, 1) := by decide +kernel
theorem dX8_sleep_3 : decode cX8_sleep 3 = .ok (.istore 4, 2) := by decide +kernel
theorem dX8_sleep_5 : decode cX8_sleep 5 = .ok (.iload 4, 2) := by decide +kernel
theorem dX8_sleep_7 : decode cX8_sleep 7 = .ok (.aload_n 1, 1) := by decide +kernel
theorem dX8_sleep_8 : decode cX8_sleep 8 = .ok (.getfield 56, 3) := by decide +kernel
theorem dX8_sleep_11 : decode cX8_sleep 11 = .ok (.if_icmp .ge 42, 3) := by decide +kernel
theorem dX8_sleep_14 : decode cX8_sleep 14 = .ok (.aload_n 1, 1) := by decide +kernel
theorem dX8_sleep_15 : decode cX8_sleep 15 = .ok (.iload 4, 2) := by decide +kernel
theorem dX8_sleep_17 : decode cX8_sleep 17 = .ok (.iload_n 2, 1) := by decide +kernel
theorem dX8_sleep_18 : decode cX8_sleep 18 = .ok (.aload_n 0, 1) := by decide +kernel
theorem dX8_sleep_19 : decode cX8_sleep 19 = .ok (.invokevirtual 60, 3) := by decide +kernel
theorem dX8_sleep_22 : decode cX8_sleep 22 = .ok (.invokevirtual 64, 3) := by decide +kernel
theorem dX8_sleep_25 : decode cX8_sleep 25 = .ok (.istore 5, 2) := by decide +kernel
theorem dX8_sleep_27 : decode cX8_sleep 27 = .ok (.iload 5, 2) := by decide +kernel
theorem dX8_sleep_29 : decode cX8_sleep 29 = .ok (.ifCond .lt 18, 3) := by decide +kernel
theorem dX8_sleep_32 : decode cX8_sleep 32 = .ok (.iinc 3 1, 3) := by decide +kernel
theorem dX8_sleep_35 : decode cX8_sleep 35 = .ok (.aload_n 0, 1) := by decide +kernel
theorem dX8_sleep_36 : decode cX8_sleep 36 = .ok (.aload_n 0, 1) := by decide +kernel
theorem dX8_sleep_37 : decode cX8_sleep 37 = .ok (.iload 4, 2) := by decide +kernel
theorem dX8_sleep_39 : decode cX8_sleep 39 = .ok (.invokevirtual 53, 3) := by decide +kernel
theorem dX8_sleep_42 : decode cX8_sleep 42 = .ok (.iload 5, 2) := by decide +kernel
theorem dX8_sleep_44 : decode cX8_sleep 44 = .ok (.invokevirtual 68, 3) := by decide +kernel
theorem dX8_sleep_47 : decode cX8_sleep 47 = .ok (.iinc 4 1, 3) := by decide +kernel
theorem dX8_sleep_50 : decode cX8_sleep 50 = .ok (.goto (-45), 3) := by decide +kernel
theorem dX8_sleep_53 : decode cX8_sleep 53 = .ok (.aload_n 0, 1) := by decide +kernel
theorem dX8_sleep_54 : decode cX8_sleep 54 = .ok (.getfield 11, 3) := by decide +kernel
theorem dX8_sleep_57 : decode cX8_sleep 57 = .ok (.bipush 49, 2) := by decide +kernel
theorem dX8_sleep_59 : decode cX8_sleep 59 = .ok (.dup2, 1) := by decide +kernel
theorem dX8_sleep_60 : decode cX8_sleep 60 = .ok (.iaload, 1) := by decide +kernel
theorem dX8_sleep_61 : decode cX8_sleep 61 = .ok (.iconst 1, 1) := by decide +kernel
theorem dX8_sleep_62 : decode cX8_sleep 62 = .ok (.iadd, 1) := by decide +kernel
theorem dX8_sleep_63 : decode cX8_sleep 63 = .ok (.iastore, 1) := by decide +kernel
theorem dX8_sleep_64 : decode cX8_sleep 64 = .ok (.iload_n 3, 1) := by decide +kernel
theorem dX8_sleep_65 : decode cX8_sleep 65 = .ok (.ireturn, 1) := by decide +kernel
set_option maxRecDepth 20000 in
theorem ggX8_hear_X8_times : GoodIn wsX8_hear wsX8_times := goodIn_r _ [5, 6, 15] (by decide +kernel) (by decide +kernel)
set_option maxRecDepth 20000 in
theorem gX8_hear_X8_times : GoodIn wsX8_hear (wsV RX8 40 RX8 yX8_times wsX8_times) := goodIn_app (goodIn_of _ (by decide +kernel)) ggX8_hear_X8_times
set_option maxRecDepth 20000 in
theorem ggX8_hear_X8_setTimes : GoodIn wsX8_hear wsX8_setTimes := goodIn_r _ [10, 6, 11, 12, 13, 14, 15] (by decide +kernel) (by decide +kernel)
set_option maxRecDepth 20000 in
theorem gX8_hear_X8_setTimes : GoodIn wsX8_hear (wsV RX8 71 RX8 yX8_setTimes wsX8_setTimes) := goodIn_app (goodIn_of _ (by decide +kernel)) ggX8_hear_X8_setTimes
theorem dX8_hear_0 : decode cX8_hear 0 = .ok (.iload_n 1, 1) := by decide +kernel
theorem dX8_hear_1 : decode cX8_hear 1 = .ok (.ifCond .lt 23, 3) := by decide +kernel
theorem dX8_hear_4 : decode cX8_hear 4 = .ok (.iload_n 1, 1) := by decide +kernel
theorem dX8_hear_5 : decode cX8_hear 5 = .ok (.bipush 6, 2) := by decide +kernel
theorem dX8_hear_7 : decode cX8_hear 7 = .ok (.if_icmp .ge 17, 3) := by decide +kernel
theorem dX8_hear_10 : decode cX8_hear 10 = .ok (.aload_n 0, 1) := by decide +kernel
theorem dX8_hear_11 : decode cX8_hear 11 = .ok (.iload_n 1, 1) := by decide +kernel
theorem dX8_hear_12 : decode cX8_hear 12 = .ok (.iload_n 2, 1) := by decide +kernel
theorem dX8_hear_13 : decode cX8_hear 13 = .ok (.aload_n 0, 1) := by decide +kernel
theorem dX8_hear_14 : decode cX8_hear 14 = .ok (.iload_n 1, 1) := by decide +kernel
theorem dX8_hear_15 : decode cX8_hear 15 = .ok (.iload_n 2, 1) := by decide +kernel
theorem dX8_hear_16 : decode cX8_hear 16 = .ok (.invokevirtual 40, 3) := by decide +kernel
theorem dX8_hear_19 : decode cX8_hear 19 = .ok (.iconst 1, 1) := by decide +kernel
theorem dX8_hear_20 : decode cX8_hear 20 = .ok (.iadd, 1) := by decide +kernel
theorem dX8_hear_21 : decode cX8_hear 21 = .ok (.invokevirtual 71, 3) := by decide +kernel
theorem dX8_hear_24 : decode cX8_hear 24 = .ok (.return_, 1) := by decide +kernel
set_option maxRecDepth 20000 in
theorem ggX8_slip_X8_setTimes : GoodIn wsX8_slip wsX8_setTimes := goodIn_r _ [6, 1, 7, 8, 9, 10, 11] (by decide +kernel) (by decide +kernel)
set_option maxRecDepth 20000 in
theorem gX8_slip_X8_setTimes : GoodIn wsX8_slip (wsV RX8 71 RX8 yX8_setTimes wsX8_setTimes) := goodIn_app (goodIn_of _ (by decide +kernel)) ggX8_slip_X8_setTimes
theorem dX8_slip_0 : decode cX8_slip 0 = .ok (.iconst 0, 1) := by decide +kernel
theorem dX8_slip_1 : decode cX8_slip 1 = .ok (.istore_n 2, 1) := by decide +kernel
theorem dX8_slip_2 : decode cX8_slip 2 = .ok (.iload_n 2, 1) := by decide +kernel
theorem dX8_slip_3 : decode cX8_slip 3 = .ok (.bipush 7, 2) := by decide +kernel
theorem dX8_slip_5 : decode cX8_slip 5 = .ok (.if_icmp .ge 16, 3) := by decide +kernel
theorem dX8_slip_8 : decode cX8_slip 8 = .ok (.aload_n 0, 1) := by decide +kernel
theorem dX8_slip_9 : decode cX8_slip 9 = .ok (.iload_n 1, 1) := by decide +kernel
theorem dX8_slip_10 : decode cX8_slip 10 = .ok (.iload_n 2, 1) := by decide +kernel
theorem dX8_slip_11 : decode cX8_slip 11 = .ok (.iconst 0, 1) := by decide +kernel
theorem dX8_slip_12 : decode cX8_slip 12 = .ok (.invokevirtual 71, 3) := by decide +kernel
theorem dX8_slip_15 : decode cX8_slip 15 = .ok (.iinc 2 1, 3) := by decide +kernel
theorem dX8_slip_18 : decode cX8_slip 18 = .ok (.goto (-16), 3) := by decide +kernel
theorem dX8_slip_21 : decode cX8_slip 21 = .ok (.aload_n 0, 1) := by decide +kernel
theorem dX8_slip_22 : decode cX8_slip 22 = .ok (.getfield 11, 3) := by decide +kernel
theorem dX8_slip_25 : decode cX8_slip 25 = .ok (.bipush 48, 2) := by decide +kernel
theorem dX8_slip_27 : decode cX8_slip 27 = .ok (.dup2, 1) := by decide +kernel
theorem dX8_slip_28 : decode cX8_slip 28 = .ok (.iaload, 1) := by decide +kernel
theorem dX8_slip_29 : decode cX8_slip 29 = .ok (.iconst 1, 1) := by decide +kernel
theorem dX8_slip_30 : decode cX8_slip 30 = .ok (.iload_n 1, 1) := by decide +kernel
theorem dX8_slip_31 : decode cX8_slip 31 = .ok (.ishl, 1) := by decide +kernel
theorem dX8_slip_32 : decode cX8_slip 32 = .ok (.iconst (-1), 1) := by decide +kernel
theorem dX8_slip_33 : decode cX8_slip 33 = .ok (.ixor, 1) := by decide +kernel
theorem dX8_slip_34 : decode cX8_slip 34 = .ok (.iand, 1) := by decide +kernel
theorem dX8_slip_35 : decode cX8_slip 35 = .ok (.iastore, 1) := by decide +kernel
theorem dX8_slip_36 : decode cX8_slip 36 = .ok (.return_, 1) := by decide +kernel
set_option maxRecDepth 20000 in
theorem ggX8_mix_X8_times : GoodIn wsX8_mix wsX8_times := goodIn_r _ [5, 6, 15] (by decide +kernel) (by decide +kernel)
set_option maxRecDepth 20000 in
theorem gX8_mix_X8_times : GoodIn wsX8_mix (wsV RX8 40 RX8 yX8_times wsX8_times) := goodIn_app (goodIn_of _ (by decide +kernel)) ggX8_mix_X8_times
set_option maxRecDepth 20000 in
theorem ggX8_mix_X8_setTimes : GoodIn wsX8_mix wsX8_setTimes := goodIn_r _ [10, 6, 11, 12, 13, 14, 15] (by decide +kernel) (by decide +kernel)
set_option maxRecDepth 20000 in
theorem gX8_mix_X8_setTimes : GoodIn wsX8_mix (wsV RX8 71 RX8 yX8_setTimes wsX8_setTimes) := goodIn_app (goodIn_of _ (by decide +kernel)) ggX8_mix_X8_setTimes
theorem dX8_mix_0 : decode cX8_mix 0 = .ok (.iconst 0, 1) := by decide +kernel
theorem dX8_mix_1 : decode cX8_mix 1 = .ok (.istore_n 3, 1) := by decide +kernel
theorem dX8_mix_2 : decode cX8_mix 2 = .ok (.iload_n 3, 1) := by decide +kernel
theorem dX8_mix_3 : decode cX8_mix 3 = .ok (.bipush 7, 2) := by decide +kernel
theorem dX8_mix_5 : decode cX8_mix 5 = .ok (.if_icmp .ge 40, 3) := by decide +kernel
theorem dX8_mix_8 : decode cX8_mix 8 = .ok (.aload_n 0, 1) := by decide +kernel
theorem dX8_mix_9 : decode cX8_mix 9 = .ok (.iload_n 1, 1) := by decide +kernel
theorem dX8_mix_10 : decode cX8_mix 10 = .ok (.iload_n 3, 1) := by decide +kernel
theorem dX8_mix_11 : decode cX8_mix 11 = .ok (.invokevirtual 40, 3) := by decide +kernel
theorem dX8_mix_14 : decode cX8_mix 14 = .ok (.aload_n 0, 1) := by decide +kernel
theorem dX8_mix_15 : decode cX8_mix 15 = .ok (.iload_n 2, 1) := by decide +kernel
theorem dX8_mix_16 : decode cX8_mix 16 = .ok (.iload_n 3, 1) := by decide +kernel
theorem dX8_mix_17 : decode cX8_mix 17 = .ok (.invokevirtual 40, 3) := by decide +kernel
theorem dX8_mix_20 : decode cX8_mix 20 = .ok (.iadd, 1) := by decide +kernel
theorem dX8_mix_21 : decode cX8_mix 21 = .ok (.istore 4, 2) := by decide +kernel
theorem dX8_mix_23 : decode cX8_mix 23 = .ok (.aload_n 0, 1) := by decide +kernel
theorem dX8_mix_24 : decode cX8_mix 24 = .ok (.iload_n 1, 1) := by decide +kernel
theorem dX8_mix_25 : decode cX8_mix 25 = .ok (.iload_n 3, 1) := by decide +kernel
theorem dX8_mix_26 : decode cX8_mix 26 = .ok (.iload 4, 2) := by decide +kernel
theorem dX8_mix_28 : decode cX8_mix 28 = .ok (.invokevirtual 71, 3) := by decide +kernel
theorem dX8_mix_31 : decode cX8_mix 31 = .ok (.aload_n 0, 1) := by decide +kernel
theorem dX8_mix_32 : decode cX8_mix 32 = .ok (.iload_n 2, 1) := by decide +kernel
theorem dX8_mix_33 : decode cX8_mix 33 = .ok (.iload_n 3, 1) := by decide +kernel
theorem dX8_mix_34 : decode cX8_mix 34 = .ok (.iload 4, 2) := by decide +kernel
theorem dX8_mix_36 : decode cX8_mix 36 = .ok (.invokevirtual 71, 3) := by decide +kernel
theorem dX8_mix_39 : decode cX8_mix 39 = .ok (.iinc 3 1, 3) := by decide +kernel
theorem dX8_mix_42 : decode cX8_mix 42 = .ok (.goto (-40), 3) := by decide +kernel
theorem dX8_mix_45 : decode cX8_mix 45 = .ok (.return_, 1) := by decide +kernel
theorem dX9_init_0 : decode cX9_init 0 = .ok (.aload_n 0, 1) := by decide +kernel
theorem dX9_init_1 : decode cX9_init 1 = .ok (.invokespecial 3, 3) := by decide +kernel
theorem dX9_init_4 : decode cX9_init 4 = .ok (.aload_n 0, 1) := by decide +kernel
theorem dX9_init_5 : decode cX9_init 5 = .ok (.sipush 500, 3) := by decide +kernel
theorem dX9_init_8 : decode cX9_init 8 = .ok (.newarray .int, 2) := by decide +kernel
theorem dX9_init_10 : decode cX9_init 10 = .ok (.putfield 11, 3) := by decide +kernel
theorem dX9_init_13 : decode cX9_init 13 = .ok (.aload_n 0, 1) := by decide +kernel
theorem dX9_init_14 : decode cX9_init 14 = .ok (.bipush 100, 2) := by decide +kernel
theorem dX9_init_16 : decode cX9_init 16 = .ok (.newarray .int, 2) := by decide +kernel
theorem dX9_init_18 : decode cX9_init 18 = .ok (.putfield 17, 3) := by decide +kernel
theorem dX9_init_21 : decode cX9_init 21 = .ok (.aload_n 0, 1) := by decide +kernel
theorem dX9_init_22 : decode cX9_init 22 = .ok (.iconst 2, 1) := by decide +kernel
theorem dX9_init_23 : decode cX9_init 23 = .ok (.newarray .boolean, 2) := by decide +kernel
theorem dX9_init_25 : decode cX9_init 25 = .ok (.putfield 20, 3) := by decide +kernel
theorem dX9_init_28 : decode cX9_init 28 = .ok (.return_, 1) := by decide +kernel
theorem dX9_empty_0 : decode cX9_empty 0 = .ok (.aload_n 0, 1) := by decide +kernel
theorem dX9_empty_1 : decode cX9_empty 1 = .ok (.iconst 0, 1) := by decide +kernel
theorem dX9_empty_2 : decode cX9_empty 2 = .ok (.putfield 24, 3) := by decide +kernel
theorem dX9_empty_5 : decode cX9_empty 5 = .ok (.iconst 0, 1) := by decide +kernel
theorem dX9_empty_6 : decode cX9_empty 6 = .ok (.istore_n 1, 1) := by decide +kernel
theorem dX9_empty_7 : decode cX9_empty 7 = .ok (.iload_n 1, 1) := by decide +kernel
theorem dX9_empty_8 : decode cX9_empty 8 = .ok (.iconst 2, 1) := by decide +kernel
theorem dX9_empty_9 : decode cX9_empty 9 = .ok (.if_icmp .ge 16, 3) := by decide +kernel
theorem dX9_empty_12 : decode cX9_empty 12 = .ok (.aload_n 0, 1) := by decide +kernel
theorem dX9_empty_13 : decode cX9_empty 13 = .ok (.getfield 20, 3) := by decide +kernel
theorem dX9_empty_16 : decode cX9_empty 16 = .ok (.iload_n 1, 1) := by decide +kernel
theorem dX9_empty_17 : decode cX9_empty 17 = .ok (.iconst 0, 1) := by decide +kernel
theorem dX9_empty_18 : decode cX9_empty 18 = .ok (.bastore, 1) := by decide +kernel
theorem dX9_empty_19 : decode cX9_empty 19 = .ok (.iinc 1 1, 3) := by decide +kernel
theorem dX9_empty_22 : decode cX9_empty 22 = .ok (.goto (-15), 3) := by decide +kernel
theorem dX9_empty_25 : decode cX9_empty 25 = .ok (.return_, 1) := by decide +kernel
theorem dX9_remember_0 : decode cX9_remember 0 = .ok (.aload_n 1, 1) := by decide +kernel
theorem dX9_remember_1 : decode cX9_remember 1 = .ok (.getfield 28, 3) := by decide +kernel
theorem dX9_remember_4 : decode cX9_remember 4 = .ok (.iconst 0, 1) := by decide +kernel
theorem dX9_remember_5 : decode cX9_remember 5 = .ok (.aload_n 0, 1) := by decide +kernel
theorem dX9_remember_6 : decode cX9_remember 6 = .ok (.getfield 11, 3) := by decide +kernel
theorem dX9_remember_9 : decode cX9_remember 9 = .ok (.aload_n 0, 1) := by decide +kernel
theorem dX9_remember_10 : decode cX9_remember 10 = .ok (.getfield 31, 3) := by decide +kernel
theorem dX9_remember_13 : decode cX9_remember 13 = .ok (.bipush 50, 2) := by decide +kernel
theorem dX9_remember_15 : decode cX9_remember 15 = .ok (.imul, 1) := by decide +kernel
theorem dX9_remember_16 : decode cX9_remember 16 = .ok (.bipush 50, 2) := by decide +kernel
theorem dX9_remember_18 : decode cX9_remember 18 = .ok (.invokestatic 34, 3) := by decide +kernel
theorem dX9_remember_21 : decode cX9_remember 21 = .ok (.aload_n 0, 1) := by decide +kernel
theorem dX9_remember_22 : decode cX9_remember 22 = .ok (.aload_n 0, 1) := by decide +kernel
theorem dX9_remember_23 : decode cX9_remember 23 = .ok (.getfield 31, 3) := by decide +kernel
theorem dX9_remember_26 : decode cX9_remember 26 = .ok (.iconst 1, 1) := by decide +kernel
theorem dX9_remember_27 : decode cX9_remember 27 = .ok (.iadd, 1) := by decide +kernel
theorem dX9_remember_28 : decode cX9_remember 28 = .ok (.bipush 10, 2) := by decide +kernel
theorem dX9_remember_30 : decode cX9_remember 30 = .ok (.irem, 1) := by decide +kernel
theorem dX9_remember_31 : decode cX9_remember 31 = .ok (.putfield 31, 3) := by decide +kernel
theorem dX9_remember_34 : decode cX9_remember 34 = .ok (.aload_n 0, 1) := by decide +kernel
theorem dX9_remember_35 : decode cX9_remember 35 = .ok (.aload_n 0, 1) := by decide +kernel
theorem dX9_remember_36 : decode cX9_remember 36 = .ok (.getfield 24, 3) := by decide +kernel
theorem dX9_remember_39 : decode cX9_remember 39 = .ok (.iconst 1, 1) := by decide +kernel
theorem dX9_remember_40 : decode cX9_remember 40 = .ok (.iadd, 1) := by decide +kernel
theorem dX9_remember_41 : decode cX9_remember 41 = .ok (.bipush 10, 2) := by decide +kernel
theorem dX9_remember_43 : decode cX9_remember 43 = .ok (.invokestatic 40, 3) := by decide +kernel
theorem dX9_remember_46 : decode cX9_remember 46 = .ok (.putfield 24, 3) := by decide +kernel
theorem dX9_remember_49 : decode cX9_remember 49 = .ok (.return_, 1) := by decide +kernel
theorem dX9_restoreLatest_0 : decode cX9_restoreLatest 0 = .ok (.aload_n 0, 1) := by decide +kernel
theorem dX9_restoreLatest_1 : decode cX9_restoreLatest 1 = .ok (.getfield 24, 3) := by decide +kernel
theorem dX9_restoreLatest_4 : decode cX9_restoreLatest 4 = .ok (.ifCond .ne 5, 3) := by decide +kernel
theorem dX9_restoreLatest_7 : decode cX9_restoreLatest 7 = .ok (.iconst 0, 1) := by decide +kernel
theorem dX9_restoreLatest_8 : decode cX9_restoreLatest 8 = .ok (.ireturn, 1) := by decide +kernel
theorem dX9_restoreLatest_9 : decode cX9_restoreLatest 9 = .ok (.aload_n 0, 1) := by decide +kernel
theorem dX9_restoreLatest_10 : decode cX9_restoreLatest 10 = .ok (.dup, 1) := by decide +kernel
theorem dX9_restoreLatest_11 : decode cX9_restoreLatest 11 = .ok (.getfield 24, 3) := by decide +kernel
theorem dX9_restoreLatest_14 : decode cX9_restoreLatest 14 = .ok (.iconst 1, 1) := by decide +kernel
theorem dX9_restoreLatest_15 : decode cX9_restoreLatest 15 = .ok (.isub, 1) := by decide +kernel
theorem dX9_restoreLatest_16 : decode cX9_restoreLatest 16 = .ok (.putfield 24, 3) := by decide +kernel
theorem dX9_restoreLatest_19 : decode cX9_restoreLatest 19 = .ok (.aload_n 0, 1) := by decide +kernel
theorem dX9_restoreLatest_20 : decode cX9_restoreLatest 20 = .ok (.aload_n 0, 1) := by decide +kernel
theorem dX9_restoreLatest_21 : decode cX9_restoreLatest 21 = .ok (.getfield 31, 3) := by decide +kernel
theorem dX9_restoreLatest_24 : decode cX9_restoreLatest 24 = .ok (.bipush 10, 2) := by decide +kernel
theorem dX9_restoreLatest_26 : decode cX9_restoreLatest 26 = .ok (.iadd, 1) := by decide +kernel
theorem dX9_restoreLatest_27 : decode cX9_restoreLatest 27 = .ok (.iconst 1, 1) := by decide +kernel
theorem dX9_restoreLatest_28 : decode cX9_restoreLatest 28 = .ok (.isub, 1) := by decide +kernel
theorem dX9_restoreLatest_29 : decode cX9_restoreLatest 29 = .ok (.bipush 10, 2) := by decide +kernel
theorem dX9_restoreLatest_31 : decode cX9_restoreLatest 31 = .ok (.irem, 1) := by decide +kernel
theorem dX9_restoreLatest_32 : decode cX9_restoreLatest 32 = .ok (.putfield 31, 3) := by decide +kernel
theorem dX9_restoreLatest_35 : decode cX9_restoreLatest 35 = .ok (.aload_n 0, 1) := by decide +kernel
theorem dX9_restoreLatest_36 : decode cX9_restoreLatest 36 = .ok (.getfield 11, 3) := by decide +kernel
theorem dX9_restoreLatest_39 : decode cX9_restoreLatest 39 = .ok (.aload_n 0, 1) := by decide +kernel
theorem dX9_restoreLatest_40 : decode cX9_restoreLatest 40 = .ok (.getfield 31, 3) := by decide +kernel
theorem dX9_restoreLatest_43 : decode cX9_restoreLatest 43 = .ok (.bipush 50, 2) := by decide +kernel
theorem dX9_restoreLatest_45 : decode cX9_restoreLatest 45 = .ok (.imul, 1) := by decide +kernel
theorem dX9_restoreLatest_46 : decode cX9_restoreLatest 46 = .ok (.aload_n 1, 1) := by decide +kernel
theorem dX9_restoreLatest_47 : decode cX9_restoreLatest 47 = .ok (.getfield 28, 3) := by decide +kernel
theorem dX9_restoreLatest_50 : decode cX9_restoreLatest 50 = .ok (.iconst 0, 1) := by decide +kernel
theorem dX9_restoreLatest_51 : decode cX9_restoreLatest 51 = .ok (.bipush 50, 2) := by decide +kernel
theorem dX9_restoreLatest_53 : decode cX9_restoreLatest 53 = .ok (.invokestatic 34, 3) := by decide +kernel
theorem dX9_restoreLatest_56 : decode cX9_restoreLatest 56 = .ok (.iconst 1, 1) := by decide +kernel
theorem dX9_restoreLatest_57 : decode cX9_restoreLatest 57 = .ok (.ireturn, 1) := by decide +kernel
theorem dX9_keepImage_0 : decode cX9_keepImage 0 = .ok (.aload_n 2, 1) := by decide +kernel
theorem dX9_keepImage_1 : decode cX9_keepImage 1 = .ok (.getfield 28, 3) := by decide +kernel
theorem dX9_keepImage_4 : decode cX9_keepImage 4 = .ok (.iconst 0, 1) := by decide +kernel
theorem dX9_keepImage_5 : decode cX9_keepImage 5 = .ok (.aload_n 0, 1) := by decide +kernel
theorem dX9_keepImage_6 : decode cX9_keepImage 6 = .ok (.getfield 17, 3) := by decide +kernel
theorem dX9_keepImage_9 : decode cX9_keepImage 9 = .ok (.iload_n 1, 1) := by decide +kernel
theorem dX9_keepImage_10 : decode cX9_keepImage 10 = .ok (.bipush 50, 2) := by decide +kernel
theorem dX9_keepImage_12 : decode cX9_keepImage 12 = .ok (.imul, 1) := by decide +kernel
theorem dX9_keepImage_13 : decode cX9_keepImage 13 = .ok (.bipush 50, 2) := by decide +kernel
theorem dX9_keepImage_15 : decode cX9_keepImage 15 = .ok (.invokestatic 34, 3) := by decide +kernel
theorem dX9_keepImage_18 : decode cX9_keepImage 18 = .ok (.aload_n 0, 1) := by decide +kernel
theorem dX9_keepImage_19 : decode cX9_keepImage 19 = .ok (.getfield 20, 3) := by decide +kernel
theorem dX9_keepImage_22 : decode cX9_keepImage 22 = .ok (.iload_n 1, 1) := by decide +kernel
theorem dX9_keepImage_23 : decode cX9_keepImage 23 = .ok (.iconst 1, 1) := by decide +kernel
theorem dX9_keepImage_24 : decode cX9_keepImage 24 = .ok (.bastore, 1) := by decide +kernel
theorem dX9_keepImage_25 : decode cX9_keepImage 25 = .ok (.return_, 1) := by decide +kernel
theorem dX9_restoreImage_0 : decode cX9_restoreImage 0 = .ok (.aload_n 0, 1) := by decide +kernel
theorem dX9_restoreImage_1 : decode cX9_restoreImage 1 = .ok (.getfield 20, 3) := by decide +kernel
theorem dX9_restoreImage_4 : decode cX9_restoreImage 4 = .ok (.iload_n 1, 1) := by decide +kernel
theorem dX9_restoreImage_5 : decode cX9_restoreImage 5 = .ok (.baload, 1) := by decide +kernel
theorem dX9_restoreImage_6 : decode cX9_restoreImage 6 = .ok (.ifCond .ne 5, 3) := by decide +kernel
theorem dX9_restoreImage_9 : decode cX9_restoreImage 9 = .ok (.iconst 0, 1) := by decide +kernel
theorem dX9_restoreImage_10 : decode cX9_restoreImage 10 = .ok (.ireturn, 1) := by decide +kernel
theorem dX9_restoreImage_11 : decode cX9_restoreImage 11 = .ok (.aload_n 0, 1) := by decide +kernel
theorem dX9_restoreImage_12 : decode cX9_restoreImage 12 = .ok (.getfield 17, 3) := by decide +kernel
theorem dX9_restoreImage_15 : decode cX9_restoreImage 15 = .ok (.iload_n 1, 1) := by decide +kernel
theorem dX9_restoreImage_16 : decode cX9_restoreImage 16 = .ok (.bipush 50, 2) := by decide +kernel
theorem dX9_restoreImage_18 : decode cX9_restoreImage 18 = .ok (.imul, 1) := by decide +kernel
theorem dX9_restoreImage_19 : decode cX9_restoreImage 19 = .ok (.aload_n 2, 1) := by decide +kernel
theorem dX9_restoreImage_20 : decode cX9_restoreImage 20 = .ok (.getfield 28, 3) := by decide +kernel
theorem dX9_restoreImage_23 : decode cX9_restoreImage 23 = .ok (.iconst 0, 1) := by decide +kernel
theorem dX9_restoreImage_24 : decode cX9_restoreImage 24 = .ok (.bipush 50, 2) := by decide +kernel
theorem dX9_restoreImage_26 : decode cX9_restoreImage 26 = .ok (.invokestatic 34, 3) := by decide +kernel
theorem dX9_restoreImage_29 : decode cX9_restoreImage 29 = .ok (.aload_n 0, 1) := by decide +kernel
theorem dX9_restoreImage_30 : decode cX9_restoreImage 30 = .ok (.iconst 0, 1) := by decide +kernel
theorem dX9_restoreImage_31 : decode cX9_restoreImage 31 = .ok (.putfield 24, 3) := by decide +kernel
theorem dX9_restoreImage_34 : decode cX9_restoreImage 34 = .ok (.iconst 1, 1) := by decide +kernel
theorem dX9_restoreImage_35 : decode cX9_restoreImage 35 = .ok (.ireturn, 1) := by decide +kernel
theorem dX10_init_0 : decode cX10_init 0 = .ok (.aload_n 0, 1) := by decide +kernel
theorem dX10_init_1 : decode cX10_init 1 = .ok (.invokespecial 3, 3) := by decide +kernel
theorem dX10_init_4 : decode cX10_init 4 = .ok (.aload_n 0, 1) := by decide +kernel
theorem dX10_init_5 : decode cX10_init 5 = .ok (.bipush 6, 2) := by decide +kernel
theorem dX10_init_7 : decode cX10_init 7 = .ok (.newarray .int, 2) := by decide +kernel
theorem dX10_init_9 : decode cX10_init 9 = .ok (.putfield 9, 3) := by decide +kernel
theorem dX10_init_12 : decode cX10_init 12 = .ok (.aload_n 0, 1) := by decide +kernel
theorem dX10_init_13 : decode cX10_init 13 = .ok (.bipush 6, 2) := by decide +kernel
theorem dX10_init_15 : decode cX10_init 15 = .ok (.newarray .int, 2) := by decide +kernel
theorem dX10_init_17 : decode cX10_init 17 = .ok (.putfield 15, 3) := by decide +kernel
theorem dX10_init_20 : decode cX10_init 20 = .ok (.aload_n 0, 1) := by decide +kernel
theorem dX10_init_21 : decode cX10_init 21 = .ok (.bipush 7, 2) := by decide +kernel
theorem dX10_init_23 : decode cX10_init 23 = .ok (.newarray .int, 2) := by decide +kernel
theorem dX10_init_25 : decode cX10_init 25 = .ok (.putfield 18, 3) := by decide +kernel
theorem dX10_init_28 : decode cX10_init 28 = .ok (.aload_n 0, 1) := by decide +kernel
theorem dX10_init_29 : decode cX10_init 29 = .ok (.iconst 3, 1) := by decide +kernel
theorem dX10_init_30 : decode cX10_init 30 = .ok (.putfield 21, 3) := by decide +kernel
theorem dX10_init_33 : decode cX10_init 33 = .ok (.return_, 1) := by decide +kernel
set_option maxRecDepth 20000 in
theorem ggX10_begin_J7_fill_53178 : GoodIn wsX10_begin wsJ7_fill_53178 := goodIn_r _ [7] (by decide +kernel) (by decide +kernel)
set_option maxRecDepth 20000 in
theorem gX10_begin_J7_fill_53178 : GoodIn wsX10_begin (va_wsS RX10 25 yJ7_fill_53178 wsJ7_fill_53178) := goodIn_app (goodIn_of _ (by decide +kernel)) ggX10_begin_J7_fill_53178
theorem dX10_begin_0 : decode cX10_begin 0 = .ok (.aload_n 0, 1) := by decide +kernel
theorem dX10_begin_1 : decode cX10_begin 1 = .ok (.getfield 18, 3) := by decide +kernel
theorem dX10_begin_4 : decode cX10_begin 4 = .ok (.iconst 0, 1) := by decide +kernel
theorem dX10_begin_5 : decode cX10_begin 5 = .ok (.invokestatic 25, 3) := by decide +kernel
theorem dX10_begin_8 : decode cX10_begin 8 = .ok (.aload_n 0, 1) := by decide +kernel
theorem dX10_begin_9 : decode cX10_begin 9 = .ok (.iconst 0, 1) := by decide +kernel
theorem dX10_begin_10 : decode cX10_begin 10 = .ok (.putfield 31, 3) := by decide +kernel
theorem dX10_begin_13 : decode cX10_begin 13 = .ok (.aload_n 0, 1) := by decide +kernel
theorem dX10_begin_14 : decode cX10_begin 14 = .ok (.iconst 3, 1) := by decide +kernel
theorem dX10_begin_15 : decode cX10_begin 15 = .ok (.putfield 21, 3) := by decide +kernel
theorem dX10_begin_18 : decode cX10_begin 18 = .ok (.return_, 1) := by decide +kernel
theorem dX10_hasPerson_0 : decode cX10_hasPerson 0 = .ok (.iload_n 1, 1) := by decide +kernel
theorem dX10_hasPerson_1 : decode cX10_hasPerson 1 = .ok (.ifCond .lt 15, 3) := by decide +kernel
theorem dX10_hasPerson_4 : decode cX10_hasPerson 4 = .ok (.iload_n 1, 1) := by decide +kernel
theorem dX10_hasPerson_5 : decode cX10_hasPerson 5 = .ok (.aload_n 0, 1) := by decide +kernel
theorem dX10_hasPerson_6 : decode cX10_hasPerson 6 = .ok (.getfield 31, 3) := by decide +kernel
theorem dX10_hasPerson_9 : decode cX10_hasPerson 9 = .ok (.if_icmp .ge 7, 3) := by decide +kernel
theorem dX10_hasPerson_12 : decode cX10_hasPerson 12 = .ok (.iconst 1, 1) := by decide +kernel
theorem dX10_hasPerson_13 : decode cX10_hasPerson 13 = .ok (.goto 4, 3) := by decide +kernel
theorem dX10_hasPerson_16 : decode cX10_hasPerson 16 = .ok (.iconst 0, 1) := by decide +kernel
theorem dX10_hasPerson_17 : decode cX10_hasPerson 17 = .ok (.ireturn, 1) := by decide +kernel
theorem dX10_hasPillow_0 : decode cX10_hasPillow 0 = .ok (.iload_n 1, 1) := by decide +kernel
theorem dX10_hasPillow_1 : decode cX10_hasPillow 1 = .ok (.ifCond .lt 15, 3) := by decide +kernel
theorem dX10_hasPillow_4 : decode cX10_hasPillow 4 = .ok (.iload_n 1, 1) := by decide +kernel
theorem dX10_hasPillow_5 : decode cX10_hasPillow 5 = .ok (.aload_n 0, 1) := by decide +kernel
theorem dX10_hasPillow_6 : decode cX10_hasPillow 6 = .ok (.getfield 21, 3) := by decide +kernel
theorem dX10_hasPillow_9 : decode cX10_hasPillow 9 = .ok (.if_icmp .ge 7, 3) := by decide +kernel
theorem dX10_hasPillow_12 : decode cX10_hasPillow 12 = .ok (.iconst 1, 1) := by decide +kernel
theorem dX10_hasPillow_13 : decode cX10_hasPillow 13 = .ok (.goto 4, 3) := by decide +kernel
theorem dX10_hasPillow_16 : decode cX10_hasPillow 16 = .ok (.iconst 0, 1) := by decide +kernel
theorem dX10_hasPillow_17 : decode cX10_hasPillow 17 = .ok (.ireturn, 1) := by decide +kernel
theorem dX10_addPerson_0 : decode cX10_addPerson 0 = .ok (.aload_n 0, 1) := by decide +kernel
theorem dX10_addPerson_1 : decode cX10_addPerson 1 = .ok (.getfield 31, 3) := by decide +kernel
theorem dX10_addPerson_4 : decode cX10_addPerson 4 = .ok (.bipush 6, 2) := by decide +kernel
theorem dX10_addPerson_6 : decode cX10_addPerson 6 = .ok (.if_icmp .ge 33, 3) := by decide +kernel
theorem dX10_addPerson_9 : decode cX10_addPerson 9 = .ok (.aload_n 0, 1) := by decide +kernel
theorem dX10_addPerson_10 : decode cX10_addPerson 10 = .ok (.getfield 9, 3) := by decide +kernel
theorem dX10_addPerson_13 : decode cX10_addPerson 13 = .ok (.aload_n 0, 1) := by decide +kernel
theorem dX10_addPerson_14 : decode cX10_addPerson 14 = .ok (.getfield 31, 3) := by decide +kernel
theorem dX10_addPerson_17 : decode cX10_addPerson 17 = .ok (.iload_n 1, 1) := by decide +kernel
theorem dX10_addPerson_18 : decode cX10_addPerson 18 = .ok (.iastore, 1) := by decide +kernel
theorem dX10_addPerson_19 : decode cX10_addPerson 19 = .ok (.aload_n 0, 1) := by decide +kernel
theorem dX10_addPerson_20 : decode cX10_addPerson 20 = .ok (.getfield 15, 3) := by decide +kernel
theorem dX10_addPerson_23 : decode cX10_addPerson 23 = .ok (.aload_n 0, 1) := by decide +kernel
theorem dX10_addPerson_24 : decode cX10_addPerson 24 = .ok (.getfield 31, 3) := by decide +kernel
theorem dX10_addPerson_27 : decode cX10_addPerson 27 = .ok (.iload_n 2, 1) := by decide +kernel
theorem dX10_addPerson_28 : decode cX10_addPerson 28 = .ok (.iastore, 1) := by decide +kernel
theorem dX10_addPerson_29 : decode cX10_addPerson 29 = .ok (.aload_n 0, 1) := by decide +kernel
theorem dX10_addPerson_30 : decode cX10_addPerson 30 = .ok (.dup, 1) := by decide +kernel
theorem dX10_addPerson_31 : decode cX10_addPerson 31 = .ok (.getfield 31, 3) := by decide +kernel
theorem dX10_addPerson_34 : decode cX10_addPerson 34 = .ok (.iconst 1, 1) := by decide +kernel
theorem dX10_addPerson_35 : decode cX10_addPerson 35 = .ok (.iadd, 1) := by decide +kernel
theorem dX10_addPerson_36 : decode cX10_addPerson 36 = .ok (.putfield 31, 3) := by decide +kernel
theorem dX10_addPerson_39 : decode cX10_addPerson 39 = .ok (.return_, 1) := by decide +kernel
end
section
theorem dX10_addClash_0 : decode cX10_addClash 0 = .ok (.aload_n 0, 1) := by decide +kernel
theorem dX10_addClash_1 : decode cX10_addClash 1 = .ok (.getfield 18, 3) := by decide +kernel
theorem dX10_addClash_4 : decode cX10_addClash 4 = .ok (.iload_n 1, 1) := by decide +kernel
theorem dX10_addClash_5 : decode cX10_addClash 5 = .ok (.dup2, 1) := by decide +kernel
theorem dX10_addClash_6 : decode cX10_addClash 6 = .ok (.iaload, 1) := by decide +kernel
theorem dX10_addClash_7 : decode cX10_addClash 7 = .ok (.iconst 1, 1) := by decide +kernel
theorem dX10_addClash_8 : decode cX10_addClash 8 = .ok (.iload_n 2, 1) := by decide +kernel
theorem dX10_addClash_9 : decode cX10_addClash 9 = .ok (.ishl, 1) := by decide +kernel
theorem dX10_addClash_10 : decode cX10_addClash 10 = .ok (.ior, 1) := by decide +kernel
theorem dX10_addClash_11 : decode cX10_addClash 11 = .ok (.iastore, 1) := by decide +kernel
theorem dX10_addClash_12 : decode cX10_addClash 12 = .ok (.aload_n 0, 1) := by decide +kernel
theorem dX10_addClash_13 : decode cX10_addClash 13 = .ok (.getfield 18, 3) := by decide +kernel
theorem dX10_addClash_16 : decode cX10_addClash 16 = .ok (.iload_n 2, 1) := by decide +kernel
theorem dX10_addClash_17 : decode cX10_addClash 17 = .ok (.dup2, 1) := by decide +kernel
theorem dX10_addClash_18 : decode cX10_addClash 18 = .ok (.iaload, 1) := by decide +kernel
theorem dX10_addClash_19 : decode cX10_addClash 19 = .ok (.iconst 1, 1) := by decide +kernel
theorem dX10_addClash_20 : decode cX10_addClash 20 = .ok (.iload_n 1, 1) := by decide +kernel
theorem dX10_addClash_21 : decode cX10_addClash 21 = .ok (.ishl, 1) := by decide +kernel
theorem dX10_addClash_22 : decode cX10_addClash 22 = .ok (.ior, 1) := by decide +kernel
theorem dX10_addClash_23 : decode cX10_addClash 23 = .ok (.iastore, 1) := by decide +kernel
theorem dX10_addClash_24 : decode cX10_addClash 24 = .ok (.return_, 1) := by decide +kernel
theorem dX10_knownTo_0 : decode cX10_knownTo 0 = .ok (.iconst 0, 1) := by decide +kernel
theorem dX10_knownTo_1 : decode cX10_knownTo 1 = .ok (.istore_n 2, 1) := by decide +kernel
theorem dX10_knownTo_2 : decode cX10_knownTo 2 = .ok (.iconst 0, 1) := by decide +kernel
theorem dX10_knownTo_3 : decode cX10_knownTo 3 = .ok (.istore_n 3, 1) := by decide +kernel
theorem dX10_knownTo_4 : decode cX10_knownTo 4 = .ok (.iload_n 3, 1) := by decide +kernel
theorem dX10_knownTo_5 : decode cX10_knownTo 5 = .ok (.aload_n 0, 1) := by decide +kernel
theorem dX10_knownTo_6 : decode cX10_knownTo 6 = .ok (.getfield 31, 3) := by decide +kernel
theorem dX10_knownTo_9 : decode cX10_knownTo 9 = .ok (.if_icmp .ge 26, 3) := by decide +kernel
theorem dX10_knownTo_12 : decode cX10_knownTo 12 = .ok (.iload_n 1, 1) := by decide +kernel
theorem dX10_knownTo_13 : decode cX10_knownTo 13 = .ok (.iload_n 3, 1) := by decide +kernel
theorem dX10_knownTo_14 : decode cX10_knownTo 14 = .ok (.ishr, 1) := by decide +kernel
theorem dX10_knownTo_15 : decode cX10_knownTo 15 = .ok (.iconst 1, 1) := by decide +kernel
theorem dX10_knownTo_16 : decode cX10_knownTo 16 = .ok (.iand, 1) := by decide +kernel
theorem dX10_knownTo_17 : decode cX10_knownTo 17 = .ok (.ifCond .eq 12, 3) := by decide +kernel
theorem dX10_knownTo_20 : decode cX10_knownTo 20 = .ok (.iload_n 2, 1) := by decide +kernel
theorem dX10_knownTo_21 : decode cX10_knownTo 21 = .ok (.aload_n 0, 1) := by decide +kernel
theorem dX10_knownTo_22 : decode cX10_knownTo 22 = .ok (.getfield 9, 3) := by decide +kernel
theorem dX10_knownTo_25 : decode cX10_knownTo 25 = .ok (.iload_n 3, 1) := by decide +kernel
theorem dX10_knownTo_26 : decode cX10_knownTo 26 = .ok (.iaload, 1) := by decide +kernel
theorem dX10_knownTo_27 : decode cX10_knownTo 27 = .ok (.ior, 1) := by decide +kernel
theorem dX10_knownTo_28 : decode cX10_knownTo 28 = .ok (.istore_n 2, 1) := by decide +kernel
theorem dX10_knownTo_29 : decode cX10_knownTo 29 = .ok (.iinc 3 1, 3) := by decide +kernel
theorem dX10_knownTo_32 : decode cX10_knownTo 32 = .ok (.goto (-28), 3) := by decide +kernel
theorem dX10_knownTo_35 : decode cX10_knownTo 35 = .ok (.iload_n 2, 1) := by decide +kernel
theorem dX10_knownTo_36 : decode cX10_knownTo 36 = .ok (.ireturn, 1) := by decide +kernel
theorem dX10_knownToOne_0 : decode cX10_knownToOne 0 = .ok (.iconst 0, 1) := by decide +kernel
theorem dX10_knownToOne_1 : decode cX10_knownToOne 1 = .ok (.istore_n 1, 1) := by decide +kernel
theorem dX10_knownToOne_2 : decode cX10_knownToOne 2 = .ok (.iconst 0, 1) := by decide +kernel
theorem dX10_knownToOne_3 : decode cX10_knownToOne 3 = .ok (.istore_n 2, 1) := by decide +kernel
theorem dX10_knownToOne_4 : decode cX10_knownToOne 4 = .ok (.iconst 0, 1) := by decide +kernel
theorem dX10_knownToOne_5 : decode cX10_knownToOne 5 = .ok (.istore_n 3, 1) := by decide +kernel
theorem dX10_knownToOne_6 : decode cX10_knownToOne 6 = .ok (.iload_n 3, 1) := by decide +kernel
theorem dX10_knownToOne_7 : decode cX10_knownToOne 7 = .ok (.aload_n 0, 1) := by decide +kernel
theorem dX10_knownToOne_8 : decode cX10_knownToOne 8 = .ok (.getfield 31, 3) := by decide +kernel
theorem dX10_knownToOne_11 : decode cX10_knownToOne 11 = .ok (.if_icmp .ge 29, 3) := by decide +kernel
theorem dX10_knownToOne_14 : decode cX10_knownToOne 14 = .ok (.iload_n 2, 1) := by decide +kernel
theorem dX10_knownToOne_15 : decode cX10_knownToOne 15 = .ok (.iload_n 1, 1) := by decide +kernel
theorem dX10_knownToOne_16 : decode cX10_knownToOne 16 = .ok (.aload_n 0, 1) := by decide +kernel
theorem dX10_knownToOne_17 : decode cX10_knownToOne 17 = .ok (.getfield 9, 3) := by decide +kernel
theorem dX10_knownToOne_20 : decode cX10_knownToOne 20 = .ok (.iload_n 3, 1) := by decide +kernel
theorem dX10_knownToOne_21 : decode cX10_knownToOne 21 = .ok (.iaload, 1) := by decide +kernel
theorem dX10_knownToOne_22 : decode cX10_knownToOne 22 = .ok (.iand, 1) := by decide +kernel
theorem dX10_knownToOne_23 : decode cX10_knownToOne 23 = .ok (.ior, 1) := by decide +kernel
theorem dX10_knownToOne_24 : decode cX10_knownToOne 24 = .ok (.istore_n 2, 1) := by decide +kernel
theorem dX10_knownToOne_25 : decode cX10_knownToOne 25 = .ok (.iload_n 1, 1) := by decide +kernel
theorem dX10_knownToOne_26 : decode cX10_knownToOne 26 = .ok (.aload_n 0, 1) := by decide +kernel
theorem dX10_knownToOne_27 : decode cX10_knownToOne 27 = .ok (.getfield 9, 3) := by decide +kernel
theorem dX10_knownToOne_30 : decode cX10_knownToOne 30 = .ok (.iload_n 3, 1) := by decide +kernel
theorem dX10_knownToOne_31 : decode cX10_knownToOne 31 = .ok (.iaload, 1) := by decide +kernel
theorem dX10_knownToOne_32 : decode cX10_knownToOne 32 = .ok (.ior, 1) := by decide +kernel
theorem dX10_knownToOne_33 : decode cX10_knownToOne 33 = .ok (.istore_n 1, 1) := by decide +kernel
theorem dX10_knownToOne_34 : decode cX10_knownToOne 34 = .ok (.iinc 3 1, 3) := by decide +kernel
theorem dX10_knownToOne_37 : decode cX10_knownToOne 37 = .ok (.goto (-31), 3) := by decide +kernel
theorem dX10_knownToOne_40 : decode cX10_knownToOne 40 = .ok (.iload_n 1, 1) := by decide +kernel
theorem dX10_knownToOne_41 : decode cX10_knownToOne 41 = .ok (.iload_n 2, 1) := by decide +kernel
theorem dX10_knownToOne_42 : decode cX10_knownToOne 42 = .ok (.iconst (-1), 1) := by decide +kernel
theorem dX10_knownToOne_43 : decode cX10_knownToOne 43 = .ok (.ixor, 1) := by decide +kernel
theorem dX10_knownToOne_44 : decode cX10_knownToOne 44 = .ok (.iand, 1) := by decide +kernel
theorem dX10_knownToOne_45 : decode cX10_knownToOne 45 = .ok (.ireturn, 1) := by decide +kernel
set_option maxRecDepth 20000 in
theorem ggX10_clashesWithin_J6_bitCount_0f7a4 : GoodIn wsX10_clashesWithin wsJ6_bitCount_0f7a4 := goodIn_r _ [5, 6, 7, 8] (by decide +kernel) (by decide +kernel)
set_option maxRecDepth 20000 in
theorem gX10_clashesWithin_J6_bitCount_0f7a4 : GoodIn wsX10_clashesWithin (va_wsS RX10 34 yJ6_bitCount_0f7a4 wsJ6_bitCount_0f7a4) := goodIn_app (goodIn_of _ (by decide +kernel)) ggX10_clashesWithin_J6_bitCount_0f7a4
theorem dX10_clashesWithin_0 : decode cX10_clashesWithin 0 = .ok (.iconst 0, 1) := by decide +kernel
theorem dX10_clashesWithin_1 : decode cX10_clashesWithin 1 = .ok (.istore_n 2, 1) := by decide +kernel
theorem dX10_clashesWithin_2 : decode cX10_clashesWithin 2 = .ok (.iconst 0, 1) := by decide +kernel
theorem dX10_clashesWithin_3 : decode cX10_clashesWithin 3 = .ok (.istore_n 3, 1) := by decide +kernel
theorem dX10_clashesWithin_4 : decode cX10_clashesWithin 4 = .ok (.iload_n 3, 1) := by decide +kernel
theorem dX10_clashesWithin_5 : decode cX10_clashesWithin 5 = .ok (.bipush 7, 2) := by decide +kernel
theorem dX10_clashesWithin_7 : decode cX10_clashesWithin 7 = .ok (.if_icmp .ge 31, 3) := by decide +kernel
theorem dX10_clashesWithin_10 : decode cX10_clashesWithin 10 = .ok (.iload_n 1, 1) := by decide +kernel
theorem dX10_clashesWithin_11 : decode cX10_clashesWithin 11 = .ok (.iload_n 3, 1) := by decide +kernel
theorem dX10_clashesWithin_12 : decode cX10_clashesWithin 12 = .ok (.ishr, 1) := by decide +kernel
theorem dX10_clashesWithin_13 : decode cX10_clashesWithin 13 = .ok (.iconst 1, 1) := by decide +kernel
theorem dX10_clashesWithin_14 : decode cX10_clashesWithin 14 = .ok (.iand, 1) := by decide +kernel
theorem dX10_clashesWithin_15 : decode cX10_clashesWithin 15 = .ok (.ifCond .eq 17, 3) := by decide +kernel
theorem dX10_clashesWithin_18 : decode cX10_clashesWithin 18 = .ok (.iload_n 2, 1) := by decide +kernel
theorem dX10_clashesWithin_19 : decode cX10_clashesWithin 19 = .ok (.aload_n 0, 1) := by decide +kernel
theorem dX10_clashesWithin_20 : decode cX10_clashesWithin 20 = .ok (.getfield 18, 3) := by decide +kernel
theorem dX10_clashesWithin_23 : decode cX10_clashesWithin 23 = .ok (.iload_n 3, 1) := by decide +kernel
theorem dX10_clashesWithin_24 : decode cX10_clashesWithin 24 = .ok (.iaload, 1) := by decide +kernel
theorem dX10_clashesWithin_25 : decode cX10_clashesWithin 25 = .ok (.iload_n 1, 1) := by decide +kernel
theorem dX10_clashesWithin_26 : decode cX10_clashesWithin 26 = .ok (.iand, 1) := by decide +kernel
theorem dX10_clashesWithin_27 : decode cX10_clashesWithin 27 = .ok (.invokestatic 34, 3) := by decide +kernel
theorem dX10_clashesWithin_30 : decode cX10_clashesWithin 30 = .ok (.iadd, 1) := by decide +kernel
theorem dX10_clashesWithin_31 : decode cX10_clashesWithin 31 = .ok (.istore_n 2, 1) := by decide +kernel
theorem dX10_clashesWithin_32 : decode cX10_clashesWithin 32 = .ok (.iinc 3 1, 3) := by decide +kernel
theorem dX10_clashesWithin_35 : decode cX10_clashesWithin 35 = .ok (.goto (-31), 3) := by decide +kernel
theorem dX10_clashesWithin_38 : decode cX10_clashesWithin 38 = .ok (.iload_n 2, 1) := by decide +kernel
theorem dX10_clashesWithin_39 : decode cX10_clashesWithin 39 = .ok (.iconst 2, 1) := by decide +kernel
theorem dX10_clashesWithin_40 : decode cX10_clashesWithin 40 = .ok (.idiv, 1) := by decide +kernel
theorem dX10_clashesWithin_41 : decode cX10_clashesWithin 41 = .ok (.ireturn, 1) := by decide +kernel
set_option maxRecDepth 20000 in
theorem ggX10_thingSaid_J6_bitCount_0f7a4 : GoodIn wsX10_thingSaid wsJ6_bitCount_0f7a4 := goodIn_r _ [11, 12, 13, 14] (by decide +kernel) (by decide +kernel)
set_option maxRecDepth 20000 in
theorem gX10_thingSaid_J6_bitCount_0f7a4 : GoodIn wsX10_thingSaid (va_wsS RX10 34 yJ6_bitCount_0f7a4 wsJ6_bitCount_0f7a4) := goodIn_app (goodIn_of _ (by decide +kernel)) ggX10_thingSaid_J6_bitCount_0f7a4
set_option maxRecDepth 20000 in
theorem ggX10_thingSaid_X10_thingAt : GoodIn wsX10_thingSaid wsX10_thingAt := goodIn_r _ [18] (by decide +kernel) (by decide +kernel)
set_option maxRecDepth 20000 in
theorem gX10_thingSaid_X10_thingAt : GoodIn wsX10_thingSaid (va_wsS RX10 50 yX10_thingAt wsX10_thingAt) := goodIn_app (goodIn_of _ (by decide +kernel)) ggX10_thingSaid_X10_thingAt
theorem dX10_thingSaid_0 : decode cX10_thingSaid 0 = .ok (.aload_n 0, 1) := by decide +kernel
theorem dX10_thingSaid_1 : decode cX10_thingSaid 1 = .ok (.getfield 9, 3) := by decide +kernel
theorem dX10_thingSaid_4 : decode cX10_thingSaid 4 = .ok (.iload_n 1, 1) := by decide +kernel
theorem dX10_thingSaid_5 : decode cX10_thingSaid 5 = .ok (.iaload, 1) := by decide +kernel
theorem dX10_thingSaid_6 : decode cX10_thingSaid 6 = .ok (.invokestatic 34, 3) := by decide +kernel
theorem dX10_thingSaid_9 : decode cX10_thingSaid 9 = .ok (.istore 4, 2) := by decide +kernel
theorem dX10_thingSaid_11 : decode cX10_thingSaid 11 = .ok (.ldc2_w 40, 3) := by decide +kernel
theorem dX10_thingSaid_14 : decode cX10_thingSaid 14 = .ok (.iload_n 2, 1) := by decide +kernel
theorem dX10_thingSaid_15 : decode cX10_thingSaid 15 = .ok (.i2l, 1) := by decide +kernel
theorem dX10_thingSaid_16 : decode cX10_thingSaid 16 = .ok (.lmul, 1) := by decide +kernel
theorem dX10_thingSaid_17 : decode cX10_thingSaid 17 = .ok (.ldc2_w 42, 3) := by decide +kernel
theorem dX10_thingSaid_20 : decode cX10_thingSaid 20 = .ok (.iload_n 1, 1) := by decide +kernel
theorem dX10_thingSaid_21 : decode cX10_thingSaid 21 = .ok (.i2l, 1) := by decide +kernel
theorem dX10_thingSaid_22 : decode cX10_thingSaid 22 = .ok (.lmul, 1) := by decide +kernel
theorem dX10_thingSaid_23 : decode cX10_thingSaid 23 = .ok (.ladd, 1) := by decide +kernel
theorem dX10_thingSaid_24 : decode cX10_thingSaid 24 = .ok (.ldc2_w 44, 3) := by decide +kernel
theorem dX10_thingSaid_27 : decode cX10_thingSaid 27 = .ok (.iload_n 3, 1) := by decide +kernel
theorem dX10_thingSaid_28 : decode cX10_thingSaid 28 = .ok (.i2l, 1) := by decide +kernel
theorem dX10_thingSaid_29 : decode cX10_thingSaid 29 = .ok (.lmul, 1) := by decide +kernel
theorem dX10_thingSaid_30 : decode cX10_thingSaid 30 = .ok (.ladd, 1) := by decide +kernel
theorem dX10_thingSaid_31 : decode cX10_thingSaid 31 = .ok (.lconst 1, 1) := by decide +kernel
theorem dX10_thingSaid_32 : decode cX10_thingSaid 32 = .ok (.ladd, 1) := by decide +kernel
theorem dX10_thingSaid_33 : decode cX10_thingSaid 33 = .ok (.lstore 5, 2) := by decide +kernel
theorem dX10_thingSaid_35 : decode cX10_thingSaid 35 = .ok (.lload 5, 2) := by decide +kernel
theorem dX10_thingSaid_37 : decode cX10_thingSaid 37 = .ok (.lload 5, 2) := by decide +kernel
theorem dX10_thingSaid_39 : decode cX10_thingSaid 39 = .ok (.lmul, 1) := by decide +kernel
theorem dX10_thingSaid_40 : decode cX10_thingSaid 40 = .ok (.ldc2_w 46, 3) := by decide +kernel
theorem dX10_thingSaid_43 : decode cX10_thingSaid 43 = .ok (.lrem, 1) := by decide +kernel
theorem dX10_thingSaid_44 : decode cX10_thingSaid 44 = .ok (.ldc2_w 48, 3) := by decide +kernel
theorem dX10_thingSaid_47 : decode cX10_thingSaid 47 = .ok (.ldiv, 1) := by decide +kernel
theorem dX10_thingSaid_48 : decode cX10_thingSaid 48 = .ok (.l2i, 1) := by decide +kernel
theorem dX10_thingSaid_49 : decode cX10_thingSaid 49 = .ok (.istore 7, 2) := by decide +kernel
theorem dX10_thingSaid_51 : decode cX10_thingSaid 51 = .ok (.iload 4, 2) := by decide +kernel
theorem dX10_thingSaid_53 : decode cX10_thingSaid 53 = .ok (.ifCond .eq 17, 3) := by decide +kernel
theorem dX10_thingSaid_56 : decode cX10_thingSaid 56 = .ok (.iload 7, 2) := by decide +kernel
theorem dX10_thingSaid_58 : decode cX10_thingSaid 58 = .ok (.bipush 10, 2) := by decide +kernel
theorem dX10_thingSaid_60 : decode cX10_thingSaid 60 = .ok (.irem, 1) := by decide +kernel
theorem dX10_thingSaid_61 : decode cX10_thingSaid 61 = .ok (.aload_n 0, 1) := by decide +kernel
theorem dX10_thingSaid_62 : decode cX10_thingSaid 62 = .ok (.getfield 15, 3) := by decide +kernel
theorem dX10_thingSaid_65 : decode cX10_thingSaid 65 = .ok (.iload_n 1, 1) := by decide +kernel
theorem dX10_thingSaid_66 : decode cX10_thingSaid 66 = .ok (.iaload, 1) := by decide +kernel
theorem dX10_thingSaid_67 : decode cX10_thingSaid 67 = .ok (.if_icmp .lt 6, 3) := by decide +kernel
theorem dX10_thingSaid_70 : decode cX10_thingSaid 70 = .ok (.bipush (-9), 2) := by decide +kernel
theorem dX10_thingSaid_72 : decode cX10_thingSaid 72 = .ok (.ireturn, 1) := by decide +kernel
theorem dX10_thingSaid_73 : decode cX10_thingSaid 73 = .ok (.aload_n 0, 1) := by decide +kernel
theorem dX10_thingSaid_74 : decode cX10_thingSaid 74 = .ok (.getfield 9, 3) := by decide +kernel
theorem dX10_thingSaid_77 : decode cX10_thingSaid 77 = .ok (.iload_n 1, 1) := by decide +kernel
theorem dX10_thingSaid_78 : decode cX10_thingSaid 78 = .ok (.iaload, 1) := by decide +kernel
theorem dX10_thingSaid_79 : decode cX10_thingSaid 79 = .ok (.iload 7, 2) := by decide +kernel
theorem dX10_thingSaid_81 : decode cX10_thingSaid 81 = .ok (.bipush 10, 2) := by decide +kernel
theorem dX10_thingSaid_83 : decode cX10_thingSaid 83 = .ok (.idiv, 1) := by decide +kernel
theorem dX10_thingSaid_84 : decode cX10_thingSaid 84 = .ok (.iload 4, 2) := by decide +kernel
theorem dX10_thingSaid_86 : decode cX10_thingSaid 86 = .ok (.irem, 1) := by decide +kernel
theorem dX10_thingSaid_87 : decode cX10_thingSaid 87 = .ok (.invokestatic 50, 3) := by decide +kernel
theorem dX10_thingSaid_90 : decode cX10_thingSaid 90 = .ok (.ireturn, 1) := by decide +kernel
theorem dX10_thingAt_0 : decode cX10_thingAt 0 = .ok (.iconst 0, 1) := by decide +kernel
theorem dX10_thingAt_1 : decode cX10_thingAt 1 = .ok (.istore_n 2, 1) := by decide +kernel
theorem dX10_thingAt_2 : decode cX10_thingAt 2 = .ok (.iconst 0, 1) := by decide +kernel
theorem dX10_thingAt_3 : decode cX10_thingAt 3 = .ok (.istore_n 3, 1) := by decide +kernel
theorem dX10_thingAt_4 : decode cX10_thingAt 4 = .ok (.iload_n 3, 1) := by decide +kernel
theorem dX10_thingAt_5 : decode cX10_thingAt 5 = .ok (.bipush 7, 2) := by decide +kernel
theorem dX10_thingAt_7 : decode cX10_thingAt 7 = .ok (.if_icmp .ge 27, 3) := by decide +kernel
theorem dX10_thingAt_10 : decode cX10_thingAt 10 = .ok (.iload_n 0, 1) := by decide +kernel
theorem dX10_thingAt_11 : decode cX10_thingAt 11 = .ok (.iload_n 3, 1) := by decide +kernel
theorem dX10_thingAt_12 : decode cX10_thingAt 12 = .ok (.ishr, 1) := by decide +kernel
theorem dX10_thingAt_13 : decode cX10_thingAt 13 = .ok (.iconst 1, 1) := by decide +kernel
theorem dX10_thingAt_14 : decode cX10_thingAt 14 = .ok (.iand, 1) := by decide +kernel
theorem dX10_thingAt_15 : decode cX10_thingAt 15 = .ok (.ifCond .eq 13, 3) := by decide +kernel
theorem dX10_thingAt_18 : decode cX10_thingAt 18 = .ok (.iload_n 2, 1) := by decide +kernel
theorem dX10_thingAt_19 : decode cX10_thingAt 19 = .ok (.iload_n 1, 1) := by decide +kernel
theorem dX10_thingAt_20 : decode cX10_thingAt 20 = .ok (.if_icmp .ne 5, 3) := by decide +kernel
theorem dX10_thingAt_23 : decode cX10_thingAt 23 = .ok (.iload_n 3, 1) := by decide +kernel
theorem dX10_thingAt_24 : decode cX10_thingAt 24 = .ok (.ireturn, 1) := by decide +kernel
theorem dX10_thingAt_25 : decode cX10_thingAt 25 = .ok (.iinc 2 1, 3) := by decide +kernel
theorem dX10_thingAt_28 : decode cX10_thingAt 28 = .ok (.iinc 3 1, 3) := by decide +kernel
theorem dX10_thingAt_31 : decode cX10_thingAt 31 = .ok (.goto (-27), 3) := by decide +kernel
theorem dX10_thingAt_34 : decode cX10_thingAt 34 = .ok (.bipush (-9), 2) := by decide +kernel
theorem dX10_thingAt_36 : decode cX10_thingAt 36 = .ok (.ireturn, 1) := by decide +kernel
set_option maxRecDepth 20000 in
theorem ggX11_init_X7_init : GoodIn wsX11_init wsX7_init := goodIn_r _ [50, 51, 2, 3, 39, 52, 110, 111, 112, 113, 114, 115] (by decide +kernel) (by decide +kernel)
set_option maxRecDepth 20000 in
theorem gX11_init_X7_init_n11 : GoodIn wsX11_init (wsX7_init) := ggX11_init_X7_init
set_option maxRecDepth 20000 in
theorem ggX11_init_X8_init : GoodIn wsX11_init wsX8_init := goodIn_r _ [54, 55, 2, 3, 39, 56, 129] (by decide +kernel) (by decide +kernel)
set_option maxRecDepth 20000 in
theorem gX11_init_X8_init_n18 : GoodIn wsX11_init (wsX8_init) := ggX11_init_X8_init
set_option maxRecDepth 20000 in
theorem ggX11_init_X9_init : GoodIn wsX11_init wsX9_init := goodIn_r _ [58, 59, 2, 3, 39, 60, 61, 62, 63, 130, 131, 132, 133, 134] (by decide +kernel) (by decide +kernel)
set_option maxRecDepth 20000 in
theorem gX11_init_X9_init_n25 : GoodIn wsX11_init (wsX9_init) := ggX11_init_X9_init
set_option maxRecDepth 20000 in
theorem ggX11_init_X0_init : GoodIn wsX11_init wsX0_init := goodIn_r _ [65, 66, 2, 3, 39, 67, 68, 135, 136] (by decide +kernel) (by decide +kernel)
set_option maxRecDepth 20000 in
theorem gX11_init_X0_init_n32 : GoodIn wsX11_init (wsX0_init) := ggX11_init_X0_init
set_option maxRecDepth 20000 in
theorem ggX11_init_X6_init : GoodIn wsX11_init wsX6_init := goodIn_r _ [70, 71, 2, 3] (by decide +kernel) (by decide +kernel)
set_option maxRecDepth 20000 in
theorem gX11_init_X6_init_n39 : GoodIn wsX11_init (wsX6_init) := ggX11_init_X6_init
set_option maxRecDepth 20000 in
theorem ggX11_init_X3_init : GoodIn wsX11_init wsX3_init := goodIn_r _ [73, 69, 22, 70, 71, 2, 3] (by decide +kernel) (by decide +kernel)
set_option maxRecDepth 20000 in
theorem gX11_init_X3_init_n42 : GoodIn wsX11_init (wsX3_init) := ggX11_init_X3_init
set_option maxRecDepth 20000 in
theorem ggX11_init_X2_init : GoodIn wsX11_init wsX2_init := goodIn_r _ [75, 69, 22, 70, 71, 2, 3] (by decide +kernel) (by decide +kernel)
set_option maxRecDepth 20000 in
theorem gX11_init_X2_init_n45 : GoodIn wsX11_init (wsX2_init) := ggX11_init_X2_init
set_option maxRecDepth 20000 in
theorem ggX11_init_X4_init : GoodIn wsX11_init wsX4_init := goodIn_r _ [77, 72, 25, 73, 69, 22, 70, 71, 2, 3] (by decide +kernel) (by decide +kernel)
set_option maxRecDepth 20000 in
theorem gX11_init_X4_init_n48 : GoodIn wsX11_init (wsX4_init) := ggX11_init_X4_init
set_option maxRecDepth 20000 in
theorem ggX11_init_X5_init : GoodIn wsX11_init wsX5_init := goodIn_r _ [79, 74, 28, 75, 69, 22, 70, 71, 2, 3] (by decide +kernel) (by decide +kernel)
set_option maxRecDepth 20000 in
theorem gX11_init_X5_init_n51 : GoodIn wsX11_init (wsX5_init) := ggX11_init_X5_init
set_option maxRecDepth 20000 in
theorem ggX11_init_X1_init : GoodIn wsX11_init wsX1_init := goodIn_r _ [81, 69, 22, 70, 71, 2, 3] (by decide +kernel) (by decide +kernel)
set_option maxRecDepth 20000 in
theorem gX11_init_X1_init_n54 : GoodIn wsX11_init (wsX1_init) := ggX11_init_X1_init
set_option maxRecDepth 20000 in
theorem ggX11_init_X10_init : GoodIn wsX11_init wsX10_init := goodIn_r _ [83, 84, 2, 3, 39, 85, 86, 87, 88, 143, 144, 145, 146, 147] (by decide +kernel) (by decide +kernel)
set_option maxRecDepth 20000 in
theorem gX11_init_X10_init_n74 : GoodIn wsX11_init (wsX10_init) := ggX11_init_X10_init
set_option maxRecDepth 20000 in
theorem ggX11_init_X8_begin : GoodIn wsX11_init wsX8_begin := goodIn_r _ [92, 56, 93, 94, 95, 96, 97, 98, 99, 46, 100, 101, 102, 103, 104, 105, 88, 106, 107, 108, 10, 109, 129, 143, 144, 145, 146, 147] (by decide +kernel) (by decide +kernel)
set_option maxRecDepth 20000 in
theorem gX11_init_X8_begin : GoodIn wsX11_init (wsV RX11 82 RX8 yX8_begin wsX8_begin) := goodIn_app (goodIn_of _ (by decide +kernel)) ggX11_init_X8_begin
theorem dX11_init_0 : decode cX11_init 0 = .ok (.aload_n 0, 1) := by decide +kernel
theorem dX11_init_1 : decode cX11_init 1 = .ok (.invokespecial 3, 3) := by decide +kernel
theorem dX11_init_4 : decode cX11_init 4 = .ok (.aload_n 0, 1) := by decide +kernel
theorem dX11_init_5 : decode cX11_init 5 = .ok (.new 9, 3) := by decide +kernel
theorem dX11_init_8 : decode cX11_init 8 = .ok (.dup, 1) := by decide +kernel
theorem dX11_init_9 : decode cX11_init 9 = .ok (.invokespecial 11, 3) := by decide +kernel
theorem dX11_init_12 : decode cX11_init 12 = .ok (.putfield 12, 3) := by decide +kernel
theorem dX11_init_15 : decode cX11_init 15 = .ok (.aload_n 0, 1) := by decide +kernel
theorem dX11_init_16 : decode cX11_init 16 = .ok (.new 16, 3) := by decide +kernel
theorem dX11_init_19 : decode cX11_init 19 = .ok (.dup, 1) := by decide +kernel
theorem dX11_init_20 : decode cX11_init 20 = .ok (.invokespecial 18, 3) := by decide +kernel
theorem dX11_init_23 : decode cX11_init 23 = .ok (.putfield 19, 3) := by decide +kernel
theorem dX11_init_26 : decode cX11_init 26 = .ok (.aload_n 0, 1) := by decide +kernel
theorem dX11_init_27 : decode cX11_init 27 = .ok (.new 23, 3) := by decide +kernel
theorem dX11_init_30 : decode cX11_init 30 = .ok (.dup, 1) := by decide +kernel
theorem dX11_init_31 : decode cX11_init 31 = .ok (.invokespecial 25, 3) := by decide +kernel
theorem dX11_init_34 : decode cX11_init 34 = .ok (.putfield 26, 3) := by decide +kernel
theorem dX11_init_37 : decode cX11_init 37 = .ok (.aload_n 0, 1) := by decide +kernel
theorem dX11_init_38 : decode cX11_init 38 = .ok (.new 30, 3) := by decide +kernel
theorem dX11_init_41 : decode cX11_init 41 = .ok (.dup, 1) := by decide +kernel
theorem dX11_init_42 : decode cX11_init 42 = .ok (.invokespecial 32, 3) := by decide +kernel
theorem dX11_init_45 : decode cX11_init 45 = .ok (.putfield 33, 3) := by decide +kernel
theorem dX11_init_48 : decode cX11_init 48 = .ok (.aload_n 0, 1) := by decide +kernel
theorem dX11_init_49 : decode cX11_init 49 = .ok (.bipush 6, 2) := by decide +kernel
theorem dX11_init_51 : decode cX11_init 51 = .ok (.anewarray 37, 3) := by decide +kernel
theorem dX11_init_54 : decode cX11_init 54 = .ok (.dup, 1) := by decide +kernel
theorem dX11_init_55 : decode cX11_init 55 = .ok (.iconst 0, 1) := by decide +kernel
theorem dX11_init_56 : decode cX11_init 56 = .ok (.new 37, 3) := by decide +kernel
theorem dX11_init_59 : decode cX11_init 59 = .ok (.dup, 1) := by decide +kernel
theorem dX11_init_60 : decode cX11_init 60 = .ok (.invokespecial 39, 3) := by decide +kernel
theorem dX11_init_63 : decode cX11_init 63 = .ok (.aastore, 1) := by decide +kernel
theorem dX11_init_64 : decode cX11_init 64 = .ok (.dup, 1) := by decide +kernel
theorem dX11_init_65 : decode cX11_init 65 = .ok (.iconst 1, 1) := by decide +kernel
theorem dX11_init_66 : decode cX11_init 66 = .ok (.new 40, 3) := by decide +kernel
theorem dX11_init_69 : decode cX11_init 69 = .ok (.dup, 1) := by decide +kernel
theorem dX11_init_70 : decode cX11_init 70 = .ok (.invokespecial 42, 3) := by decide +kernel
theorem dX11_init_73 : decode cX11_init 73 = .ok (.aastore, 1) := by decide +kernel
theorem dX11_init_74 : decode cX11_init 74 = .ok (.dup, 1) := by decide +kernel
theorem dX11_init_75 : decode cX11_init 75 = .ok (.iconst 2, 1) := by decide +kernel
theorem dX11_init_76 : decode cX11_init 76 = .ok (.new 43, 3) := by decide +kernel
theorem dX11_init_79 : decode cX11_init 79 = .ok (.dup, 1) := by decide +kernel
theorem dX11_init_80 : decode cX11_init 80 = .ok (.invokespecial 45, 3) := by decide +kernel
theorem dX11_init_83 : decode cX11_init 83 = .ok (.aastore, 1) := by decide +kernel
theorem dX11_init_84 : decode cX11_init 84 = .ok (.dup, 1) := by decide +kernel
theorem dX11_init_85 : decode cX11_init 85 = .ok (.iconst 3, 1) := by decide +kernel
theorem dX11_init_86 : decode cX11_init 86 = .ok (.new 46, 3) := by decide +kernel
theorem dX11_init_89 : decode cX11_init 89 = .ok (.dup, 1) := by decide +kernel
theorem dX11_init_90 : decode cX11_init 90 = .ok (.invokespecial 48, 3) := by decide +kernel
theorem dX11_init_93 : decode cX11_init 93 = .ok (.aastore, 1) := by decide +kernel
theorem dX11_init_94 : decode cX11_init 94 = .ok (.dup, 1) := by decide +kernel
theorem dX11_init_95 : decode cX11_init 95 = .ok (.iconst 4, 1) := by decide +kernel
theorem dX11_init_96 : decode cX11_init 96 = .ok (.new 49, 3) := by decide +kernel
theorem dX11_init_99 : decode cX11_init 99 = .ok (.dup, 1) := by decide +kernel
theorem dX11_init_100 : decode cX11_init 100 = .ok (.invokespecial 51, 3) := by decide +kernel
theorem dX11_init_103 : decode cX11_init 103 = .ok (.aastore, 1) := by decide +kernel
theorem dX11_init_104 : decode cX11_init 104 = .ok (.dup, 1) := by decide +kernel
theorem dX11_init_105 : decode cX11_init 105 = .ok (.iconst 5, 1) := by decide +kernel
theorem dX11_init_106 : decode cX11_init 106 = .ok (.new 52, 3) := by decide +kernel
theorem dX11_init_109 : decode cX11_init 109 = .ok (.dup, 1) := by decide +kernel
theorem dX11_init_110 : decode cX11_init 110 = .ok (.invokespecial 54, 3) := by decide +kernel
theorem dX11_init_113 : decode cX11_init 113 = .ok (.aastore, 1) := by decide +kernel
theorem dX11_init_114 : decode cX11_init 114 = .ok (.putfield 55, 3) := by decide +kernel
theorem dX11_init_117 : decode cX11_init 117 = .ok (.aload_n 0, 1) := by decide +kernel
theorem dX11_init_118 : decode cX11_init 118 = .ok (.iconst 5, 1) := by decide +kernel
theorem dX11_init_119 : decode cX11_init 119 = .ok (.newarray .int, 2) := by decide +kernel
theorem dX11_init_121 : decode cX11_init 121 = .ok (.putfield 59, 3) := by decide +kernel
theorem dX11_init_124 : decode cX11_init 124 = .ok (.aload_n 0, 1) := by decide +kernel
theorem dX11_init_125 : decode cX11_init 125 = .ok (.iconst 5, 1) := by decide +kernel
theorem dX11_init_126 : decode cX11_init 126 = .ok (.newarray .int, 2) := by decide +kernel
theorem dX11_init_128 : decode cX11_init 128 = .ok (.putfield 63, 3) := by decide +kernel
theorem dX11_init_131 : decode cX11_init 131 = .ok (.aload_n 0, 1) := by decide +kernel
theorem dX11_init_132 : decode cX11_init 132 = .ok (.iconst 5, 1) := by decide +kernel
theorem dX11_init_133 : decode cX11_init 133 = .ok (.newarray .int, 2) := by decide +kernel
theorem dX11_init_135 : decode cX11_init 135 = .ok (.putfield 66, 3) := by decide +kernel
theorem dX11_init_138 : decode cX11_init 138 = .ok (.aload_n 0, 1) := by decide +kernel
theorem dX11_init_139 : decode cX11_init 139 = .ok (.bipush 6, 2) := by decide +kernel
theorem dX11_init_141 : decode cX11_init 141 = .ok (.newarray .int, 2) := by decide +kernel
theorem dX11_init_143 : decode cX11_init 143 = .ok (.putfield 69, 3) := by decide +kernel
theorem dX11_init_146 : decode cX11_init 146 = .ok (.aload_n 0, 1) := by decide +kernel
theorem dX11_init_147 : decode cX11_init 147 = .ok (.new 72, 3) := by decide +kernel
theorem dX11_init_150 : decode cX11_init 150 = .ok (.dup, 1) := by decide +kernel
theorem dX11_init_151 : decode cX11_init 151 = .ok (.invokespecial 74, 3) := by decide +kernel
theorem dX11_init_154 : decode cX11_init 154 = .ok (.putfield 75, 3) := by decide +kernel
theorem dX11_init_157 : decode cX11_init 157 = .ok (.aload_n 0, 1) := by decide +kernel
theorem dX11_init_158 : decode cX11_init 158 = .ok (.new 72, 3) := by decide +kernel
theorem dX11_init_161 : decode cX11_init 161 = .ok (.dup, 1) := by decide +kernel
theorem dX11_init_162 : decode cX11_init 162 = .ok (.invokespecial 74, 3) := by decide +kernel
theorem dX11_init_165 : decode cX11_init 165 = .ok (.putfield 79, 3) := by decide +kernel
theorem dX11_init_168 : decode cX11_init 168 = .ok (.aload_n 0, 1) := by decide +kernel
theorem dX11_init_169 : decode cX11_init 169 = .ok (.getfield 19, 3) := by decide +kernel
theorem dX11_init_172 : decode cX11_init 172 = .ok (.aload_n 0, 1) := by decide +kernel
theorem dX11_init_173 : decode cX11_init 173 = .ok (.getfield 75, 3) := by decide +kernel
theorem dX11_init_176 : decode cX11_init 176 = .ok (.invokevirtual 82, 3) := by decide +kernel
theorem dX11_init_179 : decode cX11_init 179 = .ok (.return_, 1) := by decide +kernel
set_option maxRecDepth 20000 in
theorem ggX11_type_X7_append : GoodIn wsX11_type wsX7_append := goodIn_r _ [7, 8, 9, 23, 24, 25, 26, 27, 28] (by decide +kernel) (by decide +kernel)
set_option maxRecDepth 20000 in
theorem gX11_type_X7_append : GoodIn wsX11_type (wsV RX11 86 RX7 yX7_append wsX7_append) := goodIn_app (goodIn_of _ (by decide +kernel)) ggX11_type_X7_append
theorem dX11_type_0 : decode cX11_type 0 = .ok (.iload_n 1, 1) := by decide +kernel
theorem dX11_type_1 : decode cX11_type 1 = .ok (.ifCond .lt 10, 3) := by decide +kernel
theorem dX11_type_4 : decode cX11_type 4 = .ok (.iload_n 1, 1) := by decide +kernel
theorem dX11_type_5 : decode cX11_type 5 = .ok (.sipush 255, 3) := by decide +kernel
theorem dX11_type_8 : decode cX11_type 8 = .ok (.if_icmp .le 5, 3) := by decide +kernel
theorem dX11_type_11 : decode cX11_type 11 = .ok (.iconst (-1), 1) := by decide +kernel
theorem dX11_type_12 : decode cX11_type 12 = .ok (.ireturn, 1) := by decide +kernel
theorem dX11_type_13 : decode cX11_type 13 = .ok (.aload_n 0, 1) := by decide +kernel
theorem dX11_type_14 : decode cX11_type 14 = .ok (.getfield 12, 3) := by decide +kernel
theorem dX11_type_17 : decode cX11_type 17 = .ok (.iload_n 1, 1) := by decide +kernel
theorem dX11_type_18 : decode cX11_type 18 = .ok (.invokevirtual 86, 3) := by decide +kernel
theorem dX11_type_21 : decode cX11_type 21 = .ok (.ifCond .eq 13, 3) := by decide +kernel
theorem dX11_type_24 : decode cX11_type 24 = .ok (.aload_n 0, 1) := by decide +kernel
theorem dX11_type_25 : decode cX11_type 25 = .ok (.getfield 12, 3) := by decide +kernel
theorem dX11_type_28 : decode cX11_type 28 = .ok (.getfield 90, 3) := by decide +kernel
theorem dX11_type_31 : decode cX11_type 31 = .ok (.goto 5, 3) := by decide +kernel
theorem dX11_type_34 : decode cX11_type 34 = .ok (.bipush (-3), 2) := by decide +kernel
theorem dX11_type_36 : decode cX11_type 36 = .ok (.ireturn, 1) := by decide +kernel
set_option maxRecDepth 20000 in
theorem ggX11_clear_X7_empty : GoodIn wsX11_clear wsX7_empty := goodIn_r _ [6, 7, 21, 22, 23, 24, 25, 26] (by decide +kernel) (by decide +kernel)
set_option maxRecDepth 20000 in
theorem gX11_clear_X7_empty : GoodIn wsX11_clear (wsV RX11 94 RX7 yX7_empty wsX7_empty) := goodIn_app (goodIn_of _ (by decide +kernel)) ggX11_clear_X7_empty
theorem dX11_clear_0 : decode cX11_clear 0 = .ok (.aload_n 0, 1) := by decide +kernel
theorem dX11_clear_1 : decode cX11_clear 1 = .ok (.getfield 12, 3) := by decide +kernel
theorem dX11_clear_4 : decode cX11_clear 4 = .ok (.invokevirtual 94, 3) := by decide +kernel
theorem dX11_clear_7 : decode cX11_clear 7 = .ok (.ireturn, 1) := by decide +kernel
set_option maxRecDepth 20000 in
theorem ggX11_court_X7_read : GoodIn wsX11_court wsX7_read := goodIn_r _ [11, 12, 13, 14, 15, 16, 17, 18, 19, 20, 21, 22, 23, 24, 25, 26, 27, 28, 29, 10, 30, 31, 32, 33, 34, 35, 36, 37, 38, 39, 40, 41, 42, 43, 44, 45, 46, 47, 48, 49, 50, 51, 52, 53, 54, 55, 56, 57, 58, 59, 60, 61, 62, 63, 64, 65, 66, 67, 68, 69, 70, 71, 72, 73, 74, 75, 76, 77, 78, 79, 123, 124, 125, 126, 127, 128, 129, 130, 131, 132, 133] (by decide +kernel) (by decide +kernel)
set_option maxRecDepth 20000 in
theorem gX11_court_X7_read : GoodIn wsX11_court (wsV RX11 98 RX7 yX7_read wsX7_read) := goodIn_app (goodIn_of _ (by decide +kernel)) ggX11_court_X7_read
set_option maxRecDepth 20000 in
theorem ggX11_court_X7_empty : GoodIn wsX11_court wsX7_empty := goodIn_r _ [83, 31, 123, 124, 125, 126, 127, 128] (by decide +kernel) (by decide +kernel)
set_option maxRecDepth 20000 in
theorem gX11_court_X7_empty : GoodIn wsX11_court (wsV RX11 94 RX7 yX7_empty wsX7_empty) := goodIn_app (goodIn_of _ (by decide +kernel)) ggX11_court_X7_empty
set_option maxRecDepth 20000 in
theorem ggX11_court_X8_begin : GoodIn wsX11_court wsX8_begin := goodIn_r _ [88, 89, 90, 24, 25, 26, 91, 92, 93, 18, 94, 21, 95, 96, 97, 98, 22, 99, 100, 101, 87, 102, 134, 129, 130, 131, 132, 133] (by decide +kernel) (by decide +kernel)
set_option maxRecDepth 20000 in
theorem gX11_court_X8_begin : GoodIn wsX11_court (wsV RX11 82 RX8 yX8_begin wsX8_begin) := goodIn_app (goodIn_of _ (by decide +kernel)) ggX11_court_X8_begin
set_option maxRecDepth 20000 in
theorem ggX11_court_X9_empty : GoodIn wsX11_court wsX9_empty := goodIn_r _ [107, 108, 109, 135, 136, 137, 138, 139] (by decide +kernel) (by decide +kernel)
set_option maxRecDepth 20000 in
theorem gX11_court_X9_empty : GoodIn wsX11_court (wsV RX11 102 RX9 yX9_empty wsX9_empty) := goodIn_app (goodIn_of _ (by decide +kernel)) ggX11_court_X9_empty
theorem dX11_court_0 : decode cX11_court 0 = .ok (.aload_n 0, 1) := by decide +kernel
theorem dX11_court_1 : decode cX11_court 1 = .ok (.getfield 12, 3) := by decide +kernel
theorem dX11_court_4 : decode cX11_court 4 = .ok (.aload_n 0, 1) := by decide +kernel
theorem dX11_court_5 : decode cX11_court 5 = .ok (.getfield 79, 3) := by decide +kernel
theorem dX11_court_8 : decode cX11_court 8 = .ok (.invokevirtual 98, 3) := by decide +kernel
theorem dX11_court_11 : decode cX11_court 11 = .ok (.istore_n 1, 1) := by decide +kernel
theorem dX11_court_12 : decode cX11_court 12 = .ok (.iload_n 1, 1) := by decide +kernel
theorem dX11_court_13 : decode cX11_court 13 = .ok (.ifCond .ge 5, 3) := by decide +kernel
theorem dX11_court_16 : decode cX11_court 16 = .ok (.iload_n 1, 1) := by decide +kernel
theorem dX11_court_17 : decode cX11_court 17 = .ok (.ireturn, 1) := by decide +kernel
theorem dX11_court_18 : decode cX11_court 18 = .ok (.aload_n 0, 1) := by decide +kernel
theorem dX11_court_19 : decode cX11_court 19 = .ok (.getfield 79, 3) := by decide +kernel
theorem dX11_court_22 : decode cX11_court 22 = .ok (.astore_n 2, 1) := by decide +kernel
theorem dX11_court_23 : decode cX11_court 23 = .ok (.aload_n 0, 1) := by decide +kernel
theorem dX11_court_24 : decode cX11_court 24 = .ok (.aload_n 0, 1) := by decide +kernel
theorem dX11_court_25 : decode cX11_court 25 = .ok (.getfield 75, 3) := by decide +kernel
theorem dX11_court_28 : decode cX11_court 28 = .ok (.putfield 79, 3) := by decide +kernel
theorem dX11_court_31 : decode cX11_court 31 = .ok (.aload_n 0, 1) := by decide +kernel
theorem dX11_court_32 : decode cX11_court 32 = .ok (.aload_n 2, 1) := by decide +kernel
theorem dX11_court_33 : decode cX11_court 33 = .ok (.putfield 75, 3) := by decide +kernel
theorem dX11_court_36 : decode cX11_court 36 = .ok (.aload_n 0, 1) := by decide +kernel
theorem dX11_court_37 : decode cX11_court 37 = .ok (.getfield 12, 3) := by decide +kernel
theorem dX11_court_40 : decode cX11_court 40 = .ok (.invokevirtual 94, 3) := by decide +kernel
theorem dX11_court_43 : decode cX11_court 43 = .ok (.pop, 1) := by decide +kernel
theorem dX11_court_44 : decode cX11_court 44 = .ok (.aload_n 0, 1) := by decide +kernel
theorem dX11_court_45 : decode cX11_court 45 = .ok (.getfield 19, 3) := by decide +kernel
theorem dX11_court_48 : decode cX11_court 48 = .ok (.aload_n 0, 1) := by decide +kernel
theorem dX11_court_49 : decode cX11_court 49 = .ok (.getfield 75, 3) := by decide +kernel
theorem dX11_court_52 : decode cX11_court 52 = .ok (.invokevirtual 82, 3) := by decide +kernel
theorem dX11_court_55 : decode cX11_court 55 = .ok (.aload_n 0, 1) := by decide +kernel
theorem dX11_court_56 : decode cX11_court 56 = .ok (.getfield 26, 3) := by decide +kernel
theorem dX11_court_59 : decode cX11_court 59 = .ok (.invokevirtual 102, 3) := by decide +kernel
theorem dX11_court_62 : decode cX11_court 62 = .ok (.aload_n 0, 1) := by decide +kernel
theorem dX11_court_63 : decode cX11_court 63 = .ok (.iconst 0, 1) := by decide +kernel
theorem dX11_court_64 : decode cX11_court 64 = .ok (.putfield 104, 3) := by decide +kernel
theorem dX11_court_67 : decode cX11_court 67 = .ok (.iload_n 1, 1) := by decide +kernel
theorem dX11_court_68 : decode cX11_court 68 = .ok (.ireturn, 1) := by decide +kernel
set_option maxRecDepth 20000 in
theorem ggX11_person_X10_hasPerson : GoodIn wsX11_person wsX10_hasPerson := goodIn_r _ [9, 10, 46, 47, 48, 49, 50] (by decide +kernel) (by decide +kernel)
set_option maxRecDepth 20000 in
theorem gX11_person_X10_hasPerson : GoodIn wsX11_person (wsV RX11 107 RX10 yX10_hasPerson wsX10_hasPerson) := goodIn_app (goodIn_of _ (by decide +kernel)) ggX11_person_X10_hasPerson
set_option maxRecDepth 20000 in
theorem ggX11_person_X8_bedOf : GoodIn wsX11_person wsX8_bedOf := goodIn_r _ [15, 16, 51] (by decide +kernel) (by decide +kernel)
set_option maxRecDepth 20000 in
theorem gX11_person_X8_bedOf : GoodIn wsX11_person (wsV RX11 116 RX8 yX8_bedOf wsX8_bedOf) := goodIn_app (goodIn_of _ (by decide +kernel)) ggX11_person_X8_bedOf
set_option maxRecDepth 20000 in
theorem ggX11_person_X11_safePillows : GoodIn wsX11_person wsX11_safePillows := goodIn_r _ [21, 1, 22, 4, 2, 23, 24, 25, 14, 26, 27, 12, 13, 15, 16, 28, 29, 30, 8, 31, 10, 32, 33, 34, 35, 36, 37, 38, 39, 40, 41, 42, 43, 44, 45, 46, 47, 48, 49, 50, 51] (by decide +kernel) (by decide +kernel)
set_option maxRecDepth 20000 in
theorem gX11_person_X11_safePillows : GoodIn wsX11_person (wsV RX11 120 RX11 yX11_safePillows wsX11_safePillows) := goodIn_app (goodIn_of _ (by decide +kernel)) ggX11_person_X11_safePillows
theorem dX11_person_0 : decode cX11_person 0 = .ok (.aload_n 0, 1) := by decide +kernel
theorem dX11_person_1 : decode cX11_person 1 = .ok (.getfield 75, 3) := by decide +kernel
theorem dX11_person_4 : decode cX11_person 4 = .ok (.iload_n 1, 1) := by decide +kernel
theorem dX11_person_5 : decode cX11_person 5 = .ok (.invokevirtual 107, 3) := by decide +kernel
theorem dX11_person_8 : decode cX11_person 8 = .ok (.ifCond .ne 5, 3) := by decide +kernel
theorem dX11_person_11 : decode cX11_person 11 = .ok (.iconst (-1), 1) := by decide +kernel
theorem dX11_person_12 : decode cX11_person 12 = .ok (.ireturn, 1) := by decide +kernel
theorem dX11_person_13 : decode cX11_person 13 = .ok (.iload_n 2, 1) := by decide +kernel
theorem dX11_person_14 : decode cX11_person 14 = .ok (.tableswitch 65 0 3 #[30, 40, 50, 59], 30) := by decide +kernel
theorem dX11_person_44 : decode cX11_person 44 = .ok (.aload_n 0, 1) := by decide +kernel
theorem dX11_person_45 : decode cX11_person 45 = .ok (.getfield 75, 3) := by decide +kernel
theorem dX11_person_48 : decode cX11_person 48 = .ok (.getfield 110, 3) := by decide +kernel
theorem dX11_person_51 : decode cX11_person 51 = .ok (.iload_n 1, 1) := by decide +kernel
theorem dX11_person_52 : decode cX11_person 52 = .ok (.iaload, 1) := by decide +kernel
theorem dX11_person_53 : decode cX11_person 53 = .ok (.ireturn, 1) := by decide +kernel
theorem dX11_person_54 : decode cX11_person 54 = .ok (.aload_n 0, 1) := by decide +kernel
theorem dX11_person_55 : decode cX11_person 55 = .ok (.getfield 75, 3) := by decide +kernel
theorem dX11_person_58 : decode cX11_person 58 = .ok (.getfield 113, 3) := by decide +kernel
theorem dX11_person_61 : decode cX11_person 61 = .ok (.iload_n 1, 1) := by decide +kernel
theorem dX11_person_62 : decode cX11_person 62 = .ok (.iaload, 1) := by decide +kernel
theorem dX11_person_63 : decode cX11_person 63 = .ok (.ireturn, 1) := by decide +kernel
theorem dX11_person_64 : decode cX11_person 64 = .ok (.aload_n 0, 1) := by decide +kernel
theorem dX11_person_65 : decode cX11_person 65 = .ok (.getfield 19, 3) := by decide +kernel
theorem dX11_person_68 : decode cX11_person 68 = .ok (.iload_n 1, 1) := by decide +kernel
theorem dX11_person_69 : decode cX11_person 69 = .ok (.invokevirtual 116, 3) := by decide +kernel
theorem dX11_person_72 : decode cX11_person 72 = .ok (.ireturn, 1) := by decide +kernel
theorem dX11_person_73 : decode cX11_person 73 = .ok (.aload_n 0, 1) := by decide +kernel
theorem dX11_person_74 : decode cX11_person 74 = .ok (.iload_n 1, 1) := by decide +kernel
theorem dX11_person_75 : decode cX11_person 75 = .ok (.invokevirtual 120, 3) := by decide +kernel
theorem dX11_person_78 : decode cX11_person 78 = .ok (.ireturn, 1) := by decide +kernel
theorem dX11_person_79 : decode cX11_person 79 = .ok (.iconst (-1), 1) := by decide +kernel
theorem dX11_person_80 : decode cX11_person 80 = .ok (.ireturn, 1) := by decide +kernel
set_option maxRecDepth 20000 in
theorem ggX11_clashes_X11_isThing : GoodIn wsX11_clashes wsX11_isThing := goodIn_r _ [6] (by decide +kernel) (by decide +kernel)
set_option maxRecDepth 20000 in
theorem gX11_clashes_X11_isThing : GoodIn wsX11_clashes (va_wsS RX11 123 yX11_isThing wsX11_isThing) := goodIn_app (goodIn_of _ (by decide +kernel)) ggX11_clashes_X11_isThing
theorem dX11_clashes_0 : decode cX11_clashes 0 = .ok (.iload_n 1, 1) := by decide +kernel
theorem dX11_clashes_1 : decode cX11_clashes 1 = .ok (.invokestatic 123, 3) := by decide +kernel
theorem dX11_clashes_4 : decode cX11_clashes 4 = .ok (.ifCond .eq 15, 3) := by decide +kernel
theorem dX11_clashes_7 : decode cX11_clashes 7 = .ok (.aload_n 0, 1) := by decide +kernel
theorem dX11_clashes_8 : decode cX11_clashes 8 = .ok (.getfield 75, 3) := by decide +kernel
theorem dX11_clashes_11 : decode cX11_clashes 11 = .ok (.getfield 126, 3) := by decide +kernel
theorem dX11_clashes_14 : decode cX11_clashes 14 = .ok (.iload_n 1, 1) := by decide +kernel
theorem dX11_clashes_15 : decode cX11_clashes 15 = .ok (.iaload, 1) := by decide +kernel
theorem dX11_clashes_16 : decode cX11_clashes 16 = .ok (.goto 4, 3) := by decide +kernel
theorem dX11_clashes_19 : decode cX11_clashes 19 = .ok (.iconst (-1), 1) := by decide +kernel
theorem dX11_clashes_20 : decode cX11_clashes 20 = .ok (.ireturn, 1) := by decide +kernel
set_option maxRecDepth 20000 in
theorem ggX11_pillow_X10_hasPillow : GoodIn wsX11_pillow wsX10_hasPillow := goodIn_r _ [7, 8, 44, 45, 46, 47, 48] (by decide +kernel) (by decide +kernel)
set_option maxRecDepth 20000 in
theorem gX11_pillow_X10_hasPillow : GoodIn wsX11_pillow (wsV RX11 129 RX10 yX10_hasPillow wsX10_hasPillow) := goodIn_app (goodIn_of _ (by decide +kernel)) ggX11_pillow_X10_hasPillow
set_option maxRecDepth 20000 in
theorem ggX11_pillow_X8_thingsOn : GoodIn wsX11_pillow wsX8_thingsOn := goodIn_r _ [13, 14, 15, 16, 12, 17, 18, 49] (by decide +kernel) (by decide +kernel)
set_option maxRecDepth 20000 in
theorem gX11_pillow_X8_thingsOn : GoodIn wsX11_pillow (wsV RX11 132 RX8 yX8_thingsOn wsX8_thingsOn) := goodIn_app (goodIn_of _ (by decide +kernel)) ggX11_pillow_X8_thingsOn
set_option maxRecDepth 20000 in
theorem ggX11_pillow_X8_sleepersOn : GoodIn wsX11_pillow wsX8_sleepersOn := goodIn_r _ [22, 23, 24, 25, 12, 26, 18, 49] (by decide +kernel) (by decide +kernel)
set_option maxRecDepth 20000 in
theorem gX11_pillow_X8_sleepersOn : GoodIn wsX11_pillow (wsV RX11 135 RX8 yX8_sleepersOn wsX8_sleepersOn) := goodIn_app (goodIn_of _ (by decide +kernel)) ggX11_pillow_X8_sleepersOn
set_option maxRecDepth 20000 in
theorem ggX11_pillow_X8_isExamined : GoodIn wsX11_pillow wsX8_isExamined := goodIn_r _ [30, 18, 49] (by decide +kernel) (by decide +kernel)
set_option maxRecDepth 20000 in
theorem gX11_pillow_X8_isExamined : GoodIn wsX11_pillow (wsV RX11 138 RX8 yX8_isExamined wsX8_isExamined) := goodIn_app (goodIn_of _ (by decide +kernel)) ggX11_pillow_X8_isExamined
theorem dX11_pillow_0 : decode cX11_pillow 0 = .ok (.aload_n 0, 1) := by decide +kernel
theorem dX11_pillow_1 : decode cX11_pillow 1 = .ok (.getfield 75, 3) := by decide +kernel
theorem dX11_pillow_4 : decode cX11_pillow 4 = .ok (.iload_n 1, 1) := by decide +kernel
theorem dX11_pillow_5 : decode cX11_pillow 5 = .ok (.invokevirtual 129, 3) := by decide +kernel
theorem dX11_pillow_8 : decode cX11_pillow 8 = .ok (.ifCond .ne 5, 3) := by decide +kernel
theorem dX11_pillow_11 : decode cX11_pillow 11 = .ok (.iconst (-1), 1) := by decide +kernel
theorem dX11_pillow_12 : decode cX11_pillow 12 = .ok (.ireturn, 1) := by decide +kernel
theorem dX11_pillow_13 : decode cX11_pillow 13 = .ok (.iload_n 2, 1) := by decide +kernel
theorem dX11_pillow_14 : decode cX11_pillow 14 = .ok (.tableswitch 61 0 2 #[26, 35, 44], 26) := by decide +kernel
theorem dX11_pillow_40 : decode cX11_pillow 40 = .ok (.aload_n 0, 1) := by decide +kernel
theorem dX11_pillow_41 : decode cX11_pillow 41 = .ok (.getfield 19, 3) := by decide +kernel
theorem dX11_pillow_44 : decode cX11_pillow 44 = .ok (.iload_n 1, 1) := by decide +kernel
theorem dX11_pillow_45 : decode cX11_pillow 45 = .ok (.invokevirtual 132, 3) := by decide +kernel
theorem dX11_pillow_48 : decode cX11_pillow 48 = .ok (.ireturn, 1) := by decide +kernel
theorem dX11_pillow_49 : decode cX11_pillow 49 = .ok (.aload_n 0, 1) := by decide +kernel
theorem dX11_pillow_50 : decode cX11_pillow 50 = .ok (.getfield 19, 3) := by decide +kernel
theorem dX11_pillow_53 : decode cX11_pillow 53 = .ok (.iload_n 1, 1) := by decide +kernel
theorem dX11_pillow_54 : decode cX11_pillow 54 = .ok (.invokevirtual 135, 3) := by decide +kernel
theorem dX11_pillow_57 : decode cX11_pillow 57 = .ok (.ireturn, 1) := by decide +kernel
theorem dX11_pillow_58 : decode cX11_pillow 58 = .ok (.aload_n 0, 1) := by decide +kernel
theorem dX11_pillow_59 : decode cX11_pillow 59 = .ok (.getfield 19, 3) := by decide +kernel
theorem dX11_pillow_62 : decode cX11_pillow 62 = .ok (.iload_n 1, 1) := by decide +kernel
theorem dX11_pillow_63 : decode cX11_pillow 63 = .ok (.invokevirtual 138, 3) := by decide +kernel
theorem dX11_pillow_66 : decode cX11_pillow 66 = .ok (.ifCond .eq 7, 3) := by decide +kernel
theorem dX11_pillow_69 : decode cX11_pillow 69 = .ok (.iconst 1, 1) := by decide +kernel
theorem dX11_pillow_70 : decode cX11_pillow 70 = .ok (.goto 4, 3) := by decide +kernel
theorem dX11_pillow_73 : decode cX11_pillow 73 = .ok (.iconst 0, 1) := by decide +kernel
theorem dX11_pillow_74 : decode cX11_pillow 74 = .ok (.ireturn, 1) := by decide +kernel
theorem dX11_pillow_75 : decode cX11_pillow 75 = .ok (.iconst (-1), 1) := by decide +kernel
theorem dX11_pillow_76 : decode cX11_pillow 76 = .ok (.ireturn, 1) := by decide +kernel
set_option maxRecDepth 20000 in
theorem ggX11_heard_X10_hasPillow : GoodIn wsX11_heard wsX10_hasPillow := goodIn_r _ [7, 8, 32, 33, 34, 35, 36] (by decide +kernel) (by decide +kernel)
set_option maxRecDepth 20000 in
theorem gX11_heard_X10_hasPillow : GoodIn wsX11_heard (wsV RX11 129 RX10 yX10_hasPillow wsX10_hasPillow) := goodIn_app (goodIn_of _ (by decide +kernel)) ggX11_heard_X10_hasPillow
set_option maxRecDepth 20000 in
theorem ggX11_heard_X11_isThing : GoodIn wsX11_heard wsX11_isThing := goodIn_r _ [12] (by decide +kernel) (by decide +kernel)
set_option maxRecDepth 20000 in
theorem gX11_heard_X11_isThing : GoodIn wsX11_heard (va_wsS RX11 123 yX11_isThing wsX11_isThing) := goodIn_app (goodIn_of _ (by decide +kernel)) ggX11_heard_X11_isThing
set_option maxRecDepth 20000 in
theorem ggX11_heard_X8_times : GoodIn wsX11_heard wsX8_times := goodIn_r _ [17, 18, 37] (by decide +kernel) (by decide +kernel)
set_option maxRecDepth 20000 in
theorem gX11_heard_X8_times : GoodIn wsX11_heard (wsV RX11 141 RX8 yX8_times wsX8_times) := goodIn_app (goodIn_of _ (by decide +kernel)) ggX11_heard_X8_times
theorem dX11_heard_0 : decode cX11_heard 0 = .ok (.aload_n 0, 1) := by decide +kernel
theorem dX11_heard_1 : decode cX11_heard 1 = .ok (.getfield 75, 3) := by decide +kernel
theorem dX11_heard_4 : decode cX11_heard 4 = .ok (.iload_n 1, 1) := by decide +kernel
theorem dX11_heard_5 : decode cX11_heard 5 = .ok (.invokevirtual 129, 3) := by decide +kernel
theorem dX11_heard_8 : decode cX11_heard 8 = .ok (.ifCond .eq 22, 3) := by decide +kernel
theorem dX11_heard_11 : decode cX11_heard 11 = .ok (.iload_n 2, 1) := by decide +kernel
theorem dX11_heard_12 : decode cX11_heard 12 = .ok (.invokestatic 123, 3) := by decide +kernel
theorem dX11_heard_15 : decode cX11_heard 15 = .ok (.ifCond .eq 15, 3) := by decide +kernel
theorem dX11_heard_18 : decode cX11_heard 18 = .ok (.aload_n 0, 1) := by decide +kernel
theorem dX11_heard_19 : decode cX11_heard 19 = .ok (.getfield 19, 3) := by decide +kernel
theorem dX11_heard_22 : decode cX11_heard 22 = .ok (.iload_n 1, 1) := by decide +kernel
theorem dX11_heard_23 : decode cX11_heard 23 = .ok (.iload_n 2, 1) := by decide +kernel
theorem dX11_heard_24 : decode cX11_heard 24 = .ok (.invokevirtual 141, 3) := by decide +kernel
theorem dX11_heard_27 : decode cX11_heard 27 = .ok (.goto 4, 3) := by decide +kernel
theorem dX11_heard_30 : decode cX11_heard 30 = .ok (.iconst (-1), 1) := by decide +kernel
theorem dX11_heard_31 : decode cX11_heard 31 = .ok (.ireturn, 1) := by decide +kernel
set_option maxRecDepth 20000 in
theorem ggX11_now_X8_nightNumber : GoodIn wsX11_now wsX8_nightNumber := goodIn_r _ [9, 10, 68] (by decide +kernel) (by decide +kernel)
set_option maxRecDepth 20000 in
theorem gX11_now_X8_nightNumber : GoodIn wsX11_now (wsV RX11 145 RX8 yX8_nightNumber wsX8_nightNumber) := goodIn_app (goodIn_of _ (by decide +kernel)) ggX11_now_X8_nightNumber
set_option maxRecDepth 20000 in
theorem ggX11_now_X8_knownThings : GoodIn wsX11_now wsX8_knownThings := goodIn_r _ [14, 10, 15, 16, 17, 8, 18, 19, 20, 21, 22, 23, 24, 25, 26, 68] (by decide +kernel) (by decide +kernel)
set_option maxRecDepth 20000 in
theorem gX11_now_X8_knownThings : GoodIn wsX11_now (wsV RX11 148 RX8 yX8_knownThings wsX8_knownThings) := goodIn_app (goodIn_of _ (by decide +kernel)) ggX11_now_X8_knownThings
set_option maxRecDepth 20000 in
theorem ggX11_now_X8_allThings : GoodIn wsX11_now wsX8_allThings := goodIn_r _ [30, 15, 16, 17, 8, 18, 19, 20, 21, 22, 23, 24, 25, 26, 10, 68] (by decide +kernel) (by decide +kernel)
set_option maxRecDepth 20000 in
theorem gX11_now_X8_allThings : GoodIn wsX11_now (wsV RX11 151 RX8 yX8_allThings wsX8_allThings) := goodIn_app (goodIn_of _ (by decide +kernel)) ggX11_now_X8_allThings
set_option maxRecDepth 20000 in
theorem ggX11_now_X10_clashesWithin : GoodIn wsX11_now wsX10_clashesWithin := goodIn_r _ [35, 36, 37, 38, 39, 40, 41, 42, 43, 69, 70, 71, 72, 73] (by decide +kernel) (by decide +kernel)
set_option maxRecDepth 20000 in
theorem gX11_now_X10_clashesWithin : GoodIn wsX11_now (wsV RX11 154 RX10 yX10_clashesWithin wsX10_clashesWithin) := goodIn_app (goodIn_of _ (by decide +kernel)) ggX11_now_X10_clashesWithin
set_option maxRecDepth 20000 in
theorem ggX11_now_X10_knownToOne : GoodIn wsX11_now wsX10_knownToOne := goodIn_r _ [47, 48, 49, 69, 70, 71, 72, 73] (by decide +kernel) (by decide +kernel)
set_option maxRecDepth 20000 in
theorem gX11_now_X10_knownToOne : GoodIn wsX11_now (wsV RX11 157 RX10 yX10_knownToOne wsX10_knownToOne) := goodIn_app (goodIn_of _ (by decide +kernel)) ggX11_now_X10_knownToOne
theorem dX11_now_0 : decode cX11_now 0 = .ok (.iload_n 1, 1) := by decide +kernel
theorem dX11_now_1 : decode cX11_now 1 = .ok (.tableswitch 94 0 5 #[39, 47, 55, 70, 78, 86], 39) := by decide +kernel
theorem dX11_now_40 : decode cX11_now 40 = .ok (.aload_n 0, 1) := by decide +kernel
theorem dX11_now_41 : decode cX11_now 41 = .ok (.getfield 19, 3) := by decide +kernel
theorem dX11_now_44 : decode cX11_now 44 = .ok (.invokevirtual 145, 3) := by decide +kernel
theorem dX11_now_47 : decode cX11_now 47 = .ok (.ireturn, 1) := by decide +kernel
theorem dX11_now_48 : decode cX11_now 48 = .ok (.aload_n 0, 1) := by decide +kernel
theorem dX11_now_49 : decode cX11_now 49 = .ok (.getfield 19, 3) := by decide +kernel
theorem dX11_now_52 : decode cX11_now 52 = .ok (.invokevirtual 148, 3) := by decide +kernel
theorem dX11_now_55 : decode cX11_now 55 = .ok (.ireturn, 1) := by decide +kernel
theorem dX11_now_56 : decode cX11_now 56 = .ok (.aload_n 0, 1) := by decide +kernel
theorem dX11_now_57 : decode cX11_now 57 = .ok (.getfield 75, 3) := by decide +kernel
theorem dX11_now_60 : decode cX11_now 60 = .ok (.aload_n 0, 1) := by decide +kernel
theorem dX11_now_61 : decode cX11_now 61 = .ok (.getfield 19, 3) := by decide +kernel
theorem dX11_now_64 : decode cX11_now 64 = .ok (.invokevirtual 151, 3) := by decide +kernel
theorem dX11_now_67 : decode cX11_now 67 = .ok (.invokevirtual 154, 3) := by decide +kernel
theorem dX11_now_70 : decode cX11_now 70 = .ok (.ireturn, 1) := by decide +kernel
theorem dX11_now_71 : decode cX11_now 71 = .ok (.aload_n 0, 1) := by decide +kernel
theorem dX11_now_72 : decode cX11_now 72 = .ok (.getfield 19, 3) := by decide +kernel
theorem dX11_now_75 : decode cX11_now 75 = .ok (.invokevirtual 151, 3) := by decide +kernel
theorem dX11_now_78 : decode cX11_now 78 = .ok (.ireturn, 1) := by decide +kernel
theorem dX11_now_79 : decode cX11_now 79 = .ok (.aload_n 0, 1) := by decide +kernel
theorem dX11_now_80 : decode cX11_now 80 = .ok (.getfield 75, 3) := by decide +kernel
theorem dX11_now_83 : decode cX11_now 83 = .ok (.invokevirtual 157, 3) := by decide +kernel
theorem dX11_now_86 : decode cX11_now 86 = .ok (.ireturn, 1) := by decide +kernel
theorem dX11_now_87 : decode cX11_now 87 = .ok (.aload_n 0, 1) := by decide +kernel
theorem dX11_now_88 : decode cX11_now 88 = .ok (.getfield 26, 3) := by decide +kernel
theorem dX11_now_91 : decode cX11_now 91 = .ok (.getfield 160, 3) := by decide +kernel
theorem dX11_now_94 : decode cX11_now 94 = .ok (.ireturn, 1) := by decide +kernel
theorem dX11_now_95 : decode cX11_now 95 = .ok (.iconst (-1), 1) := by decide +kernel
theorem dX11_now_96 : decode cX11_now 96 = .ok (.ireturn, 1) := by decide +kernel
set_option maxRecDepth 20000 in
theorem ggX11_lays_X10_hasPerson : GoodIn wsX11_lays wsX10_hasPerson := goodIn_r _ [8, 9, 55, 56, 57, 58, 59] (by decide +kernel) (by decide +kernel)
set_option maxRecDepth 20000 in
theorem gX11_lays_X10_hasPerson : GoodIn wsX11_lays (wsV RX11 107 RX10 yX10_hasPerson wsX10_hasPerson) := goodIn_app (goodIn_of _ (by decide +kernel)) ggX11_lays_X10_hasPerson
set_option maxRecDepth 20000 in
theorem ggX11_lays_X10_hasPillow : GoodIn wsX11_lays wsX10_hasPillow := goodIn_r _ [13, 14, 55, 56, 57, 58, 59] (by decide +kernel) (by decide +kernel)
set_option maxRecDepth 20000 in
theorem gX11_lays_X10_hasPillow : GoodIn wsX11_lays (wsV RX11 129 RX10 yX10_hasPillow wsX10_hasPillow) := goodIn_app (goodIn_of _ (by decide +kernel)) ggX11_lays_X10_hasPillow
set_option maxRecDepth 20000 in
theorem ggX11_lays_X8_bedOf : GoodIn wsX11_lays wsX8_bedOf := goodIn_r _ [19, 20, 60] (by decide +kernel) (by decide +kernel)
set_option maxRecDepth 20000 in
theorem gX11_lays_X8_bedOf : GoodIn wsX11_lays (wsV RX11 116 RX8 yX8_bedOf wsX8_bedOf) := goodIn_app (goodIn_of _ (by decide +kernel)) ggX11_lays_X8_bedOf
set_option maxRecDepth 20000 in
theorem ggX11_lays_X9_remember : GoodIn wsX11_lays wsX9_remember := goodIn_r _ [25, 26, 27, 28, 29, 30, 31, 32, 33, 34, 35, 36, 37, 60, 61, 62, 63, 64, 65] (by decide +kernel) (by decide +kernel)
set_option maxRecDepth 20000 in
theorem gX11_lays_X9_remember : GoodIn wsX11_lays (wsV RX11 163 RX9 yX9_remember wsX9_remember) := goodIn_app (goodIn_of _ (by decide +kernel)) ggX11_lays_X9_remember
set_option maxRecDepth 20000 in
theorem ggX11_lays_X8_lay : GoodIn wsX11_lays wsX8_lay := goodIn_r _ [41, 20, 60] (by decide +kernel) (by decide +kernel)
set_option maxRecDepth 20000 in
theorem gX11_lays_X8_lay : GoodIn wsX11_lays (wsV RX11 167 RX8 yX8_lay wsX8_lay) := goodIn_app (goodIn_of _ (by decide +kernel)) ggX11_lays_X8_lay
theorem dX11_lays_0 : decode cX11_lays 0 = .ok (.aload_n 0, 1) := by decide +kernel
theorem dX11_lays_1 : decode cX11_lays 1 = .ok (.getfield 75, 3) := by decide +kernel
theorem dX11_lays_4 : decode cX11_lays 4 = .ok (.iload_n 1, 1) := by decide +kernel
theorem dX11_lays_5 : decode cX11_lays 5 = .ok (.invokevirtual 107, 3) := by decide +kernel
theorem dX11_lays_8 : decode cX11_lays 8 = .ok (.ifCond .eq 19, 3) := by decide +kernel
theorem dX11_lays_11 : decode cX11_lays 11 = .ok (.iload_n 2, 1) := by decide +kernel
theorem dX11_lays_12 : decode cX11_lays 12 = .ok (.iconst (-1), 1) := by decide +kernel
theorem dX11_lays_13 : decode cX11_lays 13 = .ok (.if_icmp .eq 16, 3) := by decide +kernel
theorem dX11_lays_16 : decode cX11_lays 16 = .ok (.aload_n 0, 1) := by decide +kernel
theorem dX11_lays_17 : decode cX11_lays 17 = .ok (.getfield 75, 3) := by decide +kernel
theorem dX11_lays_20 : decode cX11_lays 20 = .ok (.iload_n 2, 1) := by decide +kernel
theorem dX11_lays_21 : decode cX11_lays 21 = .ok (.invokevirtual 129, 3) := by decide +kernel
theorem dX11_lays_24 : decode cX11_lays 24 = .ok (.ifCond .ne 5, 3) := by decide +kernel
theorem dX11_lays_27 : decode cX11_lays 27 = .ok (.iconst (-1), 1) := by decide +kernel
theorem dX11_lays_28 : decode cX11_lays 28 = .ok (.ireturn, 1) := by decide +kernel
theorem dX11_lays_29 : decode cX11_lays 29 = .ok (.aload_n 0, 1) := by decide +kernel
theorem dX11_lays_30 : decode cX11_lays 30 = .ok (.getfield 19, 3) := by decide +kernel
theorem dX11_lays_33 : decode cX11_lays 33 = .ok (.iload_n 1, 1) := by decide +kernel
theorem dX11_lays_34 : decode cX11_lays 34 = .ok (.invokevirtual 116, 3) := by decide +kernel
theorem dX11_lays_37 : decode cX11_lays 37 = .ok (.istore_n 3, 1) := by decide +kernel
theorem dX11_lays_38 : decode cX11_lays 38 = .ok (.aload_n 0, 1) := by decide +kernel
theorem dX11_lays_39 : decode cX11_lays 39 = .ok (.getfield 26, 3) := by decide +kernel
theorem dX11_lays_42 : decode cX11_lays 42 = .ok (.aload_n 0, 1) := by decide +kernel
theorem dX11_lays_43 : decode cX11_lays 43 = .ok (.getfield 19, 3) := by decide +kernel
theorem dX11_lays_46 : decode cX11_lays 46 = .ok (.invokevirtual 163, 3) := by decide +kernel
theorem dX11_lays_49 : decode cX11_lays 49 = .ok (.aload_n 0, 1) := by decide +kernel
theorem dX11_lays_50 : decode cX11_lays 50 = .ok (.getfield 19, 3) := by decide +kernel
theorem dX11_lays_53 : decode cX11_lays 53 = .ok (.iload_n 1, 1) := by decide +kernel
theorem dX11_lays_54 : decode cX11_lays 54 = .ok (.iload_n 2, 1) := by decide +kernel
theorem dX11_lays_55 : decode cX11_lays 55 = .ok (.iconst (-1), 1) := by decide +kernel
theorem dX11_lays_56 : decode cX11_lays 56 = .ok (.if_icmp .ne 8, 3) := by decide +kernel
theorem dX11_lays_59 : decode cX11_lays 59 = .ok (.bipush (-9), 2) := by decide +kernel
theorem dX11_lays_61 : decode cX11_lays 61 = .ok (.goto 4, 3) := by decide +kernel
theorem dX11_lays_64 : decode cX11_lays 64 = .ok (.iload_n 2, 1) := by decide +kernel
theorem dX11_lays_65 : decode cX11_lays 65 = .ok (.invokevirtual 167, 3) := by decide +kernel
theorem dX11_lays_68 : decode cX11_lays 68 = .ok (.iload_n 3, 1) := by decide +kernel
theorem dX11_lays_69 : decode cX11_lays 69 = .ok (.ireturn, 1) := by decide +kernel
set_option maxRecDepth 20000 in
theorem ggX11_night_X11_isDraw : GoodIn wsX11_night wsX11_isDraw := goodIn_r _ [7] (by decide +kernel) (by decide +kernel)
set_option maxRecDepth 20000 in
theorem gX11_night_X11_isDraw : GoodIn wsX11_night (va_wsS RX11 171 yX11_isDraw wsX11_isDraw) := goodIn_app (goodIn_of _ (by decide +kernel)) ggX11_night_X11_isDraw
set_option maxRecDepth 20000 in
theorem ggX11_night_X8_nightNumber : GoodIn wsX11_night wsX8_nightNumber := goodIn_r _ [12, 13, 89] (by decide +kernel) (by decide +kernel)
set_option maxRecDepth 20000 in
theorem gX11_night_X8_nightNumber : GoodIn wsX11_night (wsV RX11 145 RX8 yX8_nightNumber wsX8_nightNumber) := goodIn_app (goodIn_of _ (by decide +kernel)) ggX11_night_X8_nightNumber
set_option maxRecDepth 20000 in
theorem ggX11_night_X9_remember : GoodIn wsX11_night wsX9_remember := goodIn_r _ [18, 19, 20, 21, 22, 23, 24, 25, 26, 27, 28, 29, 30, 89, 90, 91, 92, 93, 94] (by decide +kernel) (by decide +kernel)
set_option maxRecDepth 20000 in
theorem gX11_night_X9_remember : GoodIn wsX11_night (wsV RX11 163 RX9 yX9_remember wsX9_remember) := goodIn_app (goodIn_of _ (by decide +kernel)) ggX11_night_X9_remember
set_option maxRecDepth 20000 in
theorem ggX11_night_X8_sleep : GoodIn wsX11_night wsX8_sleep := goodIn_r _ [34, 35, 13, 36, 9, 10, 11, 12, 37, 38, 39, 40, 41, 42, 43, 44, 45, 46, 47, 48, 49, 50, 51, 52, 53, 54, 55, 56, 57, 58, 59, 60, 61, 62, 63, 64, 65, 66, 67, 68, 69, 70, 71, 72, 73, 74, 75, 28, 29, 30, 95, 96, 97, 98, 99, 89] (by decide +kernel) (by decide +kernel)
set_option maxRecDepth 20000 in
theorem gX11_night_X8_sleep : GoodIn wsX11_night (wsV RX11 174 RX8 yX8_sleep wsX8_sleep) := goodIn_app (goodIn_of _ (by decide +kernel)) ggX11_night_X8_sleep
theorem dX11_night_0 : decode cX11_night 0 = .ok (.iload_n 1, 1) := by decide +kernel
theorem dX11_night_1 : decode cX11_night 1 = .ok (.invokestatic 171, 3) := by decide +kernel
theorem dX11_night_4 : decode cX11_night 4 = .ok (.ifCond .ne 5, 3) := by decide +kernel
theorem dX11_night_7 : decode cX11_night 7 = .ok (.iconst (-1), 1) := by decide +kernel
theorem dX11_night_8 : decode cX11_night 8 = .ok (.ireturn, 1) := by decide +kernel
theorem dX11_night_9 : decode cX11_night 9 = .ok (.aload_n 0, 1) := by decide +kernel
theorem dX11_night_10 : decode cX11_night 10 = .ok (.getfield 19, 3) := by decide +kernel
theorem dX11_night_13 : decode cX11_night 13 = .ok (.invokevirtual 145, 3) := by decide +kernel
theorem dX11_night_16 : decode cX11_night 16 = .ok (.sipush 999, 3) := by decide +kernel
theorem dX11_night_19 : decode cX11_night 19 = .ok (.if_icmp .lt 6, 3) := by decide +kernel
theorem dX11_night_22 : decode cX11_night 22 = .ok (.bipush (-2), 2) := by decide +kernel
theorem dX11_night_24 : decode cX11_night 24 = .ok (.ireturn, 1) := by decide +kernel
theorem dX11_night_25 : decode cX11_night 25 = .ok (.aload_n 0, 1) := by decide +kernel
theorem dX11_night_26 : decode cX11_night 26 = .ok (.getfield 26, 3) := by decide +kernel
theorem dX11_night_29 : decode cX11_night 29 = .ok (.aload_n 0, 1) := by decide +kernel
theorem dX11_night_30 : decode cX11_night 30 = .ok (.getfield 19, 3) := by decide +kernel
theorem dX11_night_33 : decode cX11_night 33 = .ok (.invokevirtual 163, 3) := by decide +kernel
theorem dX11_night_36 : decode cX11_night 36 = .ok (.aload_n 0, 1) := by decide +kernel
theorem dX11_night_37 : decode cX11_night 37 = .ok (.getfield 19, 3) := by decide +kernel
theorem dX11_night_40 : decode cX11_night 40 = .ok (.aload_n 0, 1) := by decide +kernel
theorem dX11_night_41 : decode cX11_night 41 = .ok (.getfield 75, 3) := by decide +kernel
theorem dX11_night_44 : decode cX11_night 44 = .ok (.iload_n 1, 1) := by decide +kernel
theorem dX11_night_45 : decode cX11_night 45 = .ok (.invokevirtual 174, 3) := by decide +kernel
theorem dX11_night_48 : decode cX11_night 48 = .ok (.ireturn, 1) := by decide +kernel
set_option maxRecDepth 20000 in
theorem ggX11_slips_X10_hasPillow : GoodIn wsX11_slips wsX10_hasPillow := goodIn_r _ [8, 9, 66, 67, 68, 69, 70] (by decide +kernel) (by decide +kernel)
set_option maxRecDepth 20000 in
theorem gX11_slips_X10_hasPillow : GoodIn wsX11_slips (wsV RX11 129 RX10 yX10_hasPillow wsX10_hasPillow) := goodIn_app (goodIn_of _ (by decide +kernel)) ggX11_slips_X10_hasPillow
set_option maxRecDepth 20000 in
theorem ggX11_slips_X8_thingsOn : GoodIn wsX11_slips wsX8_thingsOn := goodIn_r _ [14, 15, 16, 17, 13, 18, 19, 71] (by decide +kernel) (by decide +kernel)
set_option maxRecDepth 20000 in
theorem gX11_slips_X8_thingsOn : GoodIn wsX11_slips (wsV RX11 132 RX8 yX8_thingsOn wsX8_thingsOn) := goodIn_app (goodIn_of _ (by decide +kernel)) ggX11_slips_X8_thingsOn
set_option maxRecDepth 20000 in
theorem ggX11_slips_X9_remember : GoodIn wsX11_slips wsX9_remember := goodIn_r _ [24, 25, 26, 27, 28, 29, 30, 31, 32, 33, 34, 35, 36, 71, 72, 73, 74, 75, 76] (by decide +kernel) (by decide +kernel)
set_option maxRecDepth 20000 in
theorem gX11_slips_X9_remember : GoodIn wsX11_slips (wsV RX11 163 RX9 yX9_remember wsX9_remember) := goodIn_app (goodIn_of _ (by decide +kernel)) ggX11_slips_X9_remember
set_option maxRecDepth 20000 in
theorem ggX11_slips_X8_slip : GoodIn wsX11_slips wsX8_slip := goodIn_r _ [40, 19, 41, 42, 43, 13, 44, 45, 34, 35, 36, 71] (by decide +kernel) (by decide +kernel)
set_option maxRecDepth 20000 in
theorem gX11_slips_X8_slip : GoodIn wsX11_slips (wsV RX11 178 RX8 yX8_slip wsX8_slip) := goodIn_app (goodIn_of _ (by decide +kernel)) ggX11_slips_X8_slip
set_option maxRecDepth 20000 in
theorem ggX11_slips_J6_bitCount_0f7a4 : GoodIn wsX11_slips wsJ6_bitCount_0f7a4 := goodIn_r _ [49, 50, 51, 52] (by decide +kernel) (by decide +kernel)
set_option maxRecDepth 20000 in
theorem gX11_slips_J6_bitCount_0f7a4 : GoodIn wsX11_slips (va_wsS RX11 182 yJ6_bitCount_0f7a4 wsJ6_bitCount_0f7a4) := goodIn_app (goodIn_of _ (by decide +kernel)) ggX11_slips_J6_bitCount_0f7a4
end
section
theorem dX11_slips_0 : decode cX11_slips 0 = .ok (.aload_n 0, 1) := by decide +kernel
theorem dX11_slips_1 : decode cX11_slips 1 = .ok (.getfield 75, 3) := by decide +kernel
theorem dX11_slips_4 : decode cX11_slips 4 = .ok (.iload_n 1, 1) := by decide +kernel
theorem dX11_slips_5 : decode cX11_slips 5 = .ok (.invokevirtual 129, 3) := by decide +kernel
theorem dX11_slips_8 : decode cX11_slips 8 = .ok (.ifCond .ne 5, 3) := by decide +kernel
theorem dX11_slips_11 : decode cX11_slips 11 = .ok (.iconst (-1), 1) := by decide +kernel
theorem dX11_slips_12 : decode cX11_slips 12 = .ok (.ireturn, 1) := by decide +kernel
theorem dX11_slips_13 : decode cX11_slips 13 = .ok (.aload_n 0, 1) := by decide +kernel
theorem dX11_slips_14 : decode cX11_slips 14 = .ok (.getfield 19, 3) := by decide +kernel
theorem dX11_slips_17 : decode cX11_slips 17 = .ok (.iload_n 1, 1) := by decide +kernel
theorem dX11_slips_18 : decode cX11_slips 18 = .ok (.invokevirtual 132, 3) := by decide +kernel
theorem dX11_slips_21 : decode cX11_slips 21 = .ok (.istore_n 2, 1) := by decide +kernel
theorem dX11_slips_22 : decode cX11_slips 22 = .ok (.aload_n 0, 1) := by decide +kernel
theorem dX11_slips_23 : decode cX11_slips 23 = .ok (.getfield 26, 3) := by decide +kernel
theorem dX11_slips_26 : decode cX11_slips 26 = .ok (.aload_n 0, 1) := by decide +kernel
theorem dX11_slips_27 : decode cX11_slips 27 = .ok (.getfield 19, 3) := by decide +kernel
theorem dX11_slips_30 : decode cX11_slips 30 = .ok (.invokevirtual 163, 3) := by decide +kernel
theorem dX11_slips_33 : decode cX11_slips 33 = .ok (.aload_n 0, 1) := by decide +kernel
theorem dX11_slips_34 : decode cX11_slips 34 = .ok (.getfield 19, 3) := by decide +kernel
theorem dX11_slips_37 : decode cX11_slips 37 = .ok (.iload_n 1, 1) := by decide +kernel
theorem dX11_slips_38 : decode cX11_slips 38 = .ok (.invokevirtual 178, 3) := by decide +kernel
theorem dX11_slips_41 : decode cX11_slips 41 = .ok (.iload_n 2, 1) := by decide +kernel
theorem dX11_slips_42 : decode cX11_slips 42 = .ok (.invokestatic 182, 3) := by decide +kernel
theorem dX11_slips_45 : decode cX11_slips 45 = .ok (.ireturn, 1) := by decide +kernel
set_option maxRecDepth 20000 in
theorem ggX11_mixes_X11_areTwoPillows : GoodIn wsX11_mixes wsX11_areTwoPillows := goodIn_r _ [7, 8, 9, 10, 11, 12, 13, 14, 58, 59, 60, 61, 62, 63, 64, 65, 66, 67, 68, 69, 70, 71, 72, 73, 74, 75] (by decide +kernel) (by decide +kernel)
set_option maxRecDepth 20000 in
theorem gX11_mixes_X11_areTwoPillows : GoodIn wsX11_mixes (wsV RX11 187 RX11 yX11_areTwoPillows wsX11_areTwoPillows) := goodIn_app (goodIn_of _ (by decide +kernel)) ggX11_mixes_X11_areTwoPillows
set_option maxRecDepth 20000 in
theorem ggX11_mixes_X9_remember : GoodIn wsX11_mixes wsX9_remember := goodIn_r _ [19, 20, 21, 22, 23, 24, 25, 26, 27, 28, 29, 30, 31, 76, 77, 78, 79, 80, 81] (by decide +kernel) (by decide +kernel)
set_option maxRecDepth 20000 in
theorem gX11_mixes_X9_remember : GoodIn wsX11_mixes (wsV RX11 163 RX9 yX9_remember wsX9_remember) := goodIn_app (goodIn_of _ (by decide +kernel)) ggX11_mixes_X9_remember
set_option maxRecDepth 20000 in
theorem ggX11_mixes_X8_mix : GoodIn wsX11_mixes wsX8_mix := goodIn_r _ [36, 37, 38, 39, 35, 40, 41, 42, 43, 44, 45, 46, 29, 30, 31, 76] (by decide +kernel) (by decide +kernel)
set_option maxRecDepth 20000 in
theorem gX11_mixes_X8_mix : GoodIn wsX11_mixes (wsV RX11 191 RX8 yX8_mix wsX8_mix) := goodIn_app (goodIn_of _ (by decide +kernel)) ggX11_mixes_X8_mix
set_option maxRecDepth 20000 in
theorem ggX11_mixes_X8_thingsOn : GoodIn wsX11_mixes wsX8_thingsOn := goodIn_r _ [50, 37, 38, 39, 35, 40, 41, 76] (by decide +kernel) (by decide +kernel)
set_option maxRecDepth 20000 in
theorem gX11_mixes_X8_thingsOn : GoodIn wsX11_mixes (wsV RX11 132 RX8 yX8_thingsOn wsX8_thingsOn) := goodIn_app (goodIn_of _ (by decide +kernel)) ggX11_mixes_X8_thingsOn
set_option maxRecDepth 20000 in
theorem ggX11_mixes_J6_bitCount_0f7a4 : GoodIn wsX11_mixes wsJ6_bitCount_0f7a4 := goodIn_r _ [54, 55, 56, 57] (by decide +kernel) (by decide +kernel)
set_option maxRecDepth 20000 in
theorem gX11_mixes_J6_bitCount_0f7a4 : GoodIn wsX11_mixes (va_wsS RX11 182 yJ6_bitCount_0f7a4 wsJ6_bitCount_0f7a4) := goodIn_app (goodIn_of _ (by decide +kernel)) ggX11_mixes_J6_bitCount_0f7a4
theorem dX11_mixes_0 : decode cX11_mixes 0 = .ok (.aload_n 0, 1) := by decide +kernel
theorem dX11_mixes_1 : decode cX11_mixes 1 = .ok (.iload_n 1, 1) := by decide +kernel
theorem dX11_mixes_2 : decode cX11_mixes 2 = .ok (.iload_n 2, 1) := by decide +kernel
theorem dX11_mixes_3 : decode cX11_mixes 3 = .ok (.invokevirtual 187, 3) := by decide +kernel
theorem dX11_mixes_6 : decode cX11_mixes 6 = .ok (.ifCond .ne 5, 3) := by decide +kernel
theorem dX11_mixes_9 : decode cX11_mixes 9 = .ok (.iconst (-1), 1) := by decide +kernel
theorem dX11_mixes_10 : decode cX11_mixes 10 = .ok (.ireturn, 1) := by decide +kernel
theorem dX11_mixes_11 : decode cX11_mixes 11 = .ok (.aload_n 0, 1) := by decide +kernel
theorem dX11_mixes_12 : decode cX11_mixes 12 = .ok (.getfield 26, 3) := by decide +kernel
theorem dX11_mixes_15 : decode cX11_mixes 15 = .ok (.aload_n 0, 1) := by decide +kernel
theorem dX11_mixes_16 : decode cX11_mixes 16 = .ok (.getfield 19, 3) := by decide +kernel
theorem dX11_mixes_19 : decode cX11_mixes 19 = .ok (.invokevirtual 163, 3) := by decide +kernel
theorem dX11_mixes_22 : decode cX11_mixes 22 = .ok (.aload_n 0, 1) := by decide +kernel
theorem dX11_mixes_23 : decode cX11_mixes 23 = .ok (.getfield 19, 3) := by decide +kernel
theorem dX11_mixes_26 : decode cX11_mixes 26 = .ok (.iload_n 1, 1) := by decide +kernel
theorem dX11_mixes_27 : decode cX11_mixes 27 = .ok (.iload_n 2, 1) := by decide +kernel
theorem dX11_mixes_28 : decode cX11_mixes 28 = .ok (.invokevirtual 191, 3) := by decide +kernel
theorem dX11_mixes_31 : decode cX11_mixes 31 = .ok (.aload_n 0, 1) := by decide +kernel
theorem dX11_mixes_32 : decode cX11_mixes 32 = .ok (.getfield 19, 3) := by decide +kernel
theorem dX11_mixes_35 : decode cX11_mixes 35 = .ok (.iload_n 1, 1) := by decide +kernel
theorem dX11_mixes_36 : decode cX11_mixes 36 = .ok (.invokevirtual 132, 3) := by decide +kernel
theorem dX11_mixes_39 : decode cX11_mixes 39 = .ok (.invokestatic 182, 3) := by decide +kernel
theorem dX11_mixes_42 : decode cX11_mixes 42 = .ok (.ireturn, 1) := by decide +kernel
set_option maxRecDepth 20000 in
theorem ggX11_examines_X10_hasPillow : GoodIn wsX11_examines wsX10_hasPillow := goodIn_r _ [8, 9, 73, 74, 75, 76, 77] (by decide +kernel) (by decide +kernel)
set_option maxRecDepth 20000 in
theorem gX11_examines_X10_hasPillow : GoodIn wsX11_examines (wsV RX11 129 RX10 yX10_hasPillow wsX10_hasPillow) := goodIn_app (goodIn_of _ (by decide +kernel)) ggX11_examines_X10_hasPillow
set_option maxRecDepth 20000 in
theorem ggX11_examines_X8_isExamined : GoodIn wsX11_examines wsX8_isExamined := goodIn_r _ [14, 15, 78] (by decide +kernel) (by decide +kernel)
set_option maxRecDepth 20000 in
theorem gX11_examines_X8_isExamined : GoodIn wsX11_examines (wsV RX11 138 RX8 yX8_isExamined wsX8_isExamined) := goodIn_app (goodIn_of _ (by decide +kernel)) ggX11_examines_X8_isExamined
set_option maxRecDepth 20000 in
theorem ggX11_examines_X8_knownThings : GoodIn wsX11_examines wsX8_knownThings := goodIn_r _ [19, 15, 20, 21, 22, 13, 23, 24, 25, 26, 27, 28, 29, 30, 31, 78] (by decide +kernel) (by decide +kernel)
set_option maxRecDepth 20000 in
theorem gX11_examines_X8_knownThings : GoodIn wsX11_examines (wsV RX11 148 RX8 yX8_knownThings wsX8_knownThings) := goodIn_app (goodIn_of _ (by decide +kernel)) ggX11_examines_X8_knownThings
set_option maxRecDepth 20000 in
theorem ggX11_examines_X9_remember : GoodIn wsX11_examines wsX9_remember := goodIn_r _ [36, 37, 38, 39, 40, 41, 42, 43, 44, 45, 46, 47, 48, 78, 79, 80, 81, 82, 83] (by decide +kernel) (by decide +kernel)
set_option maxRecDepth 20000 in
theorem gX11_examines_X9_remember : GoodIn wsX11_examines (wsV RX11 163 RX9 yX9_remember wsX9_remember) := goodIn_app (goodIn_of _ (by decide +kernel)) ggX11_examines_X9_remember
set_option maxRecDepth 20000 in
theorem ggX11_examines_X8_examine : GoodIn wsX11_examines wsX8_examine := goodIn_r _ [52, 15, 78] (by decide +kernel) (by decide +kernel)
set_option maxRecDepth 20000 in
theorem gX11_examines_X8_examine : GoodIn wsX11_examines (wsV RX11 194 RX8 yX8_examine wsX8_examine) := goodIn_app (goodIn_of _ (by decide +kernel)) ggX11_examines_X8_examine
set_option maxRecDepth 20000 in
theorem ggX11_examines_J6_bitCount_0f7a4 : GoodIn wsX11_examines wsJ6_bitCount_0f7a4 := goodIn_r _ [56, 57, 58, 59] (by decide +kernel) (by decide +kernel)
set_option maxRecDepth 20000 in
theorem gX11_examines_J6_bitCount_0f7a4 : GoodIn wsX11_examines (va_wsS RX11 182 yJ6_bitCount_0f7a4 wsJ6_bitCount_0f7a4) := goodIn_app (goodIn_of _ (by decide +kernel)) ggX11_examines_J6_bitCount_0f7a4
theorem dX11_examines_0 : decode cX11_examines 0 = .ok (.aload_n 0, 1) := by decide +kernel
theorem dX11_examines_1 : decode cX11_examines 1 = .ok (.getfield 75, 3) := by decide +kernel
theorem dX11_examines_4 : decode cX11_examines 4 = .ok (.iload_n 1, 1) := by decide +kernel
theorem dX11_examines_5 : decode cX11_examines 5 = .ok (.invokevirtual 129, 3) := by decide +kernel
theorem dX11_examines_8 : decode cX11_examines 8 = .ok (.ifCond .ne 5, 3) := by decide +kernel
theorem dX11_examines_11 : decode cX11_examines 11 = .ok (.iconst (-1), 1) := by decide +kernel
theorem dX11_examines_12 : decode cX11_examines 12 = .ok (.ireturn, 1) := by decide +kernel
theorem dX11_examines_13 : decode cX11_examines 13 = .ok (.aload_n 0, 1) := by decide +kernel
theorem dX11_examines_14 : decode cX11_examines 14 = .ok (.getfield 19, 3) := by decide +kernel
theorem dX11_examines_17 : decode cX11_examines 17 = .ok (.iload_n 1, 1) := by decide +kernel
theorem dX11_examines_18 : decode cX11_examines 18 = .ok (.invokevirtual 138, 3) := by decide +kernel
theorem dX11_examines_21 : decode cX11_examines 21 = .ok (.ifCond .eq 6, 3) := by decide +kernel
theorem dX11_examines_24 : decode cX11_examines 24 = .ok (.bipush (-2), 2) := by decide +kernel
theorem dX11_examines_26 : decode cX11_examines 26 = .ok (.ireturn, 1) := by decide +kernel
theorem dX11_examines_27 : decode cX11_examines 27 = .ok (.aload_n 0, 1) := by decide +kernel
theorem dX11_examines_28 : decode cX11_examines 28 = .ok (.getfield 19, 3) := by decide +kernel
theorem dX11_examines_31 : decode cX11_examines 31 = .ok (.invokevirtual 148, 3) := by decide +kernel
theorem dX11_examines_34 : decode cX11_examines 34 = .ok (.istore_n 2, 1) := by decide +kernel
theorem dX11_examines_35 : decode cX11_examines 35 = .ok (.aload_n 0, 1) := by decide +kernel
theorem dX11_examines_36 : decode cX11_examines 36 = .ok (.getfield 26, 3) := by decide +kernel
theorem dX11_examines_39 : decode cX11_examines 39 = .ok (.aload_n 0, 1) := by decide +kernel
theorem dX11_examines_40 : decode cX11_examines 40 = .ok (.getfield 19, 3) := by decide +kernel
theorem dX11_examines_43 : decode cX11_examines 43 = .ok (.invokevirtual 163, 3) := by decide +kernel
theorem dX11_examines_46 : decode cX11_examines 46 = .ok (.aload_n 0, 1) := by decide +kernel
theorem dX11_examines_47 : decode cX11_examines 47 = .ok (.getfield 19, 3) := by decide +kernel
theorem dX11_examines_50 : decode cX11_examines 50 = .ok (.iload_n 1, 1) := by decide +kernel
theorem dX11_examines_51 : decode cX11_examines 51 = .ok (.invokevirtual 194, 3) := by decide +kernel
theorem dX11_examines_54 : decode cX11_examines 54 = .ok (.aload_n 0, 1) := by decide +kernel
theorem dX11_examines_55 : decode cX11_examines 55 = .ok (.getfield 19, 3) := by decide +kernel
theorem dX11_examines_58 : decode cX11_examines 58 = .ok (.invokevirtual 148, 3) := by decide +kernel
theorem dX11_examines_61 : decode cX11_examines 61 = .ok (.iload_n 2, 1) := by decide +kernel
theorem dX11_examines_62 : decode cX11_examines 62 = .ok (.iconst (-1), 1) := by decide +kernel
theorem dX11_examines_63 : decode cX11_examines 63 = .ok (.ixor, 1) := by decide +kernel
theorem dX11_examines_64 : decode cX11_examines 64 = .ok (.iand, 1) := by decide +kernel
theorem dX11_examines_65 : decode cX11_examines 65 = .ok (.invokestatic 182, 3) := by decide +kernel
theorem dX11_examines_68 : decode cX11_examines 68 = .ok (.ireturn, 1) := by decide +kernel
set_option maxRecDepth 20000 in
theorem ggX11_undo_X9_restoreLatest : GoodIn wsX11_undo wsX9_restoreLatest := goodIn_r _ [8, 9, 10, 11, 12, 13, 14, 15, 16, 30, 31, 32, 33, 34, 35] (by decide +kernel) (by decide +kernel)
set_option maxRecDepth 20000 in
theorem gX11_undo_X9_restoreLatest : GoodIn wsX11_undo (wsV RX11 197 RX9 yX9_restoreLatest wsX9_restoreLatest) := goodIn_app (goodIn_of _ (by decide +kernel)) ggX11_undo_X9_restoreLatest
theorem dX11_undo_0 : decode cX11_undo 0 = .ok (.aload_n 0, 1) := by decide +kernel
theorem dX11_undo_1 : decode cX11_undo 1 = .ok (.getfield 26, 3) := by decide +kernel
theorem dX11_undo_4 : decode cX11_undo 4 = .ok (.aload_n 0, 1) := by decide +kernel
theorem dX11_undo_5 : decode cX11_undo 5 = .ok (.getfield 19, 3) := by decide +kernel
theorem dX11_undo_8 : decode cX11_undo 8 = .ok (.invokevirtual 197, 3) := by decide +kernel
theorem dX11_undo_11 : decode cX11_undo 11 = .ok (.ifCond .eq 13, 3) := by decide +kernel
theorem dX11_undo_14 : decode cX11_undo 14 = .ok (.aload_n 0, 1) := by decide +kernel
theorem dX11_undo_15 : decode cX11_undo 15 = .ok (.getfield 26, 3) := by decide +kernel
theorem dX11_undo_18 : decode cX11_undo 18 = .ok (.getfield 160, 3) := by decide +kernel
theorem dX11_undo_21 : decode cX11_undo 21 = .ok (.goto 5, 3) := by decide +kernel
theorem dX11_undo_24 : decode cX11_undo 24 = .ok (.bipush (-2), 2) := by decide +kernel
theorem dX11_undo_26 : decode cX11_undo 26 = .ok (.ireturn, 1) := by decide +kernel
set_option maxRecDepth 20000 in
theorem ggX11_whose_X10_hasPillow : GoodIn wsX11_whose wsX10_hasPillow := goodIn_r _ [8, 9, 53, 54, 55, 56, 57] (by decide +kernel) (by decide +kernel)
set_option maxRecDepth 20000 in
theorem gX11_whose_X10_hasPillow : GoodIn wsX11_whose (wsV RX11 129 RX10 yX10_hasPillow wsX10_hasPillow) := goodIn_app (goodIn_of _ (by decide +kernel)) ggX11_whose_X10_hasPillow
set_option maxRecDepth 20000 in
theorem ggX11_whose_X11_isZeroOrOne : GoodIn wsX11_whose wsX11_isZeroOrOne := goodIn_r _ [13] (by decide +kernel) (by decide +kernel)
set_option maxRecDepth 20000 in
theorem gX11_whose_X11_isZeroOrOne : GoodIn wsX11_whose (va_wsS RX11 201 yX11_isZeroOrOne wsX11_isZeroOrOne) := goodIn_app (goodIn_of _ (by decide +kernel)) ggX11_whose_X11_isZeroOrOne
set_option maxRecDepth 20000 in
theorem ggX11_whose_X8_thingsOn : GoodIn wsX11_whose wsX8_thingsOn := goodIn_r _ [18, 19, 20, 21, 17, 22, 23, 58] (by decide +kernel) (by decide +kernel)
set_option maxRecDepth 20000 in
theorem gX11_whose_X8_thingsOn : GoodIn wsX11_whose (wsV RX11 132 RX8 yX8_thingsOn wsX8_thingsOn) := goodIn_app (goodIn_of _ (by decide +kernel)) ggX11_whose_X8_thingsOn
set_option maxRecDepth 20000 in
theorem ggX11_whose_X10_knownTo : GoodIn wsX11_whose wsX10_knownTo := goodIn_r _ [27, 28, 29, 53, 54, 55, 56, 57] (by decide +kernel) (by decide +kernel)
set_option maxRecDepth 20000 in
theorem gX11_whose_X10_knownTo : GoodIn wsX11_whose (wsV RX11 207 RX10 yX10_knownTo wsX10_knownTo) := goodIn_app (goodIn_of _ (by decide +kernel)) ggX11_whose_X10_knownTo
set_option maxRecDepth 20000 in
theorem ggX11_whose_X11_fewerOf : GoodIn wsX11_whose wsX11_fewerOf := goodIn_r _ [32, 33, 34, 35, 36, 37, 38, 39] (by decide +kernel) (by decide +kernel)
set_option maxRecDepth 20000 in
theorem gX11_whose_X11_fewerOf : GoodIn wsX11_whose (va_wsS RX11 210 yX11_fewerOf wsX11_fewerOf) := goodIn_app (goodIn_of _ (by decide +kernel)) ggX11_whose_X11_fewerOf
theorem dX11_whose_0 : decode cX11_whose 0 = .ok (.aload_n 0, 1) := by decide +kernel
theorem dX11_whose_1 : decode cX11_whose 1 = .ok (.getfield 75, 3) := by decide +kernel
theorem dX11_whose_4 : decode cX11_whose 4 = .ok (.iload_n 1, 1) := by decide +kernel
theorem dX11_whose_5 : decode cX11_whose 5 = .ok (.invokevirtual 129, 3) := by decide +kernel
theorem dX11_whose_8 : decode cX11_whose 8 = .ok (.ifCond .eq 10, 3) := by decide +kernel
theorem dX11_whose_11 : decode cX11_whose 11 = .ok (.iload_n 2, 1) := by decide +kernel
theorem dX11_whose_12 : decode cX11_whose 12 = .ok (.invokestatic 201, 3) := by decide +kernel
theorem dX11_whose_15 : decode cX11_whose 15 = .ok (.ifCond .ne 5, 3) := by decide +kernel
theorem dX11_whose_18 : decode cX11_whose 18 = .ok (.iconst (-1), 1) := by decide +kernel
theorem dX11_whose_19 : decode cX11_whose 19 = .ok (.ireturn, 1) := by decide +kernel
theorem dX11_whose_20 : decode cX11_whose 20 = .ok (.aload_n 0, 1) := by decide +kernel
theorem dX11_whose_21 : decode cX11_whose 21 = .ok (.getfield 19, 3) := by decide +kernel
theorem dX11_whose_24 : decode cX11_whose 24 = .ok (.iload_n 1, 1) := by decide +kernel
theorem dX11_whose_25 : decode cX11_whose 25 = .ok (.invokevirtual 132, 3) := by decide +kernel
theorem dX11_whose_28 : decode cX11_whose 28 = .ok (.istore_n 3, 1) := by decide +kernel
theorem dX11_whose_29 : decode cX11_whose 29 = .ok (.iconst 0, 1) := by decide +kernel
theorem dX11_whose_30 : decode cX11_whose 30 = .ok (.istore 4, 2) := by decide +kernel
theorem dX11_whose_32 : decode cX11_whose 32 = .ok (.bipush (-9), 2) := by decide +kernel
theorem dX11_whose_34 : decode cX11_whose 34 = .ok (.istore 5, 2) := by decide +kernel
theorem dX11_whose_36 : decode cX11_whose 36 = .ok (.iconst 0, 1) := by decide +kernel
theorem dX11_whose_37 : decode cX11_whose 37 = .ok (.istore 6, 2) := by decide +kernel
theorem dX11_whose_39 : decode cX11_whose 39 = .ok (.iload 6, 2) := by decide +kernel
theorem dX11_whose_41 : decode cX11_whose 41 = .ok (.iconst 1, 1) := by decide +kernel
theorem dX11_whose_42 : decode cX11_whose 42 = .ok (.aload_n 0, 1) := by decide +kernel
theorem dX11_whose_43 : decode cX11_whose 43 = .ok (.getfield 75, 3) := by decide +kernel
theorem dX11_whose_46 : decode cX11_whose 46 = .ok (.getfield 204, 3) := by decide +kernel
theorem dX11_whose_49 : decode cX11_whose 49 = .ok (.ishl, 1) := by decide +kernel
theorem dX11_whose_50 : decode cX11_whose 50 = .ok (.if_icmp .ge 37, 3) := by decide +kernel
theorem dX11_whose_53 : decode cX11_whose 53 = .ok (.iload_n 3, 1) := by decide +kernel
theorem dX11_whose_54 : decode cX11_whose 54 = .ok (.aload_n 0, 1) := by decide +kernel
theorem dX11_whose_55 : decode cX11_whose 55 = .ok (.getfield 75, 3) := by decide +kernel
theorem dX11_whose_58 : decode cX11_whose 58 = .ok (.iload 6, 2) := by decide +kernel
theorem dX11_whose_60 : decode cX11_whose 60 = .ok (.invokevirtual 207, 3) := by decide +kernel
theorem dX11_whose_63 : decode cX11_whose 63 = .ok (.iconst (-1), 1) := by decide +kernel
theorem dX11_whose_64 : decode cX11_whose 64 = .ok (.ixor, 1) := by decide +kernel
theorem dX11_whose_65 : decode cX11_whose 65 = .ok (.iand, 1) := by decide +kernel
theorem dX11_whose_66 : decode cX11_whose 66 = .ok (.ifCond .ne 15, 3) := by decide +kernel
theorem dX11_whose_69 : decode cX11_whose 69 = .ok (.iinc 4 1, 3) := by decide +kernel
theorem dX11_whose_72 : decode cX11_whose 72 = .ok (.iload 5, 2) := by decide +kernel
theorem dX11_whose_74 : decode cX11_whose 74 = .ok (.iload 6, 2) := by decide +kernel
theorem dX11_whose_76 : decode cX11_whose 76 = .ok (.invokestatic 210, 3) := by decide +kernel
theorem dX11_whose_79 : decode cX11_whose 79 = .ok (.istore 5, 2) := by decide +kernel
theorem dX11_whose_81 : decode cX11_whose 81 = .ok (.iinc 6 1, 3) := by decide +kernel
theorem dX11_whose_84 : decode cX11_whose 84 = .ok (.goto (-45), 3) := by decide +kernel
theorem dX11_whose_87 : decode cX11_whose 87 = .ok (.iload_n 2, 1) := by decide +kernel
theorem dX11_whose_88 : decode cX11_whose 88 = .ok (.ifCond .ne 8, 3) := by decide +kernel
theorem dX11_whose_91 : decode cX11_whose 91 = .ok (.iload 4, 2) := by decide +kernel
theorem dX11_whose_93 : decode cX11_whose 93 = .ok (.goto 5, 3) := by decide +kernel
theorem dX11_whose_96 : decode cX11_whose 96 = .ok (.iload 5, 2) := by decide +kernel
theorem dX11_whose_98 : decode cX11_whose 98 = .ok (.ireturn, 1) := by decide +kernel
set_option maxRecDepth 20000 in
theorem ggX11_so_X11_isZeroOrOne : GoodIn wsX11_so wsX11_isZeroOrOne := goodIn_r _ [6] (by decide +kernel) (by decide +kernel)
set_option maxRecDepth 20000 in
theorem gX11_so_X11_isZeroOrOne : GoodIn wsX11_so (va_wsS RX11 201 yX11_isZeroOrOne wsX11_isZeroOrOne) := goodIn_app (goodIn_of _ (by decide +kernel)) ggX11_so_X11_isZeroOrOne
set_option maxRecDepth 20000 in
theorem ggX11_so_X10_clashesWithin : GoodIn wsX11_so wsX10_clashesWithin := goodIn_r _ [11, 12, 13, 14, 15, 16, 17, 18, 19, 47, 48, 49, 50, 51] (by decide +kernel) (by decide +kernel)
set_option maxRecDepth 20000 in
theorem gX11_so_X10_clashesWithin : GoodIn wsX11_so (wsV RX11 154 RX10 yX10_clashesWithin wsX10_clashesWithin) := goodIn_app (goodIn_of _ (by decide +kernel)) ggX11_so_X10_clashesWithin
set_option maxRecDepth 20000 in
theorem ggX11_so_X8_timesOfSet : GoodIn wsX11_so wsX8_timesOfSet := goodIn_r _ [24, 25, 26, 27, 23, 28, 29, 30, 31, 32, 33, 52] (by decide +kernel) (by decide +kernel)
set_option maxRecDepth 20000 in
theorem gX11_so_X8_timesOfSet : GoodIn wsX11_so (wsV RX11 213 RX8 yX8_timesOfSet wsX8_timesOfSet) := goodIn_app (goodIn_of _ (by decide +kernel)) ggX11_so_X8_timesOfSet
theorem dX11_so_0 : decode cX11_so 0 = .ok (.iload_n 1, 1) := by decide +kernel
theorem dX11_so_1 : decode cX11_so 1 = .ok (.invokestatic 201, 3) := by decide +kernel
theorem dX11_so_4 : decode cX11_so 4 = .ok (.ifCond .ne 5, 3) := by decide +kernel
theorem dX11_so_7 : decode cX11_so 7 = .ok (.iconst (-1), 1) := by decide +kernel
theorem dX11_so_8 : decode cX11_so 8 = .ok (.ireturn, 1) := by decide +kernel
theorem dX11_so_9 : decode cX11_so 9 = .ok (.iconst 0, 1) := by decide +kernel
theorem dX11_so_10 : decode cX11_so 10 = .ok (.istore_n 2, 1) := by decide +kernel
theorem dX11_so_11 : decode cX11_so 11 = .ok (.iconst 0, 1) := by decide +kernel
theorem dX11_so_12 : decode cX11_so 12 = .ok (.istore_n 3, 1) := by decide +kernel
theorem dX11_so_13 : decode cX11_so 13 = .ok (.iconst 1, 1) := by decide +kernel
theorem dX11_so_14 : decode cX11_so 14 = .ok (.istore 4, 2) := by decide +kernel
theorem dX11_so_16 : decode cX11_so 16 = .ok (.iload 4, 2) := by decide +kernel
theorem dX11_so_18 : decode cX11_so 18 = .ok (.sipush 128, 3) := by decide +kernel
theorem dX11_so_21 : decode cX11_so 21 = .ok (.if_icmp .ge 44, 3) := by decide +kernel
theorem dX11_so_24 : decode cX11_so 24 = .ok (.aload_n 0, 1) := by decide +kernel
theorem dX11_so_25 : decode cX11_so 25 = .ok (.getfield 75, 3) := by decide +kernel
theorem dX11_so_28 : decode cX11_so 28 = .ok (.iload 4, 2) := by decide +kernel
theorem dX11_so_30 : decode cX11_so 30 = .ok (.invokevirtual 154, 3) := by decide +kernel
theorem dX11_so_33 : decode cX11_so 33 = .ok (.ifCond .ne 26, 3) := by decide +kernel
theorem dX11_so_36 : decode cX11_so 36 = .ok (.aload_n 0, 1) := by decide +kernel
theorem dX11_so_37 : decode cX11_so 37 = .ok (.getfield 19, 3) := by decide +kernel
theorem dX11_so_40 : decode cX11_so 40 = .ok (.iload 4, 2) := by decide +kernel
theorem dX11_so_42 : decode cX11_so 42 = .ok (.invokevirtual 213, 3) := by decide +kernel
theorem dX11_so_45 : decode cX11_so 45 = .ok (.istore 5, 2) := by decide +kernel
theorem dX11_so_47 : decode cX11_so 47 = .ok (.iload 5, 2) := by decide +kernel
theorem dX11_so_49 : decode cX11_so 49 = .ok (.iload_n 3, 1) := by decide +kernel
theorem dX11_so_50 : decode cX11_so 50 = .ok (.if_icmp .le 9, 3) := by decide +kernel
theorem dX11_so_53 : decode cX11_so 53 = .ok (.iload 5, 2) := by decide +kernel
theorem dX11_so_55 : decode cX11_so 55 = .ok (.istore_n 3, 1) := by decide +kernel
theorem dX11_so_56 : decode cX11_so 56 = .ok (.iload 4, 2) := by decide +kernel
theorem dX11_so_58 : decode cX11_so 58 = .ok (.istore_n 2, 1) := by decide +kernel
theorem dX11_so_59 : decode cX11_so 59 = .ok (.iinc 4 1, 3) := by decide +kernel
theorem dX11_so_62 : decode cX11_so 62 = .ok (.goto (-46), 3) := by decide +kernel
theorem dX11_so_65 : decode cX11_so 65 = .ok (.iload_n 1, 1) := by decide +kernel
theorem dX11_so_66 : decode cX11_so 66 = .ok (.ifCond .ne 7, 3) := by decide +kernel
theorem dX11_so_69 : decode cX11_so 69 = .ok (.iload_n 2, 1) := by decide +kernel
theorem dX11_so_70 : decode cX11_so 70 = .ok (.goto 4, 3) := by decide +kernel
theorem dX11_so_73 : decode cX11_so 73 = .ok (.iload_n 3, 1) := by decide +kernel
theorem dX11_so_74 : decode cX11_so 74 = .ok (.ireturn, 1) := by decide +kernel
set_option maxRecDepth 20000 in
theorem ggX11_tally_X11_areTwoPillows : GoodIn wsX11_tally wsX11_areTwoPillows := goodIn_r _ [6, 7, 8, 9, 10, 11, 12, 13, 31, 32, 33, 34, 35, 36, 37, 38, 39, 40, 41, 42, 43, 44, 45, 46, 47, 48] (by decide +kernel) (by decide +kernel)
set_option maxRecDepth 20000 in
theorem gX11_tally_X11_areTwoPillows : GoodIn wsX11_tally (wsV RX11 187 RX11 yX11_areTwoPillows wsX11_areTwoPillows) := goodIn_app (goodIn_of _ (by decide +kernel)) ggX11_tally_X11_areTwoPillows
set_option maxRecDepth 20000 in
theorem ggX11_tally_X8_thingsOn : GoodIn wsX11_tally wsX8_thingsOn := goodIn_r _ [18, 19, 20, 21, 17, 22, 23, 49] (by decide +kernel) (by decide +kernel)
set_option maxRecDepth 20000 in
theorem gX11_tally_X8_thingsOn : GoodIn wsX11_tally (wsV RX11 132 RX8 yX8_thingsOn wsX8_thingsOn) := goodIn_app (goodIn_of _ (by decide +kernel)) ggX11_tally_X8_thingsOn
set_option maxRecDepth 20000 in
theorem ggX11_tally_J6_bitCount_0f7a4 : GoodIn wsX11_tally wsJ6_bitCount_0f7a4 := goodIn_r _ [27, 28, 29, 30] (by decide +kernel) (by decide +kernel)
set_option maxRecDepth 20000 in
theorem gX11_tally_J6_bitCount_0f7a4 : GoodIn wsX11_tally (va_wsS RX11 182 yJ6_bitCount_0f7a4 wsJ6_bitCount_0f7a4) := goodIn_app (goodIn_of _ (by decide +kernel)) ggX11_tally_J6_bitCount_0f7a4
theorem dX11_tally_0 : decode cX11_tally 0 = .ok (.aload_n 0, 1) := by decide +kernel
theorem dX11_tally_1 : decode cX11_tally 1 = .ok (.iload_n 1, 1) := by decide +kernel
theorem dX11_tally_2 : decode cX11_tally 2 = .ok (.iload_n 2, 1) := by decide +kernel
theorem dX11_tally_3 : decode cX11_tally 3 = .ok (.invokevirtual 187, 3) := by decide +kernel
theorem dX11_tally_6 : decode cX11_tally 6 = .ok (.ifCond .eq 26, 3) := by decide +kernel
theorem dX11_tally_9 : decode cX11_tally 9 = .ok (.aload_n 0, 1) := by decide +kernel
theorem dX11_tally_10 : decode cX11_tally 10 = .ok (.getfield 19, 3) := by decide +kernel
theorem dX11_tally_13 : decode cX11_tally 13 = .ok (.iload_n 1, 1) := by decide +kernel
theorem dX11_tally_14 : decode cX11_tally 14 = .ok (.invokevirtual 132, 3) := by decide +kernel
theorem dX11_tally_17 : decode cX11_tally 17 = .ok (.aload_n 0, 1) := by decide +kernel
theorem dX11_tally_18 : decode cX11_tally 18 = .ok (.getfield 19, 3) := by decide +kernel
theorem dX11_tally_21 : decode cX11_tally 21 = .ok (.iload_n 2, 1) := by decide +kernel
theorem dX11_tally_22 : decode cX11_tally 22 = .ok (.invokevirtual 132, 3) := by decide +kernel
theorem dX11_tally_25 : decode cX11_tally 25 = .ok (.ixor, 1) := by decide +kernel
theorem dX11_tally_26 : decode cX11_tally 26 = .ok (.invokestatic 182, 3) := by decide +kernel
theorem dX11_tally_29 : decode cX11_tally 29 = .ok (.goto 4, 3) := by decide +kernel
theorem dX11_tally_32 : decode cX11_tally 32 = .ok (.iconst (-1), 1) := by decide +kernel
theorem dX11_tally_33 : decode cX11_tally 33 = .ok (.ireturn, 1) := by decide +kernel
set_option maxRecDepth 20000 in
theorem ggX11_fit_X10_hasPerson : GoodIn wsX11_fit wsX10_hasPerson := goodIn_r _ [8, 9, 71, 72, 73, 74, 75] (by decide +kernel) (by decide +kernel)
set_option maxRecDepth 20000 in
theorem gX11_fit_X10_hasPerson : GoodIn wsX11_fit (wsV RX11 107 RX10 yX10_hasPerson wsX10_hasPerson) := goodIn_app (goodIn_of _ (by decide +kernel)) ggX11_fit_X10_hasPerson
set_option maxRecDepth 20000 in
theorem ggX11_fit_X0_weigh : GoodIn wsX11_fit wsX0_weigh := goodIn_r _ [14, 15, 16, 17, 18, 19, 20, 21, 22, 23, 24, 25, 26, 27, 28, 29, 30, 31, 32, 33, 34, 35, 13, 36, 37, 38, 39, 40, 41, 42, 43, 44, 45, 76, 77, 71, 72, 73, 74, 75, 78] (by decide +kernel) (by decide +kernel)
set_option maxRecDepth 20000 in
theorem gX11_fit_X0_weigh : GoodIn wsX11_fit (wsV RX11 216 RX0 yX0_weigh wsX0_weigh) := goodIn_app (goodIn_of _ (by decide +kernel)) ggX11_fit_X0_weigh
set_option maxRecDepth 20000 in
theorem ggX11_fit_X0_explained : GoodIn wsX11_fit wsX0_explained := goodIn_r _ [49, 15, 76, 77] (by decide +kernel) (by decide +kernel)
set_option maxRecDepth 20000 in
theorem gX11_fit_X0_explained : GoodIn wsX11_fit (wsV RX11 220 RX0 yX0_explained wsX0_explained) := goodIn_app (goodIn_of _ (by decide +kernel)) ggX11_fit_X0_explained
set_option maxRecDepth 20000 in
theorem ggX11_fit_X0_pillowOf : GoodIn wsX11_fit wsX0_pillowOf := goodIn_r _ [53, 54, 55, 56, 13, 57, 15, 37, 42, 43, 44, 45, 17, 76, 77, 71, 72, 73, 74, 75] (by decide +kernel) (by decide +kernel)
set_option maxRecDepth 20000 in
theorem gX11_fit_X0_pillowOf : GoodIn wsX11_fit (wsV RX11 223 RX0 yX0_pillowOf wsX0_pillowOf) := goodIn_app (goodIn_of _ (by decide +kernel)) ggX11_fit_X0_pillowOf
theorem dX11_fit_0 : decode cX11_fit 0 = .ok (.iload_n 1, 1) := by decide +kernel
theorem dX11_fit_1 : decode cX11_fit 1 = .ok (.iconst (-1), 1) := by decide +kernel
theorem dX11_fit_2 : decode cX11_fit 2 = .ok (.if_icmp .eq 16, 3) := by decide +kernel
theorem dX11_fit_5 : decode cX11_fit 5 = .ok (.aload_n 0, 1) := by decide +kernel
theorem dX11_fit_6 : decode cX11_fit 6 = .ok (.getfield 75, 3) := by decide +kernel
theorem dX11_fit_9 : decode cX11_fit 9 = .ok (.iload_n 1, 1) := by decide +kernel
theorem dX11_fit_10 : decode cX11_fit 10 = .ok (.invokevirtual 107, 3) := by decide +kernel
theorem dX11_fit_13 : decode cX11_fit 13 = .ok (.ifCond .ne 5, 3) := by decide +kernel
theorem dX11_fit_16 : decode cX11_fit 16 = .ok (.iconst (-1), 1) := by decide +kernel
theorem dX11_fit_17 : decode cX11_fit 17 = .ok (.ireturn, 1) := by decide +kernel
theorem dX11_fit_18 : decode cX11_fit 18 = .ok (.aload_n 0, 1) := by decide +kernel
theorem dX11_fit_19 : decode cX11_fit 19 = .ok (.getfield 33, 3) := by decide +kernel
theorem dX11_fit_22 : decode cX11_fit 22 = .ok (.aload_n 0, 1) := by decide +kernel
theorem dX11_fit_23 : decode cX11_fit 23 = .ok (.getfield 75, 3) := by decide +kernel
theorem dX11_fit_26 : decode cX11_fit 26 = .ok (.aload_n 0, 1) := by decide +kernel
theorem dX11_fit_27 : decode cX11_fit 27 = .ok (.getfield 19, 3) := by decide +kernel
theorem dX11_fit_30 : decode cX11_fit 30 = .ok (.invokevirtual 216, 3) := by decide +kernel
theorem dX11_fit_33 : decode cX11_fit 33 = .ok (.iload_n 1, 1) := by decide +kernel
theorem dX11_fit_34 : decode cX11_fit 34 = .ok (.iconst (-1), 1) := by decide +kernel
theorem dX11_fit_35 : decode cX11_fit 35 = .ok (.if_icmp .ne 13, 3) := by decide +kernel
theorem dX11_fit_38 : decode cX11_fit 38 = .ok (.aload_n 0, 1) := by decide +kernel
theorem dX11_fit_39 : decode cX11_fit 39 = .ok (.getfield 33, 3) := by decide +kernel
theorem dX11_fit_42 : decode cX11_fit 42 = .ok (.invokevirtual 220, 3) := by decide +kernel
theorem dX11_fit_45 : decode cX11_fit 45 = .ok (.goto 15, 3) := by decide +kernel
theorem dX11_fit_48 : decode cX11_fit 48 = .ok (.aload_n 0, 1) := by decide +kernel
theorem dX11_fit_49 : decode cX11_fit 49 = .ok (.getfield 33, 3) := by decide +kernel
theorem dX11_fit_52 : decode cX11_fit 52 = .ok (.aload_n 0, 1) := by decide +kernel
theorem dX11_fit_53 : decode cX11_fit 53 = .ok (.getfield 75, 3) := by decide +kernel
theorem dX11_fit_56 : decode cX11_fit 56 = .ok (.iload_n 1, 1) := by decide +kernel
theorem dX11_fit_57 : decode cX11_fit 57 = .ok (.invokevirtual 223, 3) := by decide +kernel
theorem dX11_fit_60 : decode cX11_fit 60 = .ok (.ireturn, 1) := by decide +kernel
set_option maxRecDepth 20000 in
theorem ggX11_looks_X8_allThings : GoodIn wsX11_looks wsX8_allThings := goodIn_r _ [8, 9, 10, 11, 7, 12, 13, 14, 15, 16, 17, 18, 19, 20, 21, 56] (by decide +kernel) (by decide +kernel)
set_option maxRecDepth 20000 in
theorem gX11_looks_X8_allThings : GoodIn wsX11_looks (wsV RX11 151 RX8 yX8_allThings wsX8_allThings) := goodIn_app (goodIn_of _ (by decide +kernel)) ggX11_looks_X8_allThings
set_option maxRecDepth 20000 in
theorem ggX11_looks_X8_knownThings : GoodIn wsX11_looks wsX8_knownThings := goodIn_r _ [25, 21, 9, 10, 11, 7, 12, 13, 14, 15, 16, 17, 18, 19, 20, 56] (by decide +kernel) (by decide +kernel)
set_option maxRecDepth 20000 in
theorem gX11_looks_X8_knownThings : GoodIn wsX11_looks (wsV RX11 148 RX8 yX8_knownThings wsX8_knownThings) := goodIn_app (goodIn_of _ (by decide +kernel)) ggX11_looks_X8_knownThings
set_option maxRecDepth 20000 in
theorem ggX11_looks_X8_thingsOnSet : GoodIn wsX11_looks wsX8_thingsOnSet := goodIn_r _ [12, 13, 14, 15, 7, 16, 17, 18, 19, 20, 21, 56] (by decide +kernel) (by decide +kernel)
set_option maxRecDepth 20000 in
theorem gX11_looks_X8_thingsOnSet : GoodIn wsX11_looks (wsV RX11 229 RX8 yX8_thingsOnSet wsX8_thingsOnSet) := goodIn_app (goodIn_of _ (by decide +kernel)) ggX11_looks_X8_thingsOnSet
set_option maxRecDepth 20000 in
theorem ggX11_looks_X11_fewerOf : GoodIn wsX11_looks wsX11_fewerOf := goodIn_r _ [30, 31, 32, 33, 34, 35, 36, 37] (by decide +kernel) (by decide +kernel)
set_option maxRecDepth 20000 in
theorem gX11_looks_X11_fewerOf : GoodIn wsX11_looks (va_wsS RX11 210 yX11_fewerOf wsX11_fewerOf) := goodIn_app (goodIn_of _ (by decide +kernel)) ggX11_looks_X11_fewerOf
theorem dX11_looks_0 : decode cX11_looks 0 = .ok (.aload_n 0, 1) := by decide +kernel
theorem dX11_looks_1 : decode cX11_looks 1 = .ok (.getfield 19, 3) := by decide +kernel
theorem dX11_looks_4 : decode cX11_looks 4 = .ok (.invokevirtual 151, 3) := by decide +kernel
theorem dX11_looks_7 : decode cX11_looks 7 = .ok (.aload_n 0, 1) := by decide +kernel
theorem dX11_looks_8 : decode cX11_looks 8 = .ok (.getfield 19, 3) := by decide +kernel
theorem dX11_looks_11 : decode cX11_looks 11 = .ok (.invokevirtual 148, 3) := by decide +kernel
theorem dX11_looks_14 : decode cX11_looks 14 = .ok (.iconst (-1), 1) := by decide +kernel
theorem dX11_looks_15 : decode cX11_looks 15 = .ok (.ixor, 1) := by decide +kernel
theorem dX11_looks_16 : decode cX11_looks 16 = .ok (.iand, 1) := by decide +kernel
theorem dX11_looks_17 : decode cX11_looks 17 = .ok (.istore_n 1, 1) := by decide +kernel
theorem dX11_looks_18 : decode cX11_looks 18 = .ok (.bipush (-9), 2) := by decide +kernel
theorem dX11_looks_20 : decode cX11_looks 20 = .ok (.istore_n 2, 1) := by decide +kernel
theorem dX11_looks_21 : decode cX11_looks 21 = .ok (.iconst 0, 1) := by decide +kernel
theorem dX11_looks_22 : decode cX11_looks 22 = .ok (.istore_n 3, 1) := by decide +kernel
theorem dX11_looks_23 : decode cX11_looks 23 = .ok (.iload_n 3, 1) := by decide +kernel
theorem dX11_looks_24 : decode cX11_looks 24 = .ok (.iconst 1, 1) := by decide +kernel
theorem dX11_looks_25 : decode cX11_looks 25 = .ok (.aload_n 0, 1) := by decide +kernel
theorem dX11_looks_26 : decode cX11_looks 26 = .ok (.getfield 75, 3) := by decide +kernel
theorem dX11_looks_29 : decode cX11_looks 29 = .ok (.getfield 226, 3) := by decide +kernel
theorem dX11_looks_32 : decode cX11_looks 32 = .ok (.ishl, 1) := by decide +kernel
theorem dX11_looks_33 : decode cX11_looks 33 = .ok (.if_icmp .ge 30, 3) := by decide +kernel
theorem dX11_looks_36 : decode cX11_looks 36 = .ok (.iload_n 1, 1) := by decide +kernel
theorem dX11_looks_37 : decode cX11_looks 37 = .ok (.aload_n 0, 1) := by decide +kernel
theorem dX11_looks_38 : decode cX11_looks 38 = .ok (.getfield 19, 3) := by decide +kernel
theorem dX11_looks_41 : decode cX11_looks 41 = .ok (.iload_n 3, 1) := by decide +kernel
theorem dX11_looks_42 : decode cX11_looks 42 = .ok (.invokevirtual 229, 3) := by decide +kernel
theorem dX11_looks_45 : decode cX11_looks 45 = .ok (.iconst (-1), 1) := by decide +kernel
theorem dX11_looks_46 : decode cX11_looks 46 = .ok (.ixor, 1) := by decide +kernel
theorem dX11_looks_47 : decode cX11_looks 47 = .ok (.iand, 1) := by decide +kernel
theorem dX11_looks_48 : decode cX11_looks 48 = .ok (.ifCond .ne 9, 3) := by decide +kernel
theorem dX11_looks_51 : decode cX11_looks 51 = .ok (.iload_n 2, 1) := by decide +kernel
theorem dX11_looks_52 : decode cX11_looks 52 = .ok (.iload_n 3, 1) := by decide +kernel
theorem dX11_looks_53 : decode cX11_looks 53 = .ok (.invokestatic 210, 3) := by decide +kernel
theorem dX11_looks_56 : decode cX11_looks 56 = .ok (.istore_n 2, 1) := by decide +kernel
theorem dX11_looks_57 : decode cX11_looks 57 = .ok (.iinc 3 1, 3) := by decide +kernel
theorem dX11_looks_60 : decode cX11_looks 60 = .ok (.goto (-37), 3) := by decide +kernel
theorem dX11_looks_63 : decode cX11_looks 63 = .ok (.iload_n 2, 1) := by decide +kernel
theorem dX11_looks_64 : decode cX11_looks 64 = .ok (.ireturn, 1) := by decide +kernel
set_option maxRecDepth 20000 in
theorem ggX11_next_X8_knownThings : GoodIn wsX11_next wsX8_knownThings := goodIn_r _ [8, 9, 10, 11, 12, 7, 13, 14, 15, 16, 17, 18, 19, 20, 21, 52] (by decide +kernel) (by decide +kernel)
set_option maxRecDepth 20000 in
theorem gX11_next_X8_knownThings : GoodIn wsX11_next (wsV RX11 148 RX8 yX8_knownThings wsX8_knownThings) := goodIn_app (goodIn_of _ (by decide +kernel)) ggX11_next_X8_knownThings
set_option maxRecDepth 20000 in
theorem ggX11_next_X8_thingsOn : GoodIn wsX11_next wsX8_thingsOn := goodIn_r _ [17, 18, 19, 20, 7, 21, 9, 52] (by decide +kernel) (by decide +kernel)
set_option maxRecDepth 20000 in
theorem gX11_next_X8_thingsOn : GoodIn wsX11_next (wsV RX11 132 RX8 yX8_thingsOn wsX8_thingsOn) := goodIn_app (goodIn_of _ (by decide +kernel)) ggX11_next_X8_thingsOn
set_option maxRecDepth 20000 in
theorem ggX11_next_J6_bitCount_0f7a4 : GoodIn wsX11_next wsJ6_bitCount_0f7a4 := goodIn_r _ [26, 27, 28, 29] (by decide +kernel) (by decide +kernel)
set_option maxRecDepth 20000 in
theorem gX11_next_J6_bitCount_0f7a4 : GoodIn wsX11_next (va_wsS RX11 182 yJ6_bitCount_0f7a4 wsJ6_bitCount_0f7a4) := goodIn_app (goodIn_of _ (by decide +kernel)) ggX11_next_J6_bitCount_0f7a4
set_option maxRecDepth 20000 in
theorem ggX11_next_X8_isExamined : GoodIn wsX11_next wsX8_isExamined := goodIn_r _ [33, 9, 52] (by decide +kernel) (by decide +kernel)
set_option maxRecDepth 20000 in
theorem gX11_next_X8_isExamined : GoodIn wsX11_next (wsV RX11 138 RX8 yX8_isExamined wsX8_isExamined) := goodIn_app (goodIn_of _ (by decide +kernel)) ggX11_next_X8_isExamined
theorem dX11_next_0 : decode cX11_next 0 = .ok (.aload_n 0, 1) := by decide +kernel
theorem dX11_next_1 : decode cX11_next 1 = .ok (.getfield 19, 3) := by decide +kernel
theorem dX11_next_4 : decode cX11_next 4 = .ok (.invokevirtual 148, 3) := by decide +kernel
theorem dX11_next_7 : decode cX11_next 7 = .ok (.istore_n 1, 1) := by decide +kernel
theorem dX11_next_8 : decode cX11_next 8 = .ok (.bipush (-9), 2) := by decide +kernel
theorem dX11_next_10 : decode cX11_next 10 = .ok (.istore_n 2, 1) := by decide +kernel
theorem dX11_next_11 : decode cX11_next 11 = .ok (.iconst (-1), 1) := by decide +kernel
theorem dX11_next_12 : decode cX11_next 12 = .ok (.istore_n 3, 1) := by decide +kernel
theorem dX11_next_13 : decode cX11_next 13 = .ok (.iconst 0, 1) := by decide +kernel
theorem dX11_next_14 : decode cX11_next 14 = .ok (.istore 4, 2) := by decide +kernel
theorem dX11_next_16 : decode cX11_next 16 = .ok (.iload 4, 2) := by decide +kernel
theorem dX11_next_18 : decode cX11_next 18 = .ok (.aload_n 0, 1) := by decide +kernel
theorem dX11_next_19 : decode cX11_next 19 = .ok (.getfield 75, 3) := by decide +kernel
theorem dX11_next_22 : decode cX11_next 22 = .ok (.getfield 226, 3) := by decide +kernel
theorem dX11_next_25 : decode cX11_next 25 = .ok (.if_icmp .ge 51, 3) := by decide +kernel
theorem dX11_next_28 : decode cX11_next 28 = .ok (.aload_n 0, 1) := by decide +kernel
theorem dX11_next_29 : decode cX11_next 29 = .ok (.getfield 19, 3) := by decide +kernel
theorem dX11_next_32 : decode cX11_next 32 = .ok (.iload 4, 2) := by decide +kernel
theorem dX11_next_34 : decode cX11_next 34 = .ok (.invokevirtual 132, 3) := by decide +kernel
theorem dX11_next_37 : decode cX11_next 37 = .ok (.iload_n 1, 1) := by decide +kernel
theorem dX11_next_38 : decode cX11_next 38 = .ok (.iconst (-1), 1) := by decide +kernel
theorem dX11_next_39 : decode cX11_next 39 = .ok (.ixor, 1) := by decide +kernel
theorem dX11_next_40 : decode cX11_next 40 = .ok (.iand, 1) := by decide +kernel
theorem dX11_next_41 : decode cX11_next 41 = .ok (.invokestatic 182, 3) := by decide +kernel
theorem dX11_next_44 : decode cX11_next 44 = .ok (.istore 5, 2) := by decide +kernel
theorem dX11_next_46 : decode cX11_next 46 = .ok (.aload_n 0, 1) := by decide +kernel
theorem dX11_next_47 : decode cX11_next 47 = .ok (.getfield 19, 3) := by decide +kernel
theorem dX11_next_50 : decode cX11_next 50 = .ok (.iload 4, 2) := by decide +kernel
theorem dX11_next_52 : decode cX11_next 52 = .ok (.invokevirtual 138, 3) := by decide +kernel
theorem dX11_next_55 : decode cX11_next 55 = .ok (.ifCond .ne 15, 3) := by decide +kernel
theorem dX11_next_58 : decode cX11_next 58 = .ok (.iload 5, 2) := by decide +kernel
theorem dX11_next_60 : decode cX11_next 60 = .ok (.iload_n 3, 1) := by decide +kernel
theorem dX11_next_61 : decode cX11_next 61 = .ok (.if_icmp .le 9, 3) := by decide +kernel
theorem dX11_next_64 : decode cX11_next 64 = .ok (.iload 5, 2) := by decide +kernel
theorem dX11_next_66 : decode cX11_next 66 = .ok (.istore_n 3, 1) := by decide +kernel
theorem dX11_next_67 : decode cX11_next 67 = .ok (.iload 4, 2) := by decide +kernel
theorem dX11_next_69 : decode cX11_next 69 = .ok (.istore_n 2, 1) := by decide +kernel
theorem dX11_next_70 : decode cX11_next 70 = .ok (.iinc 4 1, 3) := by decide +kernel
theorem dX11_next_73 : decode cX11_next 73 = .ok (.goto (-57), 3) := by decide +kernel
theorem dX11_next_76 : decode cX11_next 76 = .ok (.iload_n 2, 1) := by decide +kernel
theorem dX11_next_77 : decode cX11_next 77 = .ok (.ireturn, 1) := by decide +kernel
set_option maxRecDepth 20000 in
theorem ggX11_inNights_X11_isDraw : GoodIn wsX11_inNights wsX11_isDraw := goodIn_r _ [7] (by decide +kernel) (by decide +kernel)
set_option maxRecDepth 20000 in
theorem gX11_inNights_X11_isDraw : GoodIn wsX11_inNights (va_wsS RX11 171 yX11_isDraw wsX11_isDraw) := goodIn_app (goodIn_of _ (by decide +kernel)) ggX11_inNights_X11_isDraw
set_option maxRecDepth 20000 in
theorem ggX11_inNights_X10_hasPillow : GoodIn wsX11_inNights wsX10_hasPillow := goodIn_r _ [12, 13, 75, 76, 77, 78, 79] (by decide +kernel) (by decide +kernel)
set_option maxRecDepth 20000 in
theorem gX11_inNights_X10_hasPillow : GoodIn wsX11_inNights (wsV RX11 129 RX10 yX10_hasPillow wsX10_hasPillow) := goodIn_app (goodIn_of _ (by decide +kernel)) ggX11_inNights_X10_hasPillow
set_option maxRecDepth 20000 in
theorem ggX11_inNights_X8_thingsOn : GoodIn wsX11_inNights wsX8_thingsOn := goodIn_r _ [18, 19, 20, 21, 17, 22, 23, 80] (by decide +kernel) (by decide +kernel)
set_option maxRecDepth 20000 in
theorem gX11_inNights_X8_thingsOn : GoodIn wsX11_inNights (wsV RX11 132 RX8 yX8_thingsOn wsX8_thingsOn) := goodIn_app (goodIn_of _ (by decide +kernel)) ggX11_inNights_X8_thingsOn
set_option maxRecDepth 20000 in
theorem ggX11_inNights_X8_nightNumber : GoodIn wsX11_inNights wsX8_nightNumber := goodIn_r _ [27, 23, 80] (by decide +kernel) (by decide +kernel)
set_option maxRecDepth 20000 in
theorem gX11_inNights_X8_nightNumber : GoodIn wsX11_inNights (wsV RX11 145 RX8 yX8_nightNumber wsX8_nightNumber) := goodIn_app (goodIn_of _ (by decide +kernel)) ggX11_inNights_X8_nightNumber
set_option maxRecDepth 20000 in
theorem ggX11_inNights_X11_listen : GoodIn wsX11_inNights wsX11_listen := goodIn_r _ [31, 3, 1, 32, 2, 33, 34, 35, 36, 37, 38, 39, 17, 40, 23, 41, 42, 43, 11, 44, 45, 46, 47, 48, 49, 50, 51, 52, 53, 54, 55, 56, 57, 58, 59, 60, 61, 62, 63, 64, 65, 66, 67, 68, 69, 70, 71, 72, 73, 74, 75, 76, 77, 78, 79, 80] (by decide +kernel) (by decide +kernel)
set_option maxRecDepth 20000 in
theorem gX11_inNights_X11_listen : GoodIn wsX11_inNights (wsV RX11 232 RX11 yX11_listen wsX11_listen) := goodIn_app (goodIn_of _ (by decide +kernel)) ggX11_inNights_X11_listen
theorem dX11_inNights_0 : decode cX11_inNights 0 = .ok (.iload_n 1, 1) := by decide +kernel
theorem dX11_inNights_1 : decode cX11_inNights 1 = .ok (.invokestatic 171, 3) := by decide +kernel
theorem dX11_inNights_4 : decode cX11_inNights 4 = .ok (.ifCond .eq 24, 3) := by decide +kernel
theorem dX11_inNights_7 : decode cX11_inNights 7 = .ok (.iload_n 2, 1) := by decide +kernel
theorem dX11_inNights_8 : decode cX11_inNights 8 = .ok (.ifCond .lt 20, 3) := by decide +kernel
theorem dX11_inNights_11 : decode cX11_inNights 11 = .ok (.iload_n 2, 1) := by decide +kernel
theorem dX11_inNights_12 : decode cX11_inNights 12 = .ok (.bipush 20, 2) := by decide +kernel
theorem dX11_inNights_14 : decode cX11_inNights 14 = .ok (.if_icmp .gt 14, 3) := by decide +kernel
theorem dX11_inNights_17 : decode cX11_inNights 17 = .ok (.aload_n 0, 1) := by decide +kernel
theorem dX11_inNights_18 : decode cX11_inNights 18 = .ok (.getfield 75, 3) := by decide +kernel
theorem dX11_inNights_21 : decode cX11_inNights 21 = .ok (.iload_n 3, 1) := by decide +kernel
theorem dX11_inNights_22 : decode cX11_inNights 22 = .ok (.invokevirtual 129, 3) := by decide +kernel
theorem dX11_inNights_25 : decode cX11_inNights 25 = .ok (.ifCond .ne 5, 3) := by decide +kernel
theorem dX11_inNights_28 : decode cX11_inNights 28 = .ok (.iconst (-1), 1) := by decide +kernel
theorem dX11_inNights_29 : decode cX11_inNights 29 = .ok (.ireturn, 1) := by decide +kernel
theorem dX11_inNights_30 : decode cX11_inNights 30 = .ok (.aload_n 0, 1) := by decide +kernel
theorem dX11_inNights_31 : decode cX11_inNights 31 = .ok (.getfield 19, 3) := by decide +kernel
theorem dX11_inNights_34 : decode cX11_inNights 34 = .ok (.iload_n 3, 1) := by decide +kernel
theorem dX11_inNights_35 : decode cX11_inNights 35 = .ok (.invokevirtual 132, 3) := by decide +kernel
theorem dX11_inNights_38 : decode cX11_inNights 38 = .ok (.istore 4, 2) := by decide +kernel
theorem dX11_inNights_40 : decode cX11_inNights 40 = .ok (.iconst 0, 1) := by decide +kernel
theorem dX11_inNights_41 : decode cX11_inNights 41 = .ok (.istore 5, 2) := by decide +kernel
theorem dX11_inNights_43 : decode cX11_inNights 43 = .ok (.iload 5, 2) := by decide +kernel
theorem dX11_inNights_45 : decode cX11_inNights 45 = .ok (.iload_n 2, 1) := by decide +kernel
theorem dX11_inNights_46 : decode cX11_inNights 46 = .ok (.if_icmp .ge 42, 3) := by decide +kernel
theorem dX11_inNights_49 : decode cX11_inNights 49 = .ok (.aload_n 0, 1) := by decide +kernel
theorem dX11_inNights_50 : decode cX11_inNights 50 = .ok (.iload_n 1, 1) := by decide +kernel
theorem dX11_inNights_51 : decode cX11_inNights 51 = .ok (.iload 5, 2) := by decide +kernel
theorem dX11_inNights_53 : decode cX11_inNights 53 = .ok (.iadd, 1) := by decide +kernel
theorem dX11_inNights_54 : decode cX11_inNights 54 = .ok (.sipush 10000, 3) := by decide +kernel
theorem dX11_inNights_57 : decode cX11_inNights 57 = .ok (.irem, 1) := by decide +kernel
theorem dX11_inNights_58 : decode cX11_inNights 58 = .ok (.aload_n 0, 1) := by decide +kernel
theorem dX11_inNights_59 : decode cX11_inNights 59 = .ok (.getfield 19, 3) := by decide +kernel
theorem dX11_inNights_62 : decode cX11_inNights 62 = .ok (.invokevirtual 145, 3) := by decide +kernel
theorem dX11_inNights_65 : decode cX11_inNights 65 = .ok (.iload 5, 2) := by decide +kernel
theorem dX11_inNights_67 : decode cX11_inNights 67 = .ok (.iadd, 1) := by decide +kernel
theorem dX11_inNights_68 : decode cX11_inNights 68 = .ok (.invokevirtual 232, 3) := by decide +kernel
theorem dX11_inNights_71 : decode cX11_inNights 71 = .ok (.iload 4, 2) := by decide +kernel
theorem dX11_inNights_73 : decode cX11_inNights 73 = .ok (.aload_n 0, 1) := by decide +kernel
theorem dX11_inNights_74 : decode cX11_inNights 74 = .ok (.getfield 69, 3) := by decide +kernel
theorem dX11_inNights_77 : decode cX11_inNights 77 = .ok (.iload_n 3, 1) := by decide +kernel
theorem dX11_inNights_78 : decode cX11_inNights 78 = .ok (.iaload, 1) := by decide +kernel
theorem dX11_inNights_79 : decode cX11_inNights 79 = .ok (.ior, 1) := by decide +kernel
theorem dX11_inNights_80 : decode cX11_inNights 80 = .ok (.istore 4, 2) := by decide +kernel
theorem dX11_inNights_82 : decode cX11_inNights 82 = .ok (.iinc 5 1, 3) := by decide +kernel
theorem dX11_inNights_85 : decode cX11_inNights 85 = .ok (.goto (-42), 3) := by decide +kernel
theorem dX11_inNights_88 : decode cX11_inNights 88 = .ok (.iload 4, 2) := by decide +kernel
theorem dX11_inNights_90 : decode cX11_inNights 90 = .ok (.ireturn, 1) := by decide +kernel
set_option maxRecDepth 20000 in
theorem ggX11_notes_X10_hasPillow : GoodIn wsX11_notes wsX10_hasPillow := goodIn_r _ [10, 11, 32, 33, 34, 35, 36] (by decide +kernel) (by decide +kernel)
set_option maxRecDepth 20000 in
theorem gX11_notes_X10_hasPillow : GoodIn wsX11_notes (wsV RX11 129 RX10 yX10_hasPillow wsX10_hasPillow) := goodIn_app (goodIn_of _ (by decide +kernel)) ggX11_notes_X10_hasPillow
set_option maxRecDepth 20000 in
theorem ggX11_notes_X11_isThing : GoodIn wsX11_notes wsX11_isThing := goodIn_r _ [15] (by decide +kernel) (by decide +kernel)
set_option maxRecDepth 20000 in
theorem gX11_notes_X11_isThing : GoodIn wsX11_notes (va_wsS RX11 123 yX11_isThing wsX11_isThing) := goodIn_app (goodIn_of _ (by decide +kernel)) ggX11_notes_X11_isThing
set_option maxRecDepth 20000 in
theorem ggX11_notes_X11_isZeroOrOne : GoodIn wsX11_notes wsX11_isZeroOrOne := goodIn_r _ [18] (by decide +kernel) (by decide +kernel)
set_option maxRecDepth 20000 in
theorem gX11_notes_X11_isZeroOrOne : GoodIn wsX11_notes (va_wsS RX11 201 yX11_isZeroOrOne wsX11_isZeroOrOne) := goodIn_app (goodIn_of _ (by decide +kernel)) ggX11_notes_X11_isZeroOrOne
theorem dX11_notes_0 : decode cX11_notes 0 = .ok (.aload_n 0, 1) := by decide +kernel
theorem dX11_notes_1 : decode cX11_notes 1 = .ok (.getfield 75, 3) := by decide +kernel
theorem dX11_notes_4 : decode cX11_notes 4 = .ok (.iload_n 1, 1) := by decide +kernel
theorem dX11_notes_5 : decode cX11_notes 5 = .ok (.invokevirtual 129, 3) := by decide +kernel
theorem dX11_notes_8 : decode cX11_notes 8 = .ok (.ifCond .eq 17, 3) := by decide +kernel
theorem dX11_notes_11 : decode cX11_notes 11 = .ok (.iload_n 2, 1) := by decide +kernel
theorem dX11_notes_12 : decode cX11_notes 12 = .ok (.invokestatic 123, 3) := by decide +kernel
theorem dX11_notes_15 : decode cX11_notes 15 = .ok (.ifCond .eq 10, 3) := by decide +kernel
theorem dX11_notes_18 : decode cX11_notes 18 = .ok (.iload_n 3, 1) := by decide +kernel
theorem dX11_notes_19 : decode cX11_notes 19 = .ok (.invokestatic 201, 3) := by decide +kernel
theorem dX11_notes_22 : decode cX11_notes 22 = .ok (.ifCond .ne 5, 3) := by decide +kernel
theorem dX11_notes_25 : decode cX11_notes 25 = .ok (.iconst (-1), 1) := by decide +kernel
theorem dX11_notes_26 : decode cX11_notes 26 = .ok (.ireturn, 1) := by decide +kernel
theorem dX11_notes_27 : decode cX11_notes 27 = .ok (.aload_n 0, 1) := by decide +kernel
theorem dX11_notes_28 : decode cX11_notes 28 = .ok (.getfield 104, 3) := by decide +kernel
theorem dX11_notes_31 : decode cX11_notes 31 = .ok (.iconst 5, 1) := by decide +kernel
theorem dX11_notes_32 : decode cX11_notes 32 = .ok (.if_icmp .lt 6, 3) := by decide +kernel
theorem dX11_notes_35 : decode cX11_notes 35 = .ok (.bipush (-3), 2) := by decide +kernel
theorem dX11_notes_37 : decode cX11_notes 37 = .ok (.ireturn, 1) := by decide +kernel
theorem dX11_notes_38 : decode cX11_notes 38 = .ok (.aload_n 0, 1) := by decide +kernel
theorem dX11_notes_39 : decode cX11_notes 39 = .ok (.getfield 59, 3) := by decide +kernel
theorem dX11_notes_42 : decode cX11_notes 42 = .ok (.aload_n 0, 1) := by decide +kernel
theorem dX11_notes_43 : decode cX11_notes 43 = .ok (.getfield 104, 3) := by decide +kernel
theorem dX11_notes_46 : decode cX11_notes 46 = .ok (.iload_n 1, 1) := by decide +kernel
theorem dX11_notes_47 : decode cX11_notes 47 = .ok (.iastore, 1) := by decide +kernel
theorem dX11_notes_48 : decode cX11_notes 48 = .ok (.aload_n 0, 1) := by decide +kernel
theorem dX11_notes_49 : decode cX11_notes 49 = .ok (.getfield 63, 3) := by decide +kernel
theorem dX11_notes_52 : decode cX11_notes 52 = .ok (.aload_n 0, 1) := by decide +kernel
theorem dX11_notes_53 : decode cX11_notes 53 = .ok (.getfield 104, 3) := by decide +kernel
theorem dX11_notes_56 : decode cX11_notes 56 = .ok (.iload_n 2, 1) := by decide +kernel
theorem dX11_notes_57 : decode cX11_notes 57 = .ok (.iastore, 1) := by decide +kernel
theorem dX11_notes_58 : decode cX11_notes 58 = .ok (.aload_n 0, 1) := by decide +kernel
theorem dX11_notes_59 : decode cX11_notes 59 = .ok (.getfield 66, 3) := by decide +kernel
theorem dX11_notes_62 : decode cX11_notes 62 = .ok (.aload_n 0, 1) := by decide +kernel
theorem dX11_notes_63 : decode cX11_notes 63 = .ok (.getfield 104, 3) := by decide +kernel
theorem dX11_notes_66 : decode cX11_notes 66 = .ok (.iload_n 3, 1) := by decide +kernel
theorem dX11_notes_67 : decode cX11_notes 67 = .ok (.iastore, 1) := by decide +kernel
theorem dX11_notes_68 : decode cX11_notes 68 = .ok (.aload_n 0, 1) := by decide +kernel
theorem dX11_notes_69 : decode cX11_notes 69 = .ok (.dup, 1) := by decide +kernel
theorem dX11_notes_70 : decode cX11_notes 70 = .ok (.getfield 104, 3) := by decide +kernel
theorem dX11_notes_73 : decode cX11_notes 73 = .ok (.iconst 1, 1) := by decide +kernel
theorem dX11_notes_74 : decode cX11_notes 74 = .ok (.iadd, 1) := by decide +kernel
theorem dX11_notes_75 : decode cX11_notes 75 = .ok (.putfield 104, 3) := by decide +kernel
theorem dX11_notes_78 : decode cX11_notes 78 = .ok (.aload_n 0, 1) := by decide +kernel
theorem dX11_notes_79 : decode cX11_notes 79 = .ok (.getfield 104, 3) := by decide +kernel
theorem dX11_notes_82 : decode cX11_notes 82 = .ok (.ireturn, 1) := by decide +kernel
theorem dX11_forget_0 : decode cX11_forget 0 = .ok (.aload_n 0, 1) := by decide +kernel
theorem dX11_forget_1 : decode cX11_forget 1 = .ok (.getfield 104, 3) := by decide +kernel
theorem dX11_forget_4 : decode cX11_forget 4 = .ok (.istore_n 1, 1) := by decide +kernel
theorem dX11_forget_5 : decode cX11_forget 5 = .ok (.aload_n 0, 1) := by decide +kernel
theorem dX11_forget_6 : decode cX11_forget 6 = .ok (.iconst 0, 1) := by decide +kernel
theorem dX11_forget_7 : decode cX11_forget 7 = .ok (.putfield 104, 3) := by decide +kernel
theorem dX11_forget_10 : decode cX11_forget 10 = .ok (.iload_n 1, 1) := by decide +kernel
theorem dX11_forget_11 : decode cX11_forget 11 = .ok (.ireturn, 1) := by decide +kernel
set_option maxRecDepth 20000 in
theorem ggX11_which_X11_isZeroOrOne : GoodIn wsX11_which wsX11_isZeroOrOne := goodIn_r _ [5] (by decide +kernel) (by decide +kernel)
set_option maxRecDepth 20000 in
theorem gX11_which_X11_isZeroOrOne : GoodIn wsX11_which (va_wsS RX11 201 yX11_isZeroOrOne wsX11_isZeroOrOne) := goodIn_app (goodIn_of _ (by decide +kernel)) ggX11_which_X11_isZeroOrOne
set_option maxRecDepth 20000 in
theorem ggX11_which_X8_nightNumber : GoodIn wsX11_which wsX8_nightNumber := goodIn_r _ [10, 11, 70] (by decide +kernel) (by decide +kernel)
set_option maxRecDepth 20000 in
theorem gX11_which_X8_nightNumber : GoodIn wsX11_which (wsV RX11 145 RX8 yX8_nightNumber wsX8_nightNumber) := goodIn_app (goodIn_of _ (by decide +kernel)) ggX11_which_X8_nightNumber
set_option maxRecDepth 20000 in
theorem ggX11_which_X11_listen : GoodIn wsX11_which wsX11_listen := goodIn_r _ [15, 16, 17, 18, 1, 19, 20, 21, 22, 23, 24, 25, 9, 26, 11, 27, 28, 29, 30, 31, 32, 33, 34, 35, 36, 37, 38, 39, 40, 41, 42, 43, 44, 45, 46, 47, 48, 57, 58, 59, 60, 61, 62, 63, 64, 65, 66, 67, 68, 69, 71, 72, 73, 74, 75, 70] (by decide +kernel) (by decide +kernel)
set_option maxRecDepth 20000 in
theorem gX11_which_X11_listen : GoodIn wsX11_which (wsV RX11 232 RX11 yX11_listen wsX11_listen) := goodIn_app (goodIn_of _ (by decide +kernel)) ggX11_which_X11_listen
set_option maxRecDepth 20000 in
theorem ggX11_which_X11_agreesWithNotes : GoodIn wsX11_which wsX11_agreesWithNotes := goodIn_r _ [52, 53, 54, 16, 55, 56, 57, 58, 59, 60, 61, 62, 63, 64, 65, 66, 67, 68, 69] (by decide +kernel) (by decide +kernel)
set_option maxRecDepth 20000 in
theorem gX11_which_X11_agreesWithNotes : GoodIn wsX11_which (wsV RX11 235 RX11 yX11_agreesWithNotes wsX11_agreesWithNotes) := goodIn_app (goodIn_of _ (by decide +kernel)) ggX11_which_X11_agreesWithNotes
theorem dX11_which_0 : decode cX11_which 0 = .ok (.iload_n 1, 1) := by decide +kernel
theorem dX11_which_1 : decode cX11_which 1 = .ok (.invokestatic 201, 3) := by decide +kernel
theorem dX11_which_4 : decode cX11_which 4 = .ok (.ifCond .ne 5, 3) := by decide +kernel
theorem dX11_which_7 : decode cX11_which 7 = .ok (.iconst (-1), 1) := by decide +kernel
theorem dX11_which_8 : decode cX11_which 8 = .ok (.ireturn, 1) := by decide +kernel
theorem dX11_which_9 : decode cX11_which 9 = .ok (.iconst 0, 1) := by decide +kernel
theorem dX11_which_10 : decode cX11_which 10 = .ok (.istore_n 2, 1) := by decide +kernel
theorem dX11_which_11 : decode cX11_which 11 = .ok (.bipush (-9), 2) := by decide +kernel
theorem dX11_which_13 : decode cX11_which 13 = .ok (.istore_n 3, 1) := by decide +kernel
theorem dX11_which_14 : decode cX11_which 14 = .ok (.iconst 0, 1) := by decide +kernel
theorem dX11_which_15 : decode cX11_which 15 = .ok (.istore 4, 2) := by decide +kernel
theorem dX11_which_17 : decode cX11_which 17 = .ok (.iload 4, 2) := by decide +kernel
theorem dX11_which_19 : decode cX11_which 19 = .ok (.sipush 500, 3) := by decide +kernel
theorem dX11_which_22 : decode cX11_which 22 = .ok (.if_icmp .ge 45, 3) := by decide +kernel
theorem dX11_which_25 : decode cX11_which 25 = .ok (.aload_n 0, 1) := by decide +kernel
theorem dX11_which_26 : decode cX11_which 26 = .ok (.iload 4, 2) := by decide +kernel
theorem dX11_which_28 : decode cX11_which 28 = .ok (.aload_n 0, 1) := by decide +kernel
theorem dX11_which_29 : decode cX11_which 29 = .ok (.getfield 19, 3) := by decide +kernel
theorem dX11_which_32 : decode cX11_which 32 = .ok (.invokevirtual 145, 3) := by decide +kernel
theorem dX11_which_35 : decode cX11_which 35 = .ok (.invokevirtual 232, 3) := by decide +kernel
theorem dX11_which_38 : decode cX11_which 38 = .ok (.aload_n 0, 1) := by decide +kernel
theorem dX11_which_39 : decode cX11_which 39 = .ok (.invokevirtual 235, 3) := by decide +kernel
theorem dX11_which_42 : decode cX11_which 42 = .ok (.ifCond .eq 19, 3) := by decide +kernel
theorem dX11_which_45 : decode cX11_which 45 = .ok (.iinc 2 1, 3) := by decide +kernel
theorem dX11_which_48 : decode cX11_which 48 = .ok (.iload_n 3, 1) := by decide +kernel
theorem dX11_which_49 : decode cX11_which 49 = .ok (.bipush (-9), 2) := by decide +kernel
theorem dX11_which_51 : decode cX11_which 51 = .ok (.if_icmp .ne 8, 3) := by decide +kernel
theorem dX11_which_54 : decode cX11_which 54 = .ok (.iload 4, 2) := by decide +kernel
theorem dX11_which_56 : decode cX11_which 56 = .ok (.goto 4, 3) := by decide +kernel
theorem dX11_which_59 : decode cX11_which 59 = .ok (.iload_n 3, 1) := by decide +kernel
theorem dX11_which_60 : decode cX11_which 60 = .ok (.istore_n 3, 1) := by decide +kernel
theorem dX11_which_61 : decode cX11_which 61 = .ok (.iinc 4 1, 3) := by decide +kernel
theorem dX11_which_64 : decode cX11_which 64 = .ok (.goto (-47), 3) := by decide +kernel
theorem dX11_which_67 : decode cX11_which 67 = .ok (.iload_n 1, 1) := by decide +kernel
theorem dX11_which_68 : decode cX11_which 68 = .ok (.ifCond .ne 7, 3) := by decide +kernel
theorem dX11_which_71 : decode cX11_which 71 = .ok (.iload_n 2, 1) := by decide +kernel
theorem dX11_which_72 : decode cX11_which 72 = .ok (.goto 4, 3) := by decide +kernel
theorem dX11_which_75 : decode cX11_which 75 = .ok (.iload_n 3, 1) := by decide +kernel
theorem dX11_which_76 : decode cX11_which 76 = .ok (.ireturn, 1) := by decide +kernel
set_option maxRecDepth 20000 in
theorem ggX11_odds_X10_hasPerson : GoodIn wsX11_odds wsX10_hasPerson := goodIn_r _ [9, 10, 44, 45, 46, 47, 48] (by decide +kernel) (by decide +kernel)
set_option maxRecDepth 20000 in
theorem gX11_odds_X10_hasPerson : GoodIn wsX11_odds (wsV RX11 107 RX10 yX10_hasPerson wsX10_hasPerson) := goodIn_app (goodIn_of _ (by decide +kernel)) ggX11_odds_X10_hasPerson
set_option maxRecDepth 20000 in
theorem ggX11_odds_X11_isThing : GoodIn wsX11_odds wsX11_isThing := goodIn_r _ [14] (by decide +kernel) (by decide +kernel)
set_option maxRecDepth 20000 in
theorem gX11_odds_X11_isThing : GoodIn wsX11_odds (va_wsS RX11 123 yX11_isThing wsX11_isThing) := goodIn_app (goodIn_of _ (by decide +kernel)) ggX11_odds_X11_isThing
set_option maxRecDepth 20000 in
theorem ggX11_odds_X11_isZeroOrOne : GoodIn wsX11_odds wsX11_isZeroOrOne := goodIn_r _ [17] (by decide +kernel) (by decide +kernel)
set_option maxRecDepth 20000 in
theorem gX11_odds_X11_isZeroOrOne : GoodIn wsX11_odds (va_wsS RX11 201 yX11_isZeroOrOne wsX11_isZeroOrOne) := goodIn_app (goodIn_of _ (by decide +kernel)) ggX11_odds_X11_isZeroOrOne
set_option maxRecDepth 20000 in
theorem ggX11_odds_J6_bitCount_0f7a4 : GoodIn wsX11_odds wsJ6_bitCount_0f7a4 := goodIn_r _ [21, 22, 23, 24] (by decide +kernel) (by decide +kernel)
set_option maxRecDepth 20000 in
theorem gX11_odds_J6_bitCount_0f7a4 : GoodIn wsX11_odds (va_wsS RX11 182 yJ6_bitCount_0f7a4 wsJ6_bitCount_0f7a4) := goodIn_app (goodIn_of _ (by decide +kernel)) ggX11_odds_J6_bitCount_0f7a4
set_option maxRecDepth 20000 in
theorem ggX11_odds_X11_commonDivisor : GoodIn wsX11_odds wsX11_commonDivisor := goodIn_r _ [27] (by decide +kernel) (by decide +kernel)
set_option maxRecDepth 20000 in
theorem gX11_odds_X11_commonDivisor : GoodIn wsX11_odds (va_wsS RX11 241 yX11_commonDivisor wsX11_commonDivisor) := goodIn_app (goodIn_of _ (by decide +kernel)) ggX11_odds_X11_commonDivisor
set_option maxRecDepth 20000 in
theorem ggX11_odds_X11_power : GoodIn wsX11_odds wsX11_power := goodIn_r _ [30] (by decide +kernel) (by decide +kernel)
set_option maxRecDepth 20000 in
theorem gX11_odds_X11_power : GoodIn wsX11_odds (va_wsS RX11 244 yX11_power wsX11_power) := goodIn_app (goodIn_of _ (by decide +kernel)) ggX11_odds_X11_power
theorem dX11_odds_0 : decode cX11_odds 0 = .ok (.aload_n 0, 1) := by decide +kernel
theorem dX11_odds_1 : decode cX11_odds 1 = .ok (.getfield 75, 3) := by decide +kernel
theorem dX11_odds_4 : decode cX11_odds 4 = .ok (.iload_n 1, 1) := by decide +kernel
theorem dX11_odds_5 : decode cX11_odds 5 = .ok (.invokevirtual 107, 3) := by decide +kernel
theorem dX11_odds_8 : decode cX11_odds 8 = .ok (.ifCond .eq 27, 3) := by decide +kernel
theorem dX11_odds_11 : decode cX11_odds 11 = .ok (.iload_n 2, 1) := by decide +kernel
theorem dX11_odds_12 : decode cX11_odds 12 = .ok (.invokestatic 123, 3) := by decide +kernel
theorem dX11_odds_15 : decode cX11_odds 15 = .ok (.ifCond .eq 20, 3) := by decide +kernel
theorem dX11_odds_18 : decode cX11_odds 18 = .ok (.iload_n 3, 1) := by decide +kernel
theorem dX11_odds_19 : decode cX11_odds 19 = .ok (.ifCond .lt 16, 3) := by decide +kernel
theorem dX11_odds_22 : decode cX11_odds 22 = .ok (.iload_n 3, 1) := by decide +kernel
theorem dX11_odds_23 : decode cX11_odds 23 = .ok (.iconst 5, 1) := by decide +kernel
theorem dX11_odds_24 : decode cX11_odds 24 = .ok (.if_icmp .gt 11, 3) := by decide +kernel
theorem dX11_odds_27 : decode cX11_odds 27 = .ok (.iload 4, 2) := by decide +kernel
theorem dX11_odds_29 : decode cX11_odds 29 = .ok (.invokestatic 201, 3) := by decide +kernel
theorem dX11_odds_32 : decode cX11_odds 32 = .ok (.ifCond .ne 7, 3) := by decide +kernel
theorem dX11_odds_35 : decode cX11_odds 35 = .ok (.ldc2_w 239, 3) := by decide +kernel
theorem dX11_odds_38 : decode cX11_odds 38 = .ok (.lreturn, 1) := by decide +kernel
theorem dX11_odds_39 : decode cX11_odds 39 = .ok (.bipush 10, 2) := by decide +kernel
theorem dX11_odds_41 : decode cX11_odds 41 = .ok (.aload_n 0, 1) := by decide +kernel
theorem dX11_odds_42 : decode cX11_odds 42 = .ok (.getfield 75, 3) := by decide +kernel
theorem dX11_odds_45 : decode cX11_odds 45 = .ok (.getfield 110, 3) := by decide +kernel
theorem dX11_odds_48 : decode cX11_odds 48 = .ok (.iload_n 1, 1) := by decide +kernel
theorem dX11_odds_49 : decode cX11_odds 49 = .ok (.iaload, 1) := by decide +kernel
theorem dX11_odds_50 : decode cX11_odds 50 = .ok (.invokestatic 182, 3) := by decide +kernel
theorem dX11_odds_53 : decode cX11_odds 53 = .ok (.imul, 1) := by decide +kernel
theorem dX11_odds_54 : decode cX11_odds 54 = .ok (.istore 5, 2) := by decide +kernel
theorem dX11_odds_56 : decode cX11_odds 56 = .ok (.aload_n 0, 1) := by decide +kernel
theorem dX11_odds_57 : decode cX11_odds 57 = .ok (.getfield 75, 3) := by decide +kernel
theorem dX11_odds_60 : decode cX11_odds 60 = .ok (.getfield 110, 3) := by decide +kernel
theorem dX11_odds_63 : decode cX11_odds 63 = .ok (.iload_n 1, 1) := by decide +kernel
theorem dX11_odds_64 : decode cX11_odds 64 = .ok (.iaload, 1) := by decide +kernel
theorem dX11_odds_65 : decode cX11_odds 65 = .ok (.iload_n 2, 1) := by decide +kernel
theorem dX11_odds_66 : decode cX11_odds 66 = .ok (.ishr, 1) := by decide +kernel
theorem dX11_odds_67 : decode cX11_odds 67 = .ok (.iconst 1, 1) := by decide +kernel
theorem dX11_odds_68 : decode cX11_odds 68 = .ok (.iand, 1) := by decide +kernel
theorem dX11_odds_69 : decode cX11_odds 69 = .ok (.ifCond .eq 8, 3) := by decide +kernel
theorem dX11_odds_72 : decode cX11_odds 72 = .ok (.iload 5, 2) := by decide +kernel
theorem dX11_odds_74 : decode cX11_odds 74 = .ok (.ifCond .ne 7, 3) := by decide +kernel
theorem dX11_odds_77 : decode cX11_odds 77 = .ok (.iload 4, 2) := by decide +kernel
theorem dX11_odds_79 : decode cX11_odds 79 = .ok (.i2l, 1) := by decide +kernel
theorem dX11_odds_80 : decode cX11_odds 80 = .ok (.lreturn, 1) := by decide +kernel
theorem dX11_odds_81 : decode cX11_odds 81 = .ok (.iload 5, 2) := by decide +kernel
theorem dX11_odds_83 : decode cX11_odds 83 = .ok (.aload_n 0, 1) := by decide +kernel
theorem dX11_odds_84 : decode cX11_odds 84 = .ok (.getfield 75, 3) := by decide +kernel
theorem dX11_odds_87 : decode cX11_odds 87 = .ok (.getfield 113, 3) := by decide +kernel
theorem dX11_odds_90 : decode cX11_odds 90 = .ok (.iload_n 1, 1) := by decide +kernel
theorem dX11_odds_91 : decode cX11_odds 91 = .ok (.iaload, 1) := by decide +kernel
theorem dX11_odds_92 : decode cX11_odds 92 = .ok (.isub, 1) := by decide +kernel
theorem dX11_odds_93 : decode cX11_odds 93 = .ok (.istore 6, 2) := by decide +kernel
theorem dX11_odds_95 : decode cX11_odds 95 = .ok (.iload 5, 2) := by decide +kernel
theorem dX11_odds_97 : decode cX11_odds 97 = .ok (.iload 6, 2) := by decide +kernel
theorem dX11_odds_99 : decode cX11_odds 99 = .ok (.invokestatic 241, 3) := by decide +kernel
theorem dX11_odds_102 : decode cX11_odds 102 = .ok (.istore 7, 2) := by decide +kernel
theorem dX11_odds_104 : decode cX11_odds 104 = .ok (.iload 5, 2) := by decide +kernel
theorem dX11_odds_106 : decode cX11_odds 106 = .ok (.iload 7, 2) := by decide +kernel
theorem dX11_odds_108 : decode cX11_odds 108 = .ok (.idiv, 1) := by decide +kernel
theorem dX11_odds_109 : decode cX11_odds 109 = .ok (.iload_n 3, 1) := by decide +kernel
theorem dX11_odds_110 : decode cX11_odds 110 = .ok (.invokestatic 244, 3) := by decide +kernel
theorem dX11_odds_113 : decode cX11_odds 113 = .ok (.lstore 8, 2) := by decide +kernel
theorem dX11_odds_115 : decode cX11_odds 115 = .ok (.iload 4, 2) := by decide +kernel
theorem dX11_odds_117 : decode cX11_odds 117 = .ok (.ifCond .ne 18, 3) := by decide +kernel
theorem dX11_odds_120 : decode cX11_odds 120 = .ok (.lload 8, 2) := by decide +kernel
theorem dX11_odds_122 : decode cX11_odds 122 = .ok (.iload 6, 2) := by decide +kernel
theorem dX11_odds_124 : decode cX11_odds 124 = .ok (.iload 7, 2) := by decide +kernel
theorem dX11_odds_126 : decode cX11_odds 126 = .ok (.idiv, 1) := by decide +kernel
theorem dX11_odds_127 : decode cX11_odds 127 = .ok (.iload_n 3, 1) := by decide +kernel
theorem dX11_odds_128 : decode cX11_odds 128 = .ok (.invokestatic 244, 3) := by decide +kernel
theorem dX11_odds_131 : decode cX11_odds 131 = .ok (.lsub, 1) := by decide +kernel
theorem dX11_odds_132 : decode cX11_odds 132 = .ok (.goto 5, 3) := by decide +kernel
theorem dX11_odds_135 : decode cX11_odds 135 = .ok (.lload 8, 2) := by decide +kernel
theorem dX11_odds_137 : decode cX11_odds 137 = .ok (.lreturn, 1) := by decide +kernel
set_option maxRecDepth 20000 in
theorem ggX11_rate_X10_hasPillow : GoodIn wsX11_rate wsX10_hasPillow := goodIn_r _ [11, 12, 122, 123, 124, 125, 126] (by decide +kernel) (by decide +kernel)
set_option maxRecDepth 20000 in
theorem gX11_rate_X10_hasPillow : GoodIn wsX11_rate (wsV RX11 129 RX10 yX10_hasPillow wsX10_hasPillow) := goodIn_app (goodIn_of _ (by decide +kernel)) ggX11_rate_X10_hasPillow
set_option maxRecDepth 20000 in
theorem ggX11_rate_X1_rating : GoodIn wsX11_rate wsX1_rating := goodIn_r _ [19, 20, 21, 22, 23, 14, 24, 25, 26, 27, 28, 29, 30, 31, 32, 33, 34, 35, 36, 37, 38, 39, 40, 41, 42, 43, 44, 45, 46, 47, 48, 49, 116, 117, 118, 119, 120, 121, 127] (by decide +kernel) (by decide +kernel)
set_option maxRecDepth 20000 in
theorem gX11_rate_X1_rating_u253X1 : GoodIn wsX11_rate (va_wsO RX11 253 RX1 "PillowCourt$KindPillow" ⟨"PillowCourt$KindPillow", "rating", "(LPillowCourt$Scene;I)I"⟩ yX1_rating wsX1_rating) := goodIn_app (goodIn_of _ (by decide +kernel)) ggX11_rate_X1_rating
set_option maxRecDepth 20000 in
theorem ggX11_rate_X2_rating : GoodIn wsX11_rate wsX2_rating := goodIn_r _ [53, 54, 55, 56, 57, 14, 58, 25, 26, 27, 28, 29, 30, 31, 32, 33, 34, 35, 36, 37, 38, 39, 40, 41, 42, 43, 44, 45, 59, 60, 61, 62, 63, 64, 65, 66, 67, 116, 117, 118, 119, 120, 121, 127] (by decide +kernel) (by decide +kernel)
set_option maxRecDepth 20000 in
theorem gX11_rate_X2_rating_u253X2 : GoodIn wsX11_rate (va_wsO RX11 253 RX2 "PillowCourt$KindPillow" ⟨"PillowCourt$KindPillow", "rating", "(LPillowCourt$Scene;I)I"⟩ yX2_rating wsX2_rating) := goodIn_app (goodIn_of _ (by decide +kernel)) ggX11_rate_X2_rating
set_option maxRecDepth 20000 in
theorem ggX11_rate_X3_rating : GoodIn wsX11_rate wsX3_rating := goodIn_r _ [71, 72, 73, 74, 75, 14, 76, 25, 26, 27, 28, 29, 30, 31, 32, 33, 34, 35, 36, 37, 38, 39, 40, 41, 42, 43, 44, 45, 77, 78, 79, 80, 116, 117, 118, 119, 120, 121, 127] (by decide +kernel) (by decide +kernel)
set_option maxRecDepth 20000 in
theorem gX11_rate_X3_rating_u253X3 : GoodIn wsX11_rate (va_wsO RX11 253 RX3 "PillowCourt$KindPillow" ⟨"PillowCourt$KindPillow", "rating", "(LPillowCourt$Scene;I)I"⟩ yX3_rating wsX3_rating) := goodIn_app (goodIn_of _ (by decide +kernel)) ggX11_rate_X3_rating
set_option maxRecDepth 20000 in
theorem ggX11_rate_X4_rating : GoodIn wsX11_rate wsX4_rating := goodIn_r _ [84, 85, 86, 87, 88, 89, 90, 69, 70, 71, 72, 73, 74, 75, 14, 76, 25, 26, 27, 28, 29, 30, 31, 32, 33, 34, 35, 36, 37, 38, 39, 40, 41, 42, 43, 44, 45, 77, 78, 79, 80, 116, 117, 118, 119, 120, 121, 127] (by decide +kernel) (by decide +kernel)
set_option maxRecDepth 20000 in
theorem gX11_rate_X4_rating_u253X4 : GoodIn wsX11_rate (va_wsO RX11 253 RX4 "PillowCourt$KindPillow" ⟨"PillowCourt$KindPillow", "rating", "(LPillowCourt$Scene;I)I"⟩ yX4_rating wsX4_rating) := goodIn_app (goodIn_of _ (by decide +kernel)) ggX11_rate_X4_rating
set_option maxRecDepth 20000 in
theorem ggX11_rate_X5_rating : GoodIn wsX11_rate wsX5_rating := goodIn_r _ [94, 95, 96, 97, 98, 99, 100, 51, 52, 53, 54, 55, 56, 57, 14, 58, 25, 26, 27, 28, 29, 30, 31, 32, 33, 34, 35, 36, 37, 38, 39, 40, 41, 42, 43, 44, 45, 59, 60, 61, 62, 63, 64, 65, 66, 67, 116, 117, 118, 119, 120, 121, 127] (by decide +kernel) (by decide +kernel)
set_option maxRecDepth 20000 in
theorem gX11_rate_X5_rating_u253X5 : GoodIn wsX11_rate (va_wsO RX11 253 RX5 "PillowCourt$KindPillow" ⟨"PillowCourt$KindPillow", "rating", "(LPillowCourt$Scene;I)I"⟩ yX5_rating wsX5_rating) := goodIn_app (goodIn_of _ (by decide +kernel)) ggX11_rate_X5_rating
set_option maxRecDepth 20000 in
theorem ggX11_rate_X6_rating : GoodIn wsX11_rate wsX6_rating := goodIn_r _ [27, 28, 29, 30, 31, 32, 33, 34, 35, 36, 37, 38, 39, 40, 41, 42, 43, 44, 45, 116, 117, 118, 119, 120, 121, 127] (by decide +kernel) (by decide +kernel)
set_option maxRecDepth 20000 in
theorem gX11_rate_X6_rating : GoodIn wsX11_rate (wsV RX11 253 RX6 yX6_rating wsX6_rating) := goodIn_app (goodIn_of _ (by decide +kernel)) ggX11_rate_X6_rating
end
section
theorem dX11_rate_0 : decode cX11_rate 0 = .ok (.iload_n 1, 1) := by decide +kernel
theorem dX11_rate_1 : decode cX11_rate 1 = .ok (.ifCond .lt 23, 3) := by decide +kernel
theorem dX11_rate_4 : decode cX11_rate 4 = .ok (.iload_n 1, 1) := by decide +kernel
theorem dX11_rate_5 : decode cX11_rate 5 = .ok (.aload_n 0, 1) := by decide +kernel
theorem dX11_rate_6 : decode cX11_rate 6 = .ok (.getfield 55, 3) := by decide +kernel
theorem dX11_rate_9 : decode cX11_rate 9 = .ok (.arraylength, 1) := by decide +kernel
theorem dX11_rate_10 : decode cX11_rate 10 = .ok (.if_icmp .ge 14, 3) := by decide +kernel
theorem dX11_rate_13 : decode cX11_rate 13 = .ok (.aload_n 0, 1) := by decide +kernel
theorem dX11_rate_14 : decode cX11_rate 14 = .ok (.getfield 75, 3) := by decide +kernel
theorem dX11_rate_17 : decode cX11_rate 17 = .ok (.iload_n 2, 1) := by decide +kernel
theorem dX11_rate_18 : decode cX11_rate 18 = .ok (.invokevirtual 129, 3) := by decide +kernel
theorem dX11_rate_21 : decode cX11_rate 21 = .ok (.ifCond .ne 6, 3) := by decide +kernel
theorem dX11_rate_24 : decode cX11_rate 24 = .ok (.ldc 248, 2) := by decide +kernel
theorem dX11_rate_26 : decode cX11_rate 26 = .ok (.ireturn, 1) := by decide +kernel
theorem dX11_rate_27 : decode cX11_rate 27 = .ok (.aload_n 0, 1) := by decide +kernel
theorem dX11_rate_28 : decode cX11_rate 28 = .ok (.getfield 55, 3) := by decide +kernel
theorem dX11_rate_31 : decode cX11_rate 31 = .ok (.iload_n 1, 1) := by decide +kernel
theorem dX11_rate_32 : decode cX11_rate 32 = .ok (.aaload, 1) := by decide +kernel
theorem dX11_rate_33 : decode cX11_rate 33 = .ok (.astore_n 3, 1) := by decide +kernel
theorem dX11_rate_34 : decode cX11_rate 34 = .ok (.aload_n 3, 1) := by decide +kernel
theorem dX11_rate_35 : decode cX11_rate 35 = .ok (.ifnonnull 6, 3) := by decide +kernel
theorem dX11_rate_38 : decode cX11_rate 38 = .ok (.ldc 248, 2) := by decide +kernel
theorem dX11_rate_40 : decode cX11_rate 40 = .ok (.ireturn, 1) := by decide +kernel
theorem dX11_rate_41 : decode cX11_rate 41 = .ok (.aload_n 3, 1) := by decide +kernel
theorem dX11_rate_42 : decode cX11_rate 42 = .ok (.lconst 0, 1) := by decide +kernel
theorem dX11_rate_43 : decode cX11_rate 43 = .ok (.putfield 249, 3) := by decide +kernel
theorem dX11_rate_46 : decode cX11_rate 46 = .ok (.aload_n 3, 1) := by decide +kernel
theorem dX11_rate_47 : decode cX11_rate 47 = .ok (.aload_n 0, 1) := by decide +kernel
theorem dX11_rate_48 : decode cX11_rate 48 = .ok (.getfield 19, 3) := by decide +kernel
theorem dX11_rate_51 : decode cX11_rate 51 = .ok (.iload_n 2, 1) := by decide +kernel
theorem dX11_rate_52 : decode cX11_rate 52 = .ok (.invokevirtual 253, 3) := by decide +kernel
theorem dX11_rate_55 : decode cX11_rate 55 = .ok (.istore 4, 2) := by decide +kernel
theorem dX11_rate_57 : decode cX11_rate 57 = .ok (.aload_n 0, 1) := by decide +kernel
theorem dX11_rate_58 : decode cX11_rate 58 = .ok (.dup, 1) := by decide +kernel
theorem dX11_rate_59 : decode cX11_rate 59 = .ok (.getfield 257, 3) := by decide +kernel
theorem dX11_rate_62 : decode cX11_rate 62 = .ok (.aload_n 3, 1) := by decide +kernel
theorem dX11_rate_63 : decode cX11_rate 63 = .ok (.getfield 249, 3) := by decide +kernel
theorem dX11_rate_66 : decode cX11_rate 66 = .ok (.ladd, 1) := by decide +kernel
theorem dX11_rate_67 : decode cX11_rate 67 = .ok (.putfield 257, 3) := by decide +kernel
theorem dX11_rate_70 : decode cX11_rate 70 = .ok (.iload 4, 2) := by decide +kernel
theorem dX11_rate_72 : decode cX11_rate 72 = .ok (.ireturn, 1) := by decide +kernel
set_option maxRecDepth 20000 in
theorem ggX11_keep_X11_isZeroOrOne : GoodIn wsX11_keep wsX11_isZeroOrOne := goodIn_r _ [6] (by decide +kernel) (by decide +kernel)
set_option maxRecDepth 20000 in
theorem gX11_keep_X11_isZeroOrOne : GoodIn wsX11_keep (va_wsS RX11 201 yX11_isZeroOrOne wsX11_isZeroOrOne) := goodIn_app (goodIn_of _ (by decide +kernel)) ggX11_keep_X11_isZeroOrOne
set_option maxRecDepth 20000 in
theorem ggX11_keep_X9_keepImage : GoodIn wsX11_keep wsX9_keepImage := goodIn_r _ [11, 12, 13, 14, 15, 16, 17, 18, 38, 39, 40, 41, 42, 43] (by decide +kernel) (by decide +kernel)
set_option maxRecDepth 20000 in
theorem gX11_keep_X9_keepImage : GoodIn wsX11_keep (wsV RX11 260 RX9 yX9_keepImage wsX9_keepImage) := goodIn_app (goodIn_of _ (by decide +kernel)) ggX11_keep_X9_keepImage
set_option maxRecDepth 20000 in
theorem ggX11_keep_X8_nightNumber : GoodIn wsX11_keep wsX8_nightNumber := goodIn_r _ [23, 24, 38] (by decide +kernel) (by decide +kernel)
set_option maxRecDepth 20000 in
theorem gX11_keep_X8_nightNumber : GoodIn wsX11_keep (wsV RX11 145 RX8 yX8_nightNumber wsX8_nightNumber) := goodIn_app (goodIn_of _ (by decide +kernel)) ggX11_keep_X8_nightNumber
theorem dX11_keep_0 : decode cX11_keep 0 = .ok (.iload_n 1, 1) := by decide +kernel
theorem dX11_keep_1 : decode cX11_keep 1 = .ok (.invokestatic 201, 3) := by decide +kernel
theorem dX11_keep_4 : decode cX11_keep 4 = .ok (.ifCond .ne 5, 3) := by decide +kernel
theorem dX11_keep_7 : decode cX11_keep 7 = .ok (.iconst (-1), 1) := by decide +kernel
theorem dX11_keep_8 : decode cX11_keep 8 = .ok (.ireturn, 1) := by decide +kernel
theorem dX11_keep_9 : decode cX11_keep 9 = .ok (.aload_n 0, 1) := by decide +kernel
theorem dX11_keep_10 : decode cX11_keep 10 = .ok (.getfield 26, 3) := by decide +kernel
theorem dX11_keep_13 : decode cX11_keep 13 = .ok (.iload_n 1, 1) := by decide +kernel
theorem dX11_keep_14 : decode cX11_keep 14 = .ok (.aload_n 0, 1) := by decide +kernel
theorem dX11_keep_15 : decode cX11_keep 15 = .ok (.getfield 19, 3) := by decide +kernel
theorem dX11_keep_18 : decode cX11_keep 18 = .ok (.invokevirtual 260, 3) := by decide +kernel
theorem dX11_keep_21 : decode cX11_keep 21 = .ok (.aload_n 0, 1) := by decide +kernel
theorem dX11_keep_22 : decode cX11_keep 22 = .ok (.getfield 19, 3) := by decide +kernel
theorem dX11_keep_25 : decode cX11_keep 25 = .ok (.invokevirtual 145, 3) := by decide +kernel
theorem dX11_keep_28 : decode cX11_keep 28 = .ok (.ireturn, 1) := by decide +kernel
set_option maxRecDepth 20000 in
theorem ggX11_back_X11_isZeroOrOne : GoodIn wsX11_back wsX11_isZeroOrOne := goodIn_r _ [6] (by decide +kernel) (by decide +kernel)
set_option maxRecDepth 20000 in
theorem gX11_back_X11_isZeroOrOne : GoodIn wsX11_back (va_wsS RX11 201 yX11_isZeroOrOne wsX11_isZeroOrOne) := goodIn_app (goodIn_of _ (by decide +kernel)) ggX11_back_X11_isZeroOrOne
set_option maxRecDepth 20000 in
theorem ggX11_back_X9_restoreImage : GoodIn wsX11_back wsX9_restoreImage := goodIn_r _ [11, 12, 13, 14, 15, 16, 17, 18, 19, 39, 40, 41, 42, 43, 44] (by decide +kernel) (by decide +kernel)
set_option maxRecDepth 20000 in
theorem gX11_back_X9_restoreImage : GoodIn wsX11_back (wsV RX11 264 RX9 yX9_restoreImage wsX9_restoreImage) := goodIn_app (goodIn_of _ (by decide +kernel)) ggX11_back_X9_restoreImage
set_option maxRecDepth 20000 in
theorem ggX11_back_X8_nightNumber : GoodIn wsX11_back wsX8_nightNumber := goodIn_r _ [24, 25, 44] (by decide +kernel) (by decide +kernel)
set_option maxRecDepth 20000 in
theorem gX11_back_X8_nightNumber : GoodIn wsX11_back (wsV RX11 145 RX8 yX8_nightNumber wsX8_nightNumber) := goodIn_app (goodIn_of _ (by decide +kernel)) ggX11_back_X8_nightNumber
theorem dX11_back_0 : decode cX11_back 0 = .ok (.iload_n 1, 1) := by decide +kernel
theorem dX11_back_1 : decode cX11_back 1 = .ok (.invokestatic 201, 3) := by decide +kernel
theorem dX11_back_4 : decode cX11_back 4 = .ok (.ifCond .ne 5, 3) := by decide +kernel
theorem dX11_back_7 : decode cX11_back 7 = .ok (.iconst (-1), 1) := by decide +kernel
theorem dX11_back_8 : decode cX11_back 8 = .ok (.ireturn, 1) := by decide +kernel
theorem dX11_back_9 : decode cX11_back 9 = .ok (.aload_n 0, 1) := by decide +kernel
theorem dX11_back_10 : decode cX11_back 10 = .ok (.getfield 26, 3) := by decide +kernel
theorem dX11_back_13 : decode cX11_back 13 = .ok (.iload_n 1, 1) := by decide +kernel
theorem dX11_back_14 : decode cX11_back 14 = .ok (.aload_n 0, 1) := by decide +kernel
theorem dX11_back_15 : decode cX11_back 15 = .ok (.getfield 19, 3) := by decide +kernel
theorem dX11_back_18 : decode cX11_back 18 = .ok (.invokevirtual 264, 3) := by decide +kernel
theorem dX11_back_21 : decode cX11_back 21 = .ok (.ifCond .eq 13, 3) := by decide +kernel
theorem dX11_back_24 : decode cX11_back 24 = .ok (.aload_n 0, 1) := by decide +kernel
theorem dX11_back_25 : decode cX11_back 25 = .ok (.getfield 19, 3) := by decide +kernel
theorem dX11_back_28 : decode cX11_back 28 = .ok (.invokevirtual 145, 3) := by decide +kernel
theorem dX11_back_31 : decode cX11_back 31 = .ok (.goto 5, 3) := by decide +kernel
theorem dX11_back_34 : decode cX11_back 34 = .ok (.bipush (-2), 2) := by decide +kernel
theorem dX11_back_36 : decode cX11_back 36 = .ok (.ireturn, 1) := by decide +kernel
theorem dX11_count_0 : decode cX11_count 0 = .ok (.iload_n 1, 1) := by decide +kernel
theorem dX11_count_1 : decode cX11_count 1 = .ok (.tableswitch 60 0 3 #[31, 39, 47, 52], 31) := by decide +kernel
theorem dX11_count_32 : decode cX11_count 32 = .ok (.aload_n 0, 1) := by decide +kernel
theorem dX11_count_33 : decode cX11_count 33 = .ok (.getfield 75, 3) := by decide +kernel
theorem dX11_count_36 : decode cX11_count 36 = .ok (.getfield 204, 3) := by decide +kernel
theorem dX11_count_39 : decode cX11_count 39 = .ok (.ireturn, 1) := by decide +kernel
theorem dX11_count_40 : decode cX11_count 40 = .ok (.aload_n 0, 1) := by decide +kernel
theorem dX11_count_41 : decode cX11_count 41 = .ok (.getfield 75, 3) := by decide +kernel
theorem dX11_count_44 : decode cX11_count 44 = .ok (.getfield 226, 3) := by decide +kernel
theorem dX11_count_47 : decode cX11_count 47 = .ok (.ireturn, 1) := by decide +kernel
theorem dX11_count_48 : decode cX11_count 48 = .ok (.aload_n 0, 1) := by decide +kernel
theorem dX11_count_49 : decode cX11_count 49 = .ok (.getfield 104, 3) := by decide +kernel
theorem dX11_count_52 : decode cX11_count 52 = .ok (.ireturn, 1) := by decide +kernel
theorem dX11_count_53 : decode cX11_count 53 = .ok (.aload_n 0, 1) := by decide +kernel
theorem dX11_count_54 : decode cX11_count 54 = .ok (.getfield 12, 3) := by decide +kernel
theorem dX11_count_57 : decode cX11_count 57 = .ok (.getfield 90, 3) := by decide +kernel
theorem dX11_count_60 : decode cX11_count 60 = .ok (.ireturn, 1) := by decide +kernel
theorem dX11_count_61 : decode cX11_count 61 = .ok (.iconst (-1), 1) := by decide +kernel
theorem dX11_count_62 : decode cX11_count 62 = .ok (.ireturn, 1) := by decide +kernel
theorem dX11_trace_0 : decode cX11_trace 0 = .ok (.aload_n 0, 1) := by decide +kernel
theorem dX11_trace_1 : decode cX11_trace 1 = .ok (.getfield 257, 3) := by decide +kernel
theorem dX11_trace_4 : decode cX11_trace 4 = .ok (.lreturn, 1) := by decide +kernel
theorem dX11_isThing_0 : decode cX11_isThing 0 = .ok (.iload_n 0, 1) := by decide +kernel
theorem dX11_isThing_1 : decode cX11_isThing 1 = .ok (.ifCond .lt 13, 3) := by decide +kernel
theorem dX11_isThing_4 : decode cX11_isThing 4 = .ok (.iload_n 0, 1) := by decide +kernel
theorem dX11_isThing_5 : decode cX11_isThing 5 = .ok (.bipush 7, 2) := by decide +kernel
theorem dX11_isThing_7 : decode cX11_isThing 7 = .ok (.if_icmp .ge 7, 3) := by decide +kernel
theorem dX11_isThing_10 : decode cX11_isThing 10 = .ok (.iconst 1, 1) := by decide +kernel
theorem dX11_isThing_11 : decode cX11_isThing 11 = .ok (.goto 4, 3) := by decide +kernel
theorem dX11_isThing_14 : decode cX11_isThing 14 = .ok (.iconst 0, 1) := by decide +kernel
theorem dX11_isThing_15 : decode cX11_isThing 15 = .ok (.ireturn, 1) := by decide +kernel
theorem dX11_isDraw_0 : decode cX11_isDraw 0 = .ok (.iload_n 0, 1) := by decide +kernel
theorem dX11_isDraw_1 : decode cX11_isDraw 1 = .ok (.ifCond .lt 14, 3) := by decide +kernel
theorem dX11_isDraw_4 : decode cX11_isDraw 4 = .ok (.iload_n 0, 1) := by decide +kernel
theorem dX11_isDraw_5 : decode cX11_isDraw 5 = .ok (.sipush 10000, 3) := by decide +kernel
theorem dX11_isDraw_8 : decode cX11_isDraw 8 = .ok (.if_icmp .ge 7, 3) := by decide +kernel
theorem dX11_isDraw_11 : decode cX11_isDraw 11 = .ok (.iconst 1, 1) := by decide +kernel
theorem dX11_isDraw_12 : decode cX11_isDraw 12 = .ok (.goto 4, 3) := by decide +kernel
theorem dX11_isDraw_15 : decode cX11_isDraw 15 = .ok (.iconst 0, 1) := by decide +kernel
theorem dX11_isDraw_16 : decode cX11_isDraw 16 = .ok (.ireturn, 1) := by decide +kernel
theorem dX11_isZeroOrOne_0 : decode cX11_isZeroOrOne 0 = .ok (.iload_n 0, 1) := by decide +kernel
theorem dX11_isZeroOrOne_1 : decode cX11_isZeroOrOne 1 = .ok (.ifCond .eq 8, 3) := by decide +kernel
theorem dX11_isZeroOrOne_4 : decode cX11_isZeroOrOne 4 = .ok (.iload_n 0, 1) := by decide +kernel
theorem dX11_isZeroOrOne_5 : decode cX11_isZeroOrOne 5 = .ok (.iconst 1, 1) := by decide +kernel
theorem dX11_isZeroOrOne_6 : decode cX11_isZeroOrOne 6 = .ok (.if_icmp .ne 7, 3) := by decide +kernel
theorem dX11_isZeroOrOne_9 : decode cX11_isZeroOrOne 9 = .ok (.iconst 1, 1) := by decide +kernel
theorem dX11_isZeroOrOne_10 : decode cX11_isZeroOrOne 10 = .ok (.goto 4, 3) := by decide +kernel
theorem dX11_isZeroOrOne_13 : decode cX11_isZeroOrOne 13 = .ok (.iconst 0, 1) := by decide +kernel
theorem dX11_isZeroOrOne_14 : decode cX11_isZeroOrOne 14 = .ok (.ireturn, 1) := by decide +kernel
set_option maxRecDepth 20000 in
theorem ggX11_areTwoPillows_X10_hasPillow : GoodIn wsX11_areTwoPillows wsX10_hasPillow := goodIn_r _ [6, 7, 21, 22, 23, 24, 25] (by decide +kernel) (by decide +kernel)
set_option maxRecDepth 20000 in
theorem gX11_areTwoPillows_X10_hasPillow : GoodIn wsX11_areTwoPillows (wsV RX11 129 RX10 yX10_hasPillow wsX10_hasPillow) := goodIn_app (goodIn_of _ (by decide +kernel)) ggX11_areTwoPillows_X10_hasPillow
theorem dX11_areTwoPillows_0 : decode cX11_areTwoPillows 0 = .ok (.aload_n 0, 1) := by decide +kernel
theorem dX11_areTwoPillows_1 : decode cX11_areTwoPillows 1 = .ok (.getfield 75, 3) := by decide +kernel
theorem dX11_areTwoPillows_4 : decode cX11_areTwoPillows 4 = .ok (.iload_n 1, 1) := by decide +kernel
theorem dX11_areTwoPillows_5 : decode cX11_areTwoPillows 5 = .ok (.invokevirtual 129, 3) := by decide +kernel
theorem dX11_areTwoPillows_8 : decode cX11_areTwoPillows 8 = .ok (.ifCond .eq 23, 3) := by decide +kernel
theorem dX11_areTwoPillows_11 : decode cX11_areTwoPillows 11 = .ok (.aload_n 0, 1) := by decide +kernel
theorem dX11_areTwoPillows_12 : decode cX11_areTwoPillows 12 = .ok (.getfield 75, 3) := by decide +kernel
theorem dX11_areTwoPillows_15 : decode cX11_areTwoPillows 15 = .ok (.iload_n 2, 1) := by decide +kernel
theorem dX11_areTwoPillows_16 : decode cX11_areTwoPillows 16 = .ok (.invokevirtual 129, 3) := by decide +kernel
theorem dX11_areTwoPillows_19 : decode cX11_areTwoPillows 19 = .ok (.ifCond .eq 12, 3) := by decide +kernel
theorem dX11_areTwoPillows_22 : decode cX11_areTwoPillows 22 = .ok (.iload_n 1, 1) := by decide +kernel
theorem dX11_areTwoPillows_23 : decode cX11_areTwoPillows 23 = .ok (.iload_n 2, 1) := by decide +kernel
theorem dX11_areTwoPillows_24 : decode cX11_areTwoPillows 24 = .ok (.if_icmp .eq 7, 3) := by decide +kernel
theorem dX11_areTwoPillows_27 : decode cX11_areTwoPillows 27 = .ok (.iconst 1, 1) := by decide +kernel
theorem dX11_areTwoPillows_28 : decode cX11_areTwoPillows 28 = .ok (.goto 4, 3) := by decide +kernel
theorem dX11_areTwoPillows_31 : decode cX11_areTwoPillows 31 = .ok (.iconst 0, 1) := by decide +kernel
theorem dX11_areTwoPillows_32 : decode cX11_areTwoPillows 32 = .ok (.ireturn, 1) := by decide +kernel
set_option maxRecDepth 20000 in
theorem ggX11_fewerOf_J6_bitCount_0f7a4 : GoodIn wsX11_fewerOf wsJ6_bitCount_0f7a4 := goodIn_r _ [4, 5, 6, 7] (by decide +kernel) (by decide +kernel)
set_option maxRecDepth 20000 in
theorem gX11_fewerOf_J6_bitCount_0f7a4 : GoodIn wsX11_fewerOf (va_wsS RX11 182 yJ6_bitCount_0f7a4 wsJ6_bitCount_0f7a4) := goodIn_app (goodIn_of _ (by decide +kernel)) ggX11_fewerOf_J6_bitCount_0f7a4
theorem dX11_fewerOf_0 : decode cX11_fewerOf 0 = .ok (.iload_n 0, 1) := by decide +kernel
theorem dX11_fewerOf_1 : decode cX11_fewerOf 1 = .ok (.bipush (-9), 2) := by decide +kernel
theorem dX11_fewerOf_3 : decode cX11_fewerOf 3 = .ok (.if_icmp .eq 14, 3) := by decide +kernel
theorem dX11_fewerOf_6 : decode cX11_fewerOf 6 = .ok (.iload_n 1, 1) := by decide +kernel
theorem dX11_fewerOf_7 : decode cX11_fewerOf 7 = .ok (.invokestatic 182, 3) := by decide +kernel
theorem dX11_fewerOf_10 : decode cX11_fewerOf 10 = .ok (.iload_n 0, 1) := by decide +kernel
theorem dX11_fewerOf_11 : decode cX11_fewerOf 11 = .ok (.invokestatic 182, 3) := by decide +kernel
theorem dX11_fewerOf_14 : decode cX11_fewerOf 14 = .ok (.if_icmp .ge 7, 3) := by decide +kernel
theorem dX11_fewerOf_17 : decode cX11_fewerOf 17 = .ok (.iload_n 1, 1) := by decide +kernel
theorem dX11_fewerOf_18 : decode cX11_fewerOf 18 = .ok (.goto 4, 3) := by decide +kernel
theorem dX11_fewerOf_21 : decode cX11_fewerOf 21 = .ok (.iload_n 0, 1) := by decide +kernel
theorem dX11_fewerOf_22 : decode cX11_fewerOf 22 = .ok (.ireturn, 1) := by decide +kernel
set_option maxRecDepth 20000 in
theorem ggX11_safePillows_X8_sleepersOn : GoodIn wsX11_safePillows wsX8_sleepersOn := goodIn_r _ [9, 10, 11, 12, 8, 13, 14, 40] (by decide +kernel) (by decide +kernel)
set_option maxRecDepth 20000 in
theorem gX11_safePillows_X8_sleepersOn : GoodIn wsX11_safePillows (wsV RX11 135 RX8 yX8_sleepersOn wsX8_sleepersOn) := goodIn_app (goodIn_of _ (by decide +kernel)) ggX11_safePillows_X8_sleepersOn
set_option maxRecDepth 20000 in
theorem ggX11_safePillows_X10_knownTo : GoodIn wsX11_safePillows wsX10_knownTo := goodIn_r _ [19, 20, 21, 35, 36, 37, 38, 39] (by decide +kernel) (by decide +kernel)
set_option maxRecDepth 20000 in
theorem gX11_safePillows_X10_knownTo : GoodIn wsX11_safePillows (wsV RX11 207 RX10 yX10_knownTo wsX10_knownTo) := goodIn_app (goodIn_of _ (by decide +kernel)) ggX11_safePillows_X10_knownTo
theorem dX11_safePillows_0 : decode cX11_safePillows 0 = .ok (.iconst 0, 1) := by decide +kernel
theorem dX11_safePillows_1 : decode cX11_safePillows 1 = .ok (.istore_n 2, 1) := by decide +kernel
theorem dX11_safePillows_2 : decode cX11_safePillows 2 = .ok (.iconst 0, 1) := by decide +kernel
theorem dX11_safePillows_3 : decode cX11_safePillows 3 = .ok (.istore_n 3, 1) := by decide +kernel
theorem dX11_safePillows_4 : decode cX11_safePillows 4 = .ok (.iload_n 3, 1) := by decide +kernel
theorem dX11_safePillows_5 : decode cX11_safePillows 5 = .ok (.aload_n 0, 1) := by decide +kernel
theorem dX11_safePillows_6 : decode cX11_safePillows 6 = .ok (.getfield 75, 3) := by decide +kernel
theorem dX11_safePillows_9 : decode cX11_safePillows 9 = .ok (.getfield 226, 3) := by decide +kernel
theorem dX11_safePillows_12 : decode cX11_safePillows 12 = .ok (.if_icmp .ge 53, 3) := by decide +kernel
theorem dX11_safePillows_15 : decode cX11_safePillows 15 = .ok (.aload_n 0, 1) := by decide +kernel
theorem dX11_safePillows_16 : decode cX11_safePillows 16 = .ok (.getfield 19, 3) := by decide +kernel
theorem dX11_safePillows_19 : decode cX11_safePillows 19 = .ok (.iload_n 3, 1) := by decide +kernel
theorem dX11_safePillows_20 : decode cX11_safePillows 20 = .ok (.invokevirtual 135, 3) := by decide +kernel
theorem dX11_safePillows_23 : decode cX11_safePillows 23 = .ok (.iconst 1, 1) := by decide +kernel
theorem dX11_safePillows_24 : decode cX11_safePillows 24 = .ok (.iload_n 1, 1) := by decide +kernel
theorem dX11_safePillows_25 : decode cX11_safePillows 25 = .ok (.ishl, 1) := by decide +kernel
theorem dX11_safePillows_26 : decode cX11_safePillows 26 = .ok (.iconst (-1), 1) := by decide +kernel
theorem dX11_safePillows_27 : decode cX11_safePillows 27 = .ok (.ixor, 1) := by decide +kernel
theorem dX11_safePillows_28 : decode cX11_safePillows 28 = .ok (.iand, 1) := by decide +kernel
theorem dX11_safePillows_29 : decode cX11_safePillows 29 = .ok (.istore 4, 2) := by decide +kernel
theorem dX11_safePillows_31 : decode cX11_safePillows 31 = .ok (.aload_n 0, 1) := by decide +kernel
theorem dX11_safePillows_32 : decode cX11_safePillows 32 = .ok (.getfield 75, 3) := by decide +kernel
theorem dX11_safePillows_35 : decode cX11_safePillows 35 = .ok (.iload 4, 2) := by decide +kernel
theorem dX11_safePillows_37 : decode cX11_safePillows 37 = .ok (.invokevirtual 207, 3) := by decide +kernel
theorem dX11_safePillows_40 : decode cX11_safePillows 40 = .ok (.aload_n 0, 1) := by decide +kernel
theorem dX11_safePillows_41 : decode cX11_safePillows 41 = .ok (.getfield 75, 3) := by decide +kernel
theorem dX11_safePillows_44 : decode cX11_safePillows 44 = .ok (.getfield 110, 3) := by decide +kernel
theorem dX11_safePillows_47 : decode cX11_safePillows 47 = .ok (.iload_n 1, 1) := by decide +kernel
theorem dX11_safePillows_48 : decode cX11_safePillows 48 = .ok (.iaload, 1) := by decide +kernel
theorem dX11_safePillows_49 : decode cX11_safePillows 49 = .ok (.iand, 1) := by decide +kernel
theorem dX11_safePillows_50 : decode cX11_safePillows 50 = .ok (.ifCond .ne 9, 3) := by decide +kernel
theorem dX11_safePillows_53 : decode cX11_safePillows 53 = .ok (.iload_n 2, 1) := by decide +kernel
theorem dX11_safePillows_54 : decode cX11_safePillows 54 = .ok (.iconst 1, 1) := by decide +kernel
theorem dX11_safePillows_55 : decode cX11_safePillows 55 = .ok (.iload_n 3, 1) := by decide +kernel
theorem dX11_safePillows_56 : decode cX11_safePillows 56 = .ok (.ishl, 1) := by decide +kernel
theorem dX11_safePillows_57 : decode cX11_safePillows 57 = .ok (.ior, 1) := by decide +kernel
theorem dX11_safePillows_58 : decode cX11_safePillows 58 = .ok (.istore_n 2, 1) := by decide +kernel
theorem dX11_safePillows_59 : decode cX11_safePillows 59 = .ok (.iinc 3 1, 3) := by decide +kernel
theorem dX11_safePillows_62 : decode cX11_safePillows 62 = .ok (.goto (-58), 3) := by decide +kernel
theorem dX11_safePillows_65 : decode cX11_safePillows 65 = .ok (.iload_n 2, 1) := by decide +kernel
theorem dX11_safePillows_66 : decode cX11_safePillows 66 = .ok (.ireturn, 1) := by decide +kernel
set_option maxRecDepth 20000 in
theorem ggX11_listen_J7_fill_53178 : GoodIn wsX11_listen wsJ7_fill_53178 := goodIn_r _ [8] (by decide +kernel) (by decide +kernel)
set_option maxRecDepth 20000 in
theorem gX11_listen_J7_fill_53178 : GoodIn wsX11_listen (va_wsS RX11 268 yJ7_fill_53178 wsJ7_fill_53178) := goodIn_app (goodIn_of _ (by decide +kernel)) ggX11_listen_J7_fill_53178
set_option maxRecDepth 20000 in
theorem ggX11_listen_X8_bedOf : GoodIn wsX11_listen wsX8_bedOf := goodIn_r _ [13, 14, 55] (by decide +kernel) (by decide +kernel)
set_option maxRecDepth 20000 in
theorem gX11_listen_X8_bedOf : GoodIn wsX11_listen (wsV RX11 116 RX8 yX8_bedOf wsX8_bedOf) := goodIn_app (goodIn_of _ (by decide +kernel)) ggX11_listen_X8_bedOf
set_option maxRecDepth 20000 in
theorem ggX11_listen_X10_thingSaid : GoodIn wsX11_listen wsX10_thingSaid := goodIn_r _ [19, 20, 21, 22, 23, 24, 25, 26, 27, 28, 29, 30, 31, 32, 33, 34, 35, 18, 36, 50, 51, 52, 53, 54] (by decide +kernel) (by decide +kernel)
set_option maxRecDepth 20000 in
theorem gX11_listen_X10_thingSaid : GoodIn wsX11_listen (wsV RX11 274 RX10 yX10_thingSaid wsX10_thingSaid) := goodIn_app (goodIn_of _ (by decide +kernel)) ggX11_listen_X10_thingSaid
theorem dX11_listen_0 : decode cX11_listen 0 = .ok (.aload_n 0, 1) := by decide +kernel
theorem dX11_listen_1 : decode cX11_listen 1 = .ok (.getfield 69, 3) := by decide +kernel
theorem dX11_listen_4 : decode cX11_listen 4 = .ok (.iconst 0, 1) := by decide +kernel
theorem dX11_listen_5 : decode cX11_listen 5 = .ok (.invokestatic 268, 3) := by decide +kernel
theorem dX11_listen_8 : decode cX11_listen 8 = .ok (.iconst 0, 1) := by decide +kernel
theorem dX11_listen_9 : decode cX11_listen 9 = .ok (.istore_n 3, 1) := by decide +kernel
theorem dX11_listen_10 : decode cX11_listen 10 = .ok (.iload_n 3, 1) := by decide +kernel
theorem dX11_listen_11 : decode cX11_listen 11 = .ok (.aload_n 0, 1) := by decide +kernel
theorem dX11_listen_12 : decode cX11_listen 12 = .ok (.getfield 75, 3) := by decide +kernel
theorem dX11_listen_15 : decode cX11_listen 15 = .ok (.getfield 204, 3) := by decide +kernel
theorem dX11_listen_18 : decode cX11_listen 18 = .ok (.if_icmp .ge 65, 3) := by decide +kernel
theorem dX11_listen_21 : decode cX11_listen 21 = .ok (.aload_n 0, 1) := by decide +kernel
theorem dX11_listen_22 : decode cX11_listen 22 = .ok (.getfield 19, 3) := by decide +kernel
theorem dX11_listen_25 : decode cX11_listen 25 = .ok (.iload_n 3, 1) := by decide +kernel
theorem dX11_listen_26 : decode cX11_listen 26 = .ok (.invokevirtual 116, 3) := by decide +kernel
theorem dX11_listen_29 : decode cX11_listen 29 = .ok (.istore 4, 2) := by decide +kernel
theorem dX11_listen_31 : decode cX11_listen 31 = .ok (.aload_n 0, 1) := by decide +kernel
theorem dX11_listen_32 : decode cX11_listen 32 = .ok (.getfield 75, 3) := by decide +kernel
theorem dX11_listen_35 : decode cX11_listen 35 = .ok (.iload_n 3, 1) := by decide +kernel
theorem dX11_listen_36 : decode cX11_listen 36 = .ok (.iload_n 1, 1) := by decide +kernel
theorem dX11_listen_37 : decode cX11_listen 37 = .ok (.iload_n 2, 1) := by decide +kernel
theorem dX11_listen_38 : decode cX11_listen 38 = .ok (.invokevirtual 274, 3) := by decide +kernel
theorem dX11_listen_41 : decode cX11_listen 41 = .ok (.istore 5, 2) := by decide +kernel
theorem dX11_listen_43 : decode cX11_listen 43 = .ok (.iload 4, 2) := by decide +kernel
theorem dX11_listen_45 : decode cX11_listen 45 = .ok (.ifCond .lt 32, 3) := by decide +kernel
theorem dX11_listen_48 : decode cX11_listen 48 = .ok (.iload 4, 2) := by decide +kernel
theorem dX11_listen_50 : decode cX11_listen 50 = .ok (.aload_n 0, 1) := by decide +kernel
theorem dX11_listen_51 : decode cX11_listen 51 = .ok (.getfield 69, 3) := by decide +kernel
theorem dX11_listen_54 : decode cX11_listen 54 = .ok (.arraylength, 1) := by decide +kernel
theorem dX11_listen_55 : decode cX11_listen 55 = .ok (.if_icmp .ge 22, 3) := by decide +kernel
theorem dX11_listen_58 : decode cX11_listen 58 = .ok (.iload 5, 2) := by decide +kernel
theorem dX11_listen_60 : decode cX11_listen 60 = .ok (.ifCond .lt 17, 3) := by decide +kernel
theorem dX11_listen_63 : decode cX11_listen 63 = .ok (.aload_n 0, 1) := by decide +kernel
theorem dX11_listen_64 : decode cX11_listen 64 = .ok (.getfield 69, 3) := by decide +kernel
theorem dX11_listen_67 : decode cX11_listen 67 = .ok (.iload 4, 2) := by decide +kernel
theorem dX11_listen_69 : decode cX11_listen 69 = .ok (.dup2, 1) := by decide +kernel
theorem dX11_listen_70 : decode cX11_listen 70 = .ok (.iaload, 1) := by decide +kernel
theorem dX11_listen_71 : decode cX11_listen 71 = .ok (.iconst 1, 1) := by decide +kernel
theorem dX11_listen_72 : decode cX11_listen 72 = .ok (.iload 5, 2) := by decide +kernel
theorem dX11_listen_74 : decode cX11_listen 74 = .ok (.ishl, 1) := by decide +kernel
theorem dX11_listen_75 : decode cX11_listen 75 = .ok (.ior, 1) := by decide +kernel
theorem dX11_listen_76 : decode cX11_listen 76 = .ok (.iastore, 1) := by decide +kernel
theorem dX11_listen_77 : decode cX11_listen 77 = .ok (.iinc 3 1, 3) := by decide +kernel
theorem dX11_listen_80 : decode cX11_listen 80 = .ok (.goto (-70), 3) := by decide +kernel
theorem dX11_listen_83 : decode cX11_listen 83 = .ok (.return_, 1) := by decide +kernel
theorem dX11_agreesWithNotes_0 : decode cX11_agreesWithNotes 0 = .ok (.iconst 0, 1) := by decide +kernel
theorem dX11_agreesWithNotes_1 : decode cX11_agreesWithNotes 1 = .ok (.istore_n 1, 1) := by decide +kernel
theorem dX11_agreesWithNotes_2 : decode cX11_agreesWithNotes 2 = .ok (.iload_n 1, 1) := by decide +kernel
theorem dX11_agreesWithNotes_3 : decode cX11_agreesWithNotes 3 = .ok (.aload_n 0, 1) := by decide +kernel
theorem dX11_agreesWithNotes_4 : decode cX11_agreesWithNotes 4 = .ok (.getfield 104, 3) := by decide +kernel
theorem dX11_agreesWithNotes_7 : decode cX11_agreesWithNotes 7 = .ok (.if_icmp .ge 42, 3) := by decide +kernel
theorem dX11_agreesWithNotes_10 : decode cX11_agreesWithNotes 10 = .ok (.aload_n 0, 1) := by decide +kernel
theorem dX11_agreesWithNotes_11 : decode cX11_agreesWithNotes 11 = .ok (.getfield 59, 3) := by decide +kernel
theorem dX11_agreesWithNotes_14 : decode cX11_agreesWithNotes 14 = .ok (.iload_n 1, 1) := by decide +kernel
theorem dX11_agreesWithNotes_15 : decode cX11_agreesWithNotes 15 = .ok (.iaload, 1) := by decide +kernel
theorem dX11_agreesWithNotes_16 : decode cX11_agreesWithNotes 16 = .ok (.istore_n 2, 1) := by decide +kernel
theorem dX11_agreesWithNotes_17 : decode cX11_agreesWithNotes 17 = .ok (.aload_n 0, 1) := by decide +kernel
theorem dX11_agreesWithNotes_18 : decode cX11_agreesWithNotes 18 = .ok (.getfield 69, 3) := by decide +kernel
theorem dX11_agreesWithNotes_21 : decode cX11_agreesWithNotes 21 = .ok (.iload_n 2, 1) := by decide +kernel
theorem dX11_agreesWithNotes_22 : decode cX11_agreesWithNotes 22 = .ok (.iaload, 1) := by decide +kernel
theorem dX11_agreesWithNotes_23 : decode cX11_agreesWithNotes 23 = .ok (.aload_n 0, 1) := by decide +kernel
theorem dX11_agreesWithNotes_24 : decode cX11_agreesWithNotes 24 = .ok (.getfield 63, 3) := by decide +kernel
theorem dX11_agreesWithNotes_27 : decode cX11_agreesWithNotes 27 = .ok (.iload_n 1, 1) := by decide +kernel
theorem dX11_agreesWithNotes_28 : decode cX11_agreesWithNotes 28 = .ok (.iaload, 1) := by decide +kernel
theorem dX11_agreesWithNotes_29 : decode cX11_agreesWithNotes 29 = .ok (.ishr, 1) := by decide +kernel
theorem dX11_agreesWithNotes_30 : decode cX11_agreesWithNotes 30 = .ok (.iconst 1, 1) := by decide +kernel
theorem dX11_agreesWithNotes_31 : decode cX11_agreesWithNotes 31 = .ok (.iand, 1) := by decide +kernel
theorem dX11_agreesWithNotes_32 : decode cX11_agreesWithNotes 32 = .ok (.aload_n 0, 1) := by decide +kernel
theorem dX11_agreesWithNotes_33 : decode cX11_agreesWithNotes 33 = .ok (.getfield 66, 3) := by decide +kernel
theorem dX11_agreesWithNotes_36 : decode cX11_agreesWithNotes 36 = .ok (.iload_n 1, 1) := by decide +kernel
theorem dX11_agreesWithNotes_37 : decode cX11_agreesWithNotes 37 = .ok (.iaload, 1) := by decide +kernel
theorem dX11_agreesWithNotes_38 : decode cX11_agreesWithNotes 38 = .ok (.if_icmp .eq 5, 3) := by decide +kernel
theorem dX11_agreesWithNotes_41 : decode cX11_agreesWithNotes 41 = .ok (.iconst 0, 1) := by decide +kernel
theorem dX11_agreesWithNotes_42 : decode cX11_agreesWithNotes 42 = .ok (.ireturn, 1) := by decide +kernel
theorem dX11_agreesWithNotes_43 : decode cX11_agreesWithNotes 43 = .ok (.iinc 1 1, 3) := by decide +kernel
theorem dX11_agreesWithNotes_46 : decode cX11_agreesWithNotes 46 = .ok (.goto (-44), 3) := by decide +kernel
theorem dX11_agreesWithNotes_49 : decode cX11_agreesWithNotes 49 = .ok (.iconst 1, 1) := by decide +kernel
theorem dX11_agreesWithNotes_50 : decode cX11_agreesWithNotes 50 = .ok (.ireturn, 1) := by decide +kernel
theorem dX11_commonDivisor_0 : decode cX11_commonDivisor 0 = .ok (.iload_n 0, 1) := by decide +kernel
theorem dX11_commonDivisor_1 : decode cX11_commonDivisor 1 = .ok (.istore_n 2, 1) := by decide +kernel
theorem dX11_commonDivisor_2 : decode cX11_commonDivisor 2 = .ok (.iload_n 1, 1) := by decide +kernel
theorem dX11_commonDivisor_3 : decode cX11_commonDivisor 3 = .ok (.istore_n 3, 1) := by decide +kernel
theorem dX11_commonDivisor_4 : decode cX11_commonDivisor 4 = .ok (.iconst 0, 1) := by decide +kernel
theorem dX11_commonDivisor_5 : decode cX11_commonDivisor 5 = .ok (.istore 4, 2) := by decide +kernel
theorem dX11_commonDivisor_7 : decode cX11_commonDivisor 7 = .ok (.iload 4, 2) := by decide +kernel
theorem dX11_commonDivisor_9 : decode cX11_commonDivisor 9 = .ok (.bipush 100, 2) := by decide +kernel
theorem dX11_commonDivisor_11 : decode cX11_commonDivisor 11 = .ok (.if_icmp .ge 23, 3) := by decide +kernel
theorem dX11_commonDivisor_14 : decode cX11_commonDivisor 14 = .ok (.iload_n 3, 1) := by decide +kernel
theorem dX11_commonDivisor_15 : decode cX11_commonDivisor 15 = .ok (.ifCond .eq 19, 3) := by decide +kernel
theorem dX11_commonDivisor_18 : decode cX11_commonDivisor 18 = .ok (.iload_n 2, 1) := by decide +kernel
theorem dX11_commonDivisor_19 : decode cX11_commonDivisor 19 = .ok (.iload_n 3, 1) := by decide +kernel
theorem dX11_commonDivisor_20 : decode cX11_commonDivisor 20 = .ok (.irem, 1) := by decide +kernel
theorem dX11_commonDivisor_21 : decode cX11_commonDivisor 21 = .ok (.istore 5, 2) := by decide +kernel
theorem dX11_commonDivisor_23 : decode cX11_commonDivisor 23 = .ok (.iload_n 3, 1) := by decide +kernel
theorem dX11_commonDivisor_24 : decode cX11_commonDivisor 24 = .ok (.istore_n 2, 1) := by decide +kernel
theorem dX11_commonDivisor_25 : decode cX11_commonDivisor 25 = .ok (.iload 5, 2) := by decide +kernel
theorem dX11_commonDivisor_27 : decode cX11_commonDivisor 27 = .ok (.istore_n 3, 1) := by decide +kernel
theorem dX11_commonDivisor_28 : decode cX11_commonDivisor 28 = .ok (.iinc 4 1, 3) := by decide +kernel
theorem dX11_commonDivisor_31 : decode cX11_commonDivisor 31 = .ok (.goto (-24), 3) := by decide +kernel
theorem dX11_commonDivisor_34 : decode cX11_commonDivisor 34 = .ok (.iload_n 2, 1) := by decide +kernel
theorem dX11_commonDivisor_35 : decode cX11_commonDivisor 35 = .ok (.ifCond .ne 7, 3) := by decide +kernel
theorem dX11_commonDivisor_38 : decode cX11_commonDivisor 38 = .ok (.iconst 1, 1) := by decide +kernel
theorem dX11_commonDivisor_39 : decode cX11_commonDivisor 39 = .ok (.goto 4, 3) := by decide +kernel
theorem dX11_commonDivisor_42 : decode cX11_commonDivisor 42 = .ok (.iload_n 2, 1) := by decide +kernel
theorem dX11_commonDivisor_43 : decode cX11_commonDivisor 43 = .ok (.ireturn, 1) := by decide +kernel
theorem dX11_power_0 : decode cX11_power 0 = .ok (.lconst 1, 1) := by decide +kernel
theorem dX11_power_1 : decode cX11_power 1 = .ok (.lstore_n 2, 1) := by decide +kernel
theorem dX11_power_2 : decode cX11_power 2 = .ok (.iconst 0, 1) := by decide +kernel
theorem dX11_power_3 : decode cX11_power 3 = .ok (.istore 4, 2) := by decide +kernel
theorem dX11_power_5 : decode cX11_power 5 = .ok (.iload 4, 2) := by decide +kernel
theorem dX11_power_7 : decode cX11_power 7 = .ok (.iload_n 1, 1) := by decide +kernel
theorem dX11_power_8 : decode cX11_power 8 = .ok (.if_icmp .ge 14, 3) := by decide +kernel
theorem dX11_power_11 : decode cX11_power 11 = .ok (.lload_n 2, 1) := by decide +kernel
theorem dX11_power_12 : decode cX11_power 12 = .ok (.iload_n 0, 1) := by decide +kernel
theorem dX11_power_13 : decode cX11_power 13 = .ok (.i2l, 1) := by decide +kernel
theorem dX11_power_14 : decode cX11_power 14 = .ok (.lmul, 1) := by decide +kernel
theorem dX11_power_15 : decode cX11_power 15 = .ok (.lstore_n 2, 1) := by decide +kernel
theorem dX11_power_16 : decode cX11_power 16 = .ok (.iinc 4 1, 3) := by decide +kernel
theorem dX11_power_19 : decode cX11_power 19 = .ok (.goto (-14), 3) := by decide +kernel
theorem dX11_power_22 : decode cX11_power 22 = .ok (.lload_n 2, 1) := by decide +kernel
theorem dX11_power_23 : decode cX11_power 23 = .ok (.lreturn, 1) := by decide +kernel
theorem dX12_in_0 : decode cX12_in 0 = .ok (.lload_n 0, 1) := by decide +kernel
theorem dX12_in_1 : decode cX12_in 1 = .ok (.lload_n 2, 1) := by decide +kernel
theorem dX12_in_2 : decode cX12_in 2 = .ok (.lcmp, 1) := by decide +kernel
theorem dX12_in_3 : decode cX12_in 3 = .ok (.ifCond .lt 14, 3) := by decide +kernel
theorem dX12_in_6 : decode cX12_in 6 = .ok (.lload_n 0, 1) := by decide +kernel
theorem dX12_in_7 : decode cX12_in 7 = .ok (.lload 4, 2) := by decide +kernel
theorem dX12_in_9 : decode cX12_in 9 = .ok (.lcmp, 1) := by decide +kernel
theorem dX12_in_10 : decode cX12_in 10 = .ok (.ifCond .gt 7, 3) := by decide +kernel
theorem dX12_in_13 : decode cX12_in 13 = .ok (.iconst 1, 1) := by decide +kernel
theorem dX12_in_14 : decode cX12_in 14 = .ok (.goto 4, 3) := by decide +kernel
theorem dX12_in_17 : decode cX12_in 17 = .ok (.iconst 0, 1) := by decide +kernel
theorem dX12_in_18 : decode cX12_in 18 = .ok (.ireturn, 1) := by decide +kernel
set_option maxRecDepth 20000 in
theorem ggX12_init_X12_plain : GoodIn wsX12_init wsX12_plain := goodIn_r _ [19, 6, 26, 27, 28, 29, 30, 31, 32, 33, 34, 35, 36, 37, 38, 39, 40, 41, 42, 43] (by decide +kernel) (by decide +kernel)
set_option maxRecDepth 20000 in
theorem gX12_init_X12_plain : GoodIn wsX12_init (wsV RX12 40 RX12 yX12_plain wsX12_plain) := goodIn_app (goodIn_of _ (by decide +kernel)) ggX12_init_X12_plain
set_option maxRecDepth 20000 in
theorem ggX12_init_X12_takes : GoodIn wsX12_init wsX12_takes := goodIn_r _ [23, 7, 6, 8, 24, 25, 14, 26, 27, 28, 29, 30, 31, 32, 33, 34, 35, 36, 37, 38, 39, 40, 41, 42, 43] (by decide +kernel) (by decide +kernel)
set_option maxRecDepth 20000 in
theorem gX12_init_X12_takes : GoodIn wsX12_init (wsV RX12 43 RX12 yX12_takes wsX12_takes) := goodIn_app (goodIn_of _ (by decide +kernel)) ggX12_init_X12_takes
theorem dX12_init_0 : decode cX12_init 0 = .ok (.aload_n 0, 1) := by decide +kernel
theorem dX12_init_1 : decode cX12_init 1 = .ok (.invokespecial 1, 3) := by decide +kernel
theorem dX12_init_4 : decode cX12_init 4 = .ok (.aload_n 0, 1) := by decide +kernel
theorem dX12_init_5 : decode cX12_init 5 = .ok (.sipush 200, 3) := by decide +kernel
theorem dX12_init_8 : decode cX12_init 8 = .ok (.newarray .int, 2) := by decide +kernel
theorem dX12_init_10 : decode cX12_init 10 = .ok (.putfield 7, 3) := by decide +kernel
theorem dX12_init_13 : decode cX12_init 13 = .ok (.aload_n 0, 1) := by decide +kernel
theorem dX12_init_14 : decode cX12_init 14 = .ok (.bipush 21, 2) := by decide +kernel
theorem dX12_init_16 : decode cX12_init 16 = .ok (.newarray .int, 2) := by decide +kernel
theorem dX12_init_18 : decode cX12_init 18 = .ok (.putfield 13, 3) := by decide +kernel
theorem dX12_init_21 : decode cX12_init 21 = .ok (.aload_n 0, 1) := by decide +kernel
theorem dX12_init_22 : decode cX12_init 22 = .ok (.bipush 21, 2) := by decide +kernel
theorem dX12_init_24 : decode cX12_init 24 = .ok (.newarray .int, 2) := by decide +kernel
theorem dX12_init_26 : decode cX12_init 26 = .ok (.putfield 16, 3) := by decide +kernel
theorem dX12_init_29 : decode cX12_init 29 = .ok (.aload_n 0, 1) := by decide +kernel
theorem dX12_init_30 : decode cX12_init 30 = .ok (.bipush 50, 2) := by decide +kernel
theorem dX12_init_32 : decode cX12_init 32 = .ok (.newarray .int, 2) := by decide +kernel
theorem dX12_init_34 : decode cX12_init 34 = .ok (.putfield 19, 3) := by decide +kernel
theorem dX12_init_37 : decode cX12_init 37 = .ok (.aload_n 0, 1) := by decide +kernel
theorem dX12_init_38 : decode cX12_init 38 = .ok (.sipush 500, 3) := by decide +kernel
theorem dX12_init_41 : decode cX12_init 41 = .ok (.newarray .int, 2) := by decide +kernel
theorem dX12_init_43 : decode cX12_init 43 = .ok (.putfield 22, 3) := by decide +kernel
theorem dX12_init_46 : decode cX12_init 46 = .ok (.aload_n 0, 1) := by decide +kernel
theorem dX12_init_47 : decode cX12_init 47 = .ok (.sipush 448, 3) := by decide +kernel
theorem dX12_init_50 : decode cX12_init 50 = .ok (.newarray .int, 2) := by decide +kernel
theorem dX12_init_52 : decode cX12_init 52 = .ok (.putfield 25, 3) := by decide +kernel
theorem dX12_init_55 : decode cX12_init 55 = .ok (.aload_n 0, 1) := by decide +kernel
theorem dX12_init_56 : decode cX12_init 56 = .ok (.bipush 50, 2) := by decide +kernel
theorem dX12_init_58 : decode cX12_init 58 = .ok (.newarray .int, 2) := by decide +kernel
theorem dX12_init_60 : decode cX12_init 60 = .ok (.putfield 28, 3) := by decide +kernel
theorem dX12_init_63 : decode cX12_init 63 = .ok (.aload_n 0, 1) := by decide +kernel
theorem dX12_init_64 : decode cX12_init 64 = .ok (.bipush 15, 2) := by decide +kernel
theorem dX12_init_66 : decode cX12_init 66 = .ok (.newarray .int, 2) := by decide +kernel
theorem dX12_init_68 : decode cX12_init 68 = .ok (.putfield 31, 3) := by decide +kernel
theorem dX12_init_71 : decode cX12_init 71 = .ok (.aload_n 0, 1) := by decide +kernel
theorem dX12_init_72 : decode cX12_init 72 = .ok (.bipush 6, 2) := by decide +kernel
theorem dX12_init_74 : decode cX12_init 74 = .ok (.newarray .int, 2) := by decide +kernel
theorem dX12_init_76 : decode cX12_init 76 = .ok (.putfield 34, 3) := by decide +kernel
theorem dX12_init_79 : decode cX12_init 79 = .ok (.aload_n 0, 1) := by decide +kernel
theorem dX12_init_80 : decode cX12_init 80 = .ok (.bipush 102, 2) := by decide +kernel
theorem dX12_init_82 : decode cX12_init 82 = .ok (.newarray .int, 2) := by decide +kernel
theorem dX12_init_84 : decode cX12_init 84 = .ok (.putfield 37, 3) := by decide +kernel
theorem dX12_init_87 : decode cX12_init 87 = .ok (.aload_n 0, 1) := by decide +kernel
theorem dX12_init_88 : decode cX12_init 88 = .ok (.invokevirtual 40, 3) := by decide +kernel
theorem dX12_init_91 : decode cX12_init 91 = .ok (.aload_n 0, 1) := by decide +kernel
theorem dX12_init_92 : decode cX12_init 92 = .ok (.invokevirtual 43, 3) := by decide +kernel
theorem dX12_init_95 : decode cX12_init 95 = .ok (.return_, 1) := by decide +kernel
set_option maxRecDepth 20000 in
theorem ggX12_type_X12_in : GoodIn wsX12_type wsX12_in := goodIn_r _ [7] (by decide +kernel) (by decide +kernel)
set_option maxRecDepth 20000 in
theorem gX12_type_X12_in : GoodIn wsX12_type (va_wsS RX12 48 yX12_in wsX12_in) := goodIn_app (goodIn_of _ (by decide +kernel)) ggX12_type_X12_in
theorem dX12_type_0 : decode cX12_type 0 = .ok (.iload_n 1, 1) := by decide +kernel
theorem dX12_type_1 : decode cX12_type 1 = .ok (.i2l, 1) := by decide +kernel
theorem dX12_type_2 : decode cX12_type 2 = .ok (.lconst 0, 1) := by decide +kernel
theorem dX12_type_3 : decode cX12_type 3 = .ok (.ldc2_w 46, 3) := by decide +kernel
theorem dX12_type_6 : decode cX12_type 6 = .ok (.invokestatic 48, 3) := by decide +kernel
theorem dX12_type_9 : decode cX12_type 9 = .ok (.ifCond .ne 5, 3) := by decide +kernel
theorem dX12_type_12 : decode cX12_type 12 = .ok (.iconst (-1), 1) := by decide +kernel
theorem dX12_type_13 : decode cX12_type 13 = .ok (.ireturn, 1) := by decide +kernel
theorem dX12_type_14 : decode cX12_type 14 = .ok (.aload_n 0, 1) := by decide +kernel
theorem dX12_type_15 : decode cX12_type 15 = .ok (.getfield 52, 3) := by decide +kernel
theorem dX12_type_18 : decode cX12_type 18 = .ok (.sipush 200, 3) := by decide +kernel
theorem dX12_type_21 : decode cX12_type 21 = .ok (.if_icmp .ne 6, 3) := by decide +kernel
theorem dX12_type_24 : decode cX12_type 24 = .ok (.bipush (-3), 2) := by decide +kernel
theorem dX12_type_26 : decode cX12_type 26 = .ok (.ireturn, 1) := by decide +kernel
theorem dX12_type_27 : decode cX12_type 27 = .ok (.aload_n 0, 1) := by decide +kernel
theorem dX12_type_28 : decode cX12_type 28 = .ok (.getfield 7, 3) := by decide +kernel
theorem dX12_type_31 : decode cX12_type 31 = .ok (.aload_n 0, 1) := by decide +kernel
theorem dX12_type_32 : decode cX12_type 32 = .ok (.getfield 52, 3) := by decide +kernel
theorem dX12_type_35 : decode cX12_type 35 = .ok (.iload_n 1, 1) := by decide +kernel
theorem dX12_type_36 : decode cX12_type 36 = .ok (.iastore, 1) := by decide +kernel
theorem dX12_type_37 : decode cX12_type 37 = .ok (.aload_n 0, 1) := by decide +kernel
theorem dX12_type_38 : decode cX12_type 38 = .ok (.dup, 1) := by decide +kernel
theorem dX12_type_39 : decode cX12_type 39 = .ok (.getfield 52, 3) := by decide +kernel
theorem dX12_type_42 : decode cX12_type 42 = .ok (.iconst 1, 1) := by decide +kernel
theorem dX12_type_43 : decode cX12_type 43 = .ok (.iadd, 1) := by decide +kernel
theorem dX12_type_44 : decode cX12_type 44 = .ok (.putfield 52, 3) := by decide +kernel
theorem dX12_type_47 : decode cX12_type 47 = .ok (.aload_n 0, 1) := by decide +kernel
theorem dX12_type_48 : decode cX12_type 48 = .ok (.getfield 52, 3) := by decide +kernel
theorem dX12_type_51 : decode cX12_type 51 = .ok (.ireturn, 1) := by decide +kernel
theorem dX12_clear_0 : decode cX12_clear 0 = .ok (.aload_n 0, 1) := by decide +kernel
theorem dX12_clear_1 : decode cX12_clear 1 = .ok (.getfield 52, 3) := by decide +kernel
theorem dX12_clear_4 : decode cX12_clear 4 = .ok (.istore_n 1, 1) := by decide +kernel
theorem dX12_clear_5 : decode cX12_clear 5 = .ok (.aload_n 0, 1) := by decide +kernel
theorem dX12_clear_6 : decode cX12_clear 6 = .ok (.iconst 0, 1) := by decide +kernel
theorem dX12_clear_7 : decode cX12_clear 7 = .ok (.putfield 52, 3) := by decide +kernel
theorem dX12_clear_10 : decode cX12_clear 10 = .ok (.iload_n 1, 1) := by decide +kernel
theorem dX12_clear_11 : decode cX12_clear 11 = .ok (.ireturn, 1) := by decide +kernel
set_option maxRecDepth 20000 in
theorem ggX12_isFigure_X12_in : GoodIn wsX12_isFigure wsX12_in := goodIn_r _ [6] (by decide +kernel) (by decide +kernel)
set_option maxRecDepth 20000 in
theorem gX12_isFigure_X12_in : GoodIn wsX12_isFigure (va_wsS RX12 48 yX12_in wsX12_in) := goodIn_app (goodIn_of _ (by decide +kernel)) ggX12_isFigure_X12_in
theorem dX12_isFigure_0 : decode cX12_isFigure 0 = .ok (.iload_n 0, 1) := by decide +kernel
theorem dX12_isFigure_1 : decode cX12_isFigure 1 = .ok (.i2l, 1) := by decide +kernel
theorem dX12_isFigure_2 : decode cX12_isFigure 2 = .ok (.ldc2_w 56, 3) := by decide +kernel
theorem dX12_isFigure_5 : decode cX12_isFigure 5 = .ok (.ldc2_w 58, 3) := by decide +kernel
theorem dX12_isFigure_8 : decode cX12_isFigure 8 = .ok (.invokestatic 48, 3) := by decide +kernel
theorem dX12_isFigure_11 : decode cX12_isFigure 11 = .ok (.ireturn, 1) := by decide +kernel
set_option maxRecDepth 20000 in
theorem ggX12_reads_X12_isFigure : GoodIn wsX12_reads wsX12_isFigure := goodIn_r _ [10, 11, 12, 13, 14, 9, 15] (by decide +kernel) (by decide +kernel)
set_option maxRecDepth 20000 in
theorem gX12_reads_X12_isFigure : GoodIn wsX12_reads (va_wsS RX12 69 yX12_isFigure wsX12_isFigure) := goodIn_app (goodIn_of _ (by decide +kernel)) ggX12_reads_X12_isFigure
theorem dX12_reads_0 : decode cX12_reads 0 = .ok (.aload_n 0, 1) := by decide +kernel
theorem dX12_reads_1 : decode cX12_reads 1 = .ok (.getfield 60, 3) := by decide +kernel
theorem dX12_reads_4 : decode cX12_reads 4 = .ok (.aload_n 0, 1) := by decide +kernel
theorem dX12_reads_5 : decode cX12_reads 5 = .ok (.getfield 52, 3) := by decide +kernel
theorem dX12_reads_8 : decode cX12_reads 8 = .ok (.if_icmp .ge 30, 3) := by decide +kernel
theorem dX12_reads_11 : decode cX12_reads 11 = .ok (.aload_n 0, 1) := by decide +kernel
theorem dX12_reads_12 : decode cX12_reads 12 = .ok (.getfield 7, 3) := by decide +kernel
theorem dX12_reads_15 : decode cX12_reads 15 = .ok (.aload_n 0, 1) := by decide +kernel
theorem dX12_reads_16 : decode cX12_reads 16 = .ok (.getfield 60, 3) := by decide +kernel
theorem dX12_reads_19 : decode cX12_reads 19 = .ok (.iaload, 1) := by decide +kernel
theorem dX12_reads_20 : decode cX12_reads 20 = .ok (.bipush 32, 2) := by decide +kernel
theorem dX12_reads_22 : decode cX12_reads 22 = .ok (.if_icmp .ne 16, 3) := by decide +kernel
theorem dX12_reads_25 : decode cX12_reads 25 = .ok (.aload_n 0, 1) := by decide +kernel
theorem dX12_reads_26 : decode cX12_reads 26 = .ok (.dup, 1) := by decide +kernel
theorem dX12_reads_27 : decode cX12_reads 27 = .ok (.getfield 60, 3) := by decide +kernel
theorem dX12_reads_30 : decode cX12_reads 30 = .ok (.iconst 1, 1) := by decide +kernel
theorem dX12_reads_31 : decode cX12_reads 31 = .ok (.iadd, 1) := by decide +kernel
theorem dX12_reads_32 : decode cX12_reads 32 = .ok (.putfield 60, 3) := by decide +kernel
theorem dX12_reads_35 : decode cX12_reads 35 = .ok (.goto (-35), 3) := by decide +kernel
theorem dX12_reads_38 : decode cX12_reads 38 = .ok (.aload_n 0, 1) := by decide +kernel
theorem dX12_reads_39 : decode cX12_reads 39 = .ok (.aload_n 0, 1) := by decide +kernel
theorem dX12_reads_40 : decode cX12_reads 40 = .ok (.getfield 60, 3) := by decide +kernel
theorem dX12_reads_43 : decode cX12_reads 43 = .ok (.putfield 63, 3) := by decide +kernel
theorem dX12_reads_46 : decode cX12_reads 46 = .ok (.aload_n 0, 1) := by decide +kernel
theorem dX12_reads_47 : decode cX12_reads 47 = .ok (.iconst 0, 1) := by decide +kernel
theorem dX12_reads_48 : decode cX12_reads 48 = .ok (.putfield 66, 3) := by decide +kernel
theorem dX12_reads_51 : decode cX12_reads 51 = .ok (.aload_n 0, 1) := by decide +kernel
theorem dX12_reads_52 : decode cX12_reads 52 = .ok (.getfield 60, 3) := by decide +kernel
theorem dX12_reads_55 : decode cX12_reads 55 = .ok (.aload_n 0, 1) := by decide +kernel
theorem dX12_reads_56 : decode cX12_reads 56 = .ok (.getfield 52, 3) := by decide +kernel
theorem dX12_reads_59 : decode cX12_reads 59 = .ok (.if_icmp .ge 150, 3) := by decide +kernel
theorem dX12_reads_62 : decode cX12_reads 62 = .ok (.aload_n 0, 1) := by decide +kernel
theorem dX12_reads_63 : decode cX12_reads 63 = .ok (.getfield 7, 3) := by decide +kernel
theorem dX12_reads_66 : decode cX12_reads 66 = .ok (.aload_n 0, 1) := by decide +kernel
theorem dX12_reads_67 : decode cX12_reads 67 = .ok (.getfield 60, 3) := by decide +kernel
theorem dX12_reads_70 : decode cX12_reads 70 = .ok (.iaload, 1) := by decide +kernel
theorem dX12_reads_71 : decode cX12_reads 71 = .ok (.invokestatic 69, 3) := by decide +kernel
theorem dX12_reads_74 : decode cX12_reads 74 = .ok (.ifCond .eq 135, 3) := by decide +kernel
theorem dX12_reads_77 : decode cX12_reads 77 = .ok (.aload_n 0, 1) := by decide +kernel
theorem dX12_reads_78 : decode cX12_reads 78 = .ok (.iconst 0, 1) := by decide +kernel
theorem dX12_reads_79 : decode cX12_reads 79 = .ok (.putfield 73, 3) := by decide +kernel
theorem dX12_reads_82 : decode cX12_reads 82 = .ok (.aload_n 0, 1) := by decide +kernel
theorem dX12_reads_83 : decode cX12_reads 83 = .ok (.getfield 60, 3) := by decide +kernel
theorem dX12_reads_86 : decode cX12_reads 86 = .ok (.aload_n 0, 1) := by decide +kernel
theorem dX12_reads_87 : decode cX12_reads 87 = .ok (.getfield 52, 3) := by decide +kernel
theorem dX12_reads_90 : decode cX12_reads 90 = .ok (.if_icmp .ge 71, 3) := by decide +kernel
theorem dX12_reads_93 : decode cX12_reads 93 = .ok (.aload_n 0, 1) := by decide +kernel
theorem dX12_reads_94 : decode cX12_reads 94 = .ok (.getfield 7, 3) := by decide +kernel
theorem dX12_reads_97 : decode cX12_reads 97 = .ok (.aload_n 0, 1) := by decide +kernel
theorem dX12_reads_98 : decode cX12_reads 98 = .ok (.getfield 60, 3) := by decide +kernel
theorem dX12_reads_101 : decode cX12_reads 101 = .ok (.iaload, 1) := by decide +kernel
theorem dX12_reads_102 : decode cX12_reads 102 = .ok (.invokestatic 69, 3) := by decide +kernel
theorem dX12_reads_105 : decode cX12_reads 105 = .ok (.ifCond .eq 56, 3) := by decide +kernel
theorem dX12_reads_108 : decode cX12_reads 108 = .ok (.aload_n 0, 1) := by decide +kernel
theorem dX12_reads_109 : decode cX12_reads 109 = .ok (.aload_n 0, 1) := by decide +kernel
theorem dX12_reads_110 : decode cX12_reads 110 = .ok (.getfield 73, 3) := by decide +kernel
theorem dX12_reads_113 : decode cX12_reads 113 = .ok (.bipush 127, 2) := by decide +kernel
theorem dX12_reads_115 : decode cX12_reads 115 = .ok (.if_icmp .le 10, 3) := by decide +kernel
theorem dX12_reads_118 : decode cX12_reads 118 = .ok (.aload_n 0, 1) := by decide +kernel
theorem dX12_reads_119 : decode cX12_reads 119 = .ok (.getfield 73, 3) := by decide +kernel
theorem dX12_reads_122 : decode cX12_reads 122 = .ok (.goto 23, 3) := by decide +kernel
theorem dX12_reads_125 : decode cX12_reads 125 = .ok (.bipush 10, 2) := by decide +kernel
theorem dX12_reads_127 : decode cX12_reads 127 = .ok (.aload_n 0, 1) := by decide +kernel
theorem dX12_reads_128 : decode cX12_reads 128 = .ok (.getfield 73, 3) := by decide +kernel
theorem dX12_reads_131 : decode cX12_reads 131 = .ok (.imul, 1) := by decide +kernel
theorem dX12_reads_132 : decode cX12_reads 132 = .ok (.aload_n 0, 1) := by decide +kernel
theorem dX12_reads_133 : decode cX12_reads 133 = .ok (.getfield 7, 3) := by decide +kernel
theorem dX12_reads_136 : decode cX12_reads 136 = .ok (.aload_n 0, 1) := by decide +kernel
theorem dX12_reads_137 : decode cX12_reads 137 = .ok (.getfield 60, 3) := by decide +kernel
theorem dX12_reads_140 : decode cX12_reads 140 = .ok (.iaload, 1) := by decide +kernel
theorem dX12_reads_141 : decode cX12_reads 141 = .ok (.iadd, 1) := by decide +kernel
theorem dX12_reads_142 : decode cX12_reads 142 = .ok (.bipush 48, 2) := by decide +kernel
theorem dX12_reads_144 : decode cX12_reads 144 = .ok (.isub, 1) := by decide +kernel
theorem dX12_reads_145 : decode cX12_reads 145 = .ok (.putfield 73, 3) := by decide +kernel
theorem dX12_reads_148 : decode cX12_reads 148 = .ok (.aload_n 0, 1) := by decide +kernel
theorem dX12_reads_149 : decode cX12_reads 149 = .ok (.dup, 1) := by decide +kernel
theorem dX12_reads_150 : decode cX12_reads 150 = .ok (.getfield 60, 3) := by decide +kernel
theorem dX12_reads_153 : decode cX12_reads 153 = .ok (.iconst 1, 1) := by decide +kernel
theorem dX12_reads_154 : decode cX12_reads 154 = .ok (.iadd, 1) := by decide +kernel
theorem dX12_reads_155 : decode cX12_reads 155 = .ok (.putfield 60, 3) := by decide +kernel
theorem dX12_reads_158 : decode cX12_reads 158 = .ok (.goto (-76), 3) := by decide +kernel
theorem dX12_reads_161 : decode cX12_reads 161 = .ok (.aload_n 0, 1) := by decide +kernel
theorem dX12_reads_162 : decode cX12_reads 162 = .ok (.aload_n 0, 1) := by decide +kernel
theorem dX12_reads_163 : decode cX12_reads 163 = .ok (.getfield 73, 3) := by decide +kernel
theorem dX12_reads_166 : decode cX12_reads 166 = .ok (.bipush 127, 2) := by decide +kernel
theorem dX12_reads_168 : decode cX12_reads 168 = .ok (.if_icmp .gt 30, 3) := by decide +kernel
theorem dX12_reads_171 : decode cX12_reads 171 = .ok (.aload_n 0, 1) := by decide +kernel
theorem dX12_reads_172 : decode cX12_reads 172 = .ok (.getfield 60, 3) := by decide +kernel
theorem dX12_reads_175 : decode cX12_reads 175 = .ok (.aload_n 0, 1) := by decide +kernel
theorem dX12_reads_176 : decode cX12_reads 176 = .ok (.getfield 63, 3) := by decide +kernel
theorem dX12_reads_179 : decode cX12_reads 179 = .ok (.isub, 1) := by decide +kernel
theorem dX12_reads_180 : decode cX12_reads 180 = .ok (.iconst 1, 1) := by decide +kernel
theorem dX12_reads_181 : decode cX12_reads 181 = .ok (.if_icmp .le 21, 3) := by decide +kernel
theorem dX12_reads_184 : decode cX12_reads 184 = .ok (.aload_n 0, 1) := by decide +kernel
theorem dX12_reads_185 : decode cX12_reads 185 = .ok (.getfield 7, 3) := by decide +kernel
theorem dX12_reads_188 : decode cX12_reads 188 = .ok (.aload_n 0, 1) := by decide +kernel
theorem dX12_reads_189 : decode cX12_reads 189 = .ok (.getfield 63, 3) := by decide +kernel
theorem dX12_reads_192 : decode cX12_reads 192 = .ok (.iaload, 1) := by decide +kernel
theorem dX12_reads_193 : decode cX12_reads 193 = .ok (.bipush 48, 2) := by decide +kernel
theorem dX12_reads_195 : decode cX12_reads 195 = .ok (.if_icmp .ne 7, 3) := by decide +kernel
theorem dX12_reads_198 : decode cX12_reads 198 = .ok (.iconst 4, 1) := by decide +kernel
theorem dX12_reads_199 : decode cX12_reads 199 = .ok (.goto 4, 3) := by decide +kernel
theorem dX12_reads_202 : decode cX12_reads 202 = .ok (.iconst 2, 1) := by decide +kernel
theorem dX12_reads_203 : decode cX12_reads 203 = .ok (.putfield 66, 3) := by decide +kernel
theorem dX12_reads_206 : decode cX12_reads 206 = .ok (.goto 86, 3) := by decide +kernel
theorem dX12_reads_209 : decode cX12_reads 209 = .ok (.aload_n 0, 1) := by decide +kernel
theorem dX12_reads_210 : decode cX12_reads 210 = .ok (.getfield 60, 3) := by decide +kernel
theorem dX12_reads_213 : decode cX12_reads 213 = .ok (.aload_n 0, 1) := by decide +kernel
theorem dX12_reads_214 : decode cX12_reads 214 = .ok (.getfield 52, 3) := by decide +kernel
theorem dX12_reads_217 : decode cX12_reads 217 = .ok (.if_icmp .ge 75, 3) := by decide +kernel
theorem dX12_reads_220 : decode cX12_reads 220 = .ok (.aload_n 0, 1) := by decide +kernel
theorem dX12_reads_221 : decode cX12_reads 221 = .ok (.aload_n 0, 1) := by decide +kernel
theorem dX12_reads_222 : decode cX12_reads 222 = .ok (.getfield 7, 3) := by decide +kernel
theorem dX12_reads_225 : decode cX12_reads 225 = .ok (.aload_n 0, 1) := by decide +kernel
theorem dX12_reads_226 : decode cX12_reads 226 = .ok (.getfield 60, 3) := by decide +kernel
theorem dX12_reads_229 : decode cX12_reads 229 = .ok (.iaload, 1) := by decide +kernel
theorem dX12_reads_230 : decode cX12_reads 230 = .ok (.putfield 73, 3) := by decide +kernel
theorem dX12_reads_233 : decode cX12_reads 233 = .ok (.aload_n 0, 1) := by decide +kernel
theorem dX12_reads_234 : decode cX12_reads 234 = .ok (.aload_n 0, 1) := by decide +kernel
theorem dX12_reads_235 : decode cX12_reads 235 = .ok (.getfield 73, 3) := by decide +kernel
theorem dX12_reads_238 : decode cX12_reads 238 = .ok (.bipush 113, 2) := by decide +kernel
theorem dX12_reads_240 : decode cX12_reads 240 = .ok (.if_icmp .eq 21, 3) := by decide +kernel
theorem dX12_reads_243 : decode cX12_reads 243 = .ok (.aload_n 0, 1) := by decide +kernel
theorem dX12_reads_244 : decode cX12_reads 244 = .ok (.getfield 73, 3) := by decide +kernel
theorem dX12_reads_247 : decode cX12_reads 247 = .ok (.bipush 112, 2) := by decide +kernel
theorem dX12_reads_249 : decode cX12_reads 249 = .ok (.if_icmp .eq 12, 3) := by decide +kernel
theorem dX12_reads_252 : decode cX12_reads 252 = .ok (.aload_n 0, 1) := by decide +kernel
theorem dX12_reads_253 : decode cX12_reads 253 = .ok (.getfield 73, 3) := by decide +kernel
theorem dX12_reads_256 : decode cX12_reads 256 = .ok (.bipush 120, 2) := by decide +kernel
theorem dX12_reads_258 : decode cX12_reads 258 = .ok (.if_icmp .ne 7, 3) := by decide +kernel
theorem dX12_reads_261 : decode cX12_reads 261 = .ok (.iconst 1, 1) := by decide +kernel
theorem dX12_reads_262 : decode cX12_reads 262 = .ok (.goto 17, 3) := by decide +kernel
theorem dX12_reads_265 : decode cX12_reads 265 = .ok (.aload_n 0, 1) := by decide +kernel
theorem dX12_reads_266 : decode cX12_reads 266 = .ok (.getfield 73, 3) := by decide +kernel
theorem dX12_reads_269 : decode cX12_reads 269 = .ok (.bipush 59, 2) := by decide +kernel
theorem dX12_reads_271 : decode cX12_reads 271 = .ok (.if_icmp .ne 7, 3) := by decide +kernel
theorem dX12_reads_274 : decode cX12_reads 274 = .ok (.iconst 3, 1) := by decide +kernel
theorem dX12_reads_275 : decode cX12_reads 275 = .ok (.goto 4, 3) := by decide +kernel
theorem dX12_reads_278 : decode cX12_reads 278 = .ok (.iconst 4, 1) := by decide +kernel
theorem dX12_reads_279 : decode cX12_reads 279 = .ok (.putfield 66, 3) := by decide +kernel
theorem dX12_reads_282 : decode cX12_reads 282 = .ok (.aload_n 0, 1) := by decide +kernel
theorem dX12_reads_283 : decode cX12_reads 283 = .ok (.dup, 1) := by decide +kernel
theorem dX12_reads_284 : decode cX12_reads 284 = .ok (.getfield 60, 3) := by decide +kernel
theorem dX12_reads_287 : decode cX12_reads 287 = .ok (.iconst 1, 1) := by decide +kernel
theorem dX12_reads_288 : decode cX12_reads 288 = .ok (.iadd, 1) := by decide +kernel
theorem dX12_reads_289 : decode cX12_reads 289 = .ok (.putfield 60, 3) := by decide +kernel
theorem dX12_reads_292 : decode cX12_reads 292 = .ok (.return_, 1) := by decide +kernel
set_option maxRecDepth 20000 in
theorem ggX12_number_X12_reads : GoodIn wsX12_number wsX12_reads := goodIn_r _ [7, 8, 9, 10, 11, 1, 2, 12, 13, 6, 14, 15, 16, 17, 18, 19, 20, 21, 22, 23, 24, 25, 26, 27, 28, 29, 30, 31, 32, 33, 34, 35, 36, 37] (by decide +kernel) (by decide +kernel)
set_option maxRecDepth 20000 in
theorem gX12_number_X12_reads : GoodIn wsX12_number (wsV RX12 76 RX12 yX12_reads wsX12_reads) := goodIn_app (goodIn_of _ (by decide +kernel)) ggX12_number_X12_reads
set_option maxRecDepth 20000 in
theorem ggX12_number_X12_in : GoodIn wsX12_number wsX12_in := goodIn_r _ [19] (by decide +kernel) (by decide +kernel)
set_option maxRecDepth 20000 in
theorem gX12_number_X12_in : GoodIn wsX12_number (va_wsS RX12 48 yX12_in wsX12_in) := goodIn_app (goodIn_of _ (by decide +kernel)) ggX12_number_X12_in
theorem dX12_number_0 : decode cX12_number 0 = .ok (.aload_n 0, 1) := by decide +kernel
theorem dX12_number_1 : decode cX12_number 1 = .ok (.invokevirtual 76, 3) := by decide +kernel
theorem dX12_number_4 : decode cX12_number 4 = .ok (.aload_n 0, 1) := by decide +kernel
theorem dX12_number_5 : decode cX12_number 5 = .ok (.getfield 66, 3) := by decide +kernel
theorem dX12_number_8 : decode cX12_number 8 = .ok (.iconst 2, 1) := by decide +kernel
theorem dX12_number_9 : decode cX12_number 9 = .ok (.if_icmp .ne 22, 3) := by decide +kernel
theorem dX12_number_12 : decode cX12_number 12 = .ok (.aload_n 0, 1) := by decide +kernel
theorem dX12_number_13 : decode cX12_number 13 = .ok (.getfield 73, 3) := by decide +kernel
theorem dX12_number_16 : decode cX12_number 16 = .ok (.i2l, 1) := by decide +kernel
theorem dX12_number_17 : decode cX12_number 17 = .ok (.iload_n 1, 1) := by decide +kernel
theorem dX12_number_18 : decode cX12_number 18 = .ok (.i2l, 1) := by decide +kernel
theorem dX12_number_19 : decode cX12_number 19 = .ok (.iload_n 2, 1) := by decide +kernel
theorem dX12_number_20 : decode cX12_number 20 = .ok (.i2l, 1) := by decide +kernel
theorem dX12_number_21 : decode cX12_number 21 = .ok (.invokestatic 48, 3) := by decide +kernel
theorem dX12_number_24 : decode cX12_number 24 = .ok (.ifCond .eq 7, 3) := by decide +kernel
theorem dX12_number_27 : decode cX12_number 27 = .ok (.iconst 1, 1) := by decide +kernel
theorem dX12_number_28 : decode cX12_number 28 = .ok (.goto 4, 3) := by decide +kernel
theorem dX12_number_31 : decode cX12_number 31 = .ok (.iconst 0, 1) := by decide +kernel
theorem dX12_number_32 : decode cX12_number 32 = .ok (.ireturn, 1) := by decide +kernel
set_option maxRecDepth 20000 in
theorem ggX12_itemEnds_X12_reads : GoodIn wsX12_itemEnds wsX12_reads := goodIn_r _ [6, 7, 8, 9, 10, 1, 11, 12, 13, 5, 14, 15, 16, 17, 18, 19, 20, 21, 22, 23, 24, 25, 26, 27, 28, 29, 30, 31, 32, 33, 34, 35, 36, 37] (by decide +kernel) (by decide +kernel)
set_option maxRecDepth 20000 in
theorem gX12_itemEnds_X12_reads : GoodIn wsX12_itemEnds (wsV RX12 76 RX12 yX12_reads wsX12_reads) := goodIn_app (goodIn_of _ (by decide +kernel)) ggX12_itemEnds_X12_reads
theorem dX12_itemEnds_0 : decode cX12_itemEnds 0 = .ok (.aload_n 0, 1) := by decide +kernel
theorem dX12_itemEnds_1 : decode cX12_itemEnds 1 = .ok (.invokevirtual 76, 3) := by decide +kernel
theorem dX12_itemEnds_4 : decode cX12_itemEnds 4 = .ok (.aload_n 0, 1) := by decide +kernel
theorem dX12_itemEnds_5 : decode cX12_itemEnds 5 = .ok (.getfield 66, 3) := by decide +kernel
theorem dX12_itemEnds_8 : decode cX12_itemEnds 8 = .ok (.iconst 3, 1) := by decide +kernel
theorem dX12_itemEnds_9 : decode cX12_itemEnds 9 = .ok (.if_icmp .ne 7, 3) := by decide +kernel
theorem dX12_itemEnds_12 : decode cX12_itemEnds 12 = .ok (.iconst 1, 1) := by decide +kernel
theorem dX12_itemEnds_13 : decode cX12_itemEnds 13 = .ok (.goto 4, 3) := by decide +kernel
theorem dX12_itemEnds_16 : decode cX12_itemEnds 16 = .ok (.iconst 0, 1) := by decide +kernel
theorem dX12_itemEnds_17 : decode cX12_itemEnds 17 = .ok (.ireturn, 1) := by decide +kernel
theorem dX12_plain_0 : decode cX12_plain 0 = .ok (.iconst 0, 1) := by decide +kernel
theorem dX12_plain_1 : decode cX12_plain 1 = .ok (.istore_n 1, 1) := by decide +kernel
theorem dX12_plain_2 : decode cX12_plain 2 = .ok (.iload_n 1, 1) := by decide +kernel
theorem dX12_plain_3 : decode cX12_plain 3 = .ok (.bipush 21, 2) := by decide +kernel
theorem dX12_plain_5 : decode cX12_plain 5 = .ok (.if_icmp .ge 16, 3) := by decide +kernel
theorem dX12_plain_8 : decode cX12_plain 8 = .ok (.aload_n 0, 1) := by decide +kernel
theorem dX12_plain_9 : decode cX12_plain 9 = .ok (.getfield 13, 3) := by decide +kernel
theorem dX12_plain_12 : decode cX12_plain 12 = .ok (.iload_n 1, 1) := by decide +kernel
theorem dX12_plain_13 : decode cX12_plain 13 = .ok (.iconst 0, 1) := by decide +kernel
theorem dX12_plain_14 : decode cX12_plain 14 = .ok (.iastore, 1) := by decide +kernel
theorem dX12_plain_15 : decode cX12_plain 15 = .ok (.iinc 1 1, 3) := by decide +kernel
theorem dX12_plain_18 : decode cX12_plain 18 = .ok (.goto (-16), 3) := by decide +kernel
theorem dX12_plain_21 : decode cX12_plain 21 = .ok (.aload_n 0, 1) := by decide +kernel
theorem dX12_plain_22 : decode cX12_plain 22 = .ok (.getfield 13, 3) := by decide +kernel
theorem dX12_plain_25 : decode cX12_plain 25 = .ok (.iconst 1, 1) := by decide +kernel
theorem dX12_plain_26 : decode cX12_plain 26 = .ok (.iconst 3, 1) := by decide +kernel
theorem dX12_plain_27 : decode cX12_plain 27 = .ok (.iastore, 1) := by decide +kernel
theorem dX12_plain_28 : decode cX12_plain 28 = .ok (.return_, 1) := by decide +kernel
set_option maxRecDepth 20000 in
theorem ggX12_readClash_X12_number : GoodIn wsX12_readClash wsX12_number := goodIn_r _ [7, 8, 1, 9, 10, 11, 6, 12, 13, 14, 15, 16, 17, 18, 19, 20, 21, 22, 23, 24, 29, 30, 31, 32, 33, 34, 35, 36, 37, 38, 39, 40, 41, 42, 43, 44, 45, 46] (by decide +kernel) (by decide +kernel)
set_option maxRecDepth 20000 in
theorem gX12_readClash_X12_number : GoodIn wsX12_readClash (wsV RX12 79 RX12 yX12_number wsX12_number) := goodIn_app (goodIn_of _ (by decide +kernel)) ggX12_readClash_X12_number
set_option maxRecDepth 20000 in
theorem ggX12_readClash_X12_itemEnds : GoodIn wsX12_readClash wsX12_itemEnds := goodIn_r _ [28, 8, 9, 10, 11, 6, 12, 13, 14, 15, 16, 1, 17, 18, 19, 20, 21, 22, 23, 24, 29, 30, 31, 32, 33, 34, 35, 36, 37, 38, 39, 40, 41, 42, 43, 44, 45, 46] (by decide +kernel) (by decide +kernel)
set_option maxRecDepth 20000 in
theorem gX12_readClash_X12_itemEnds : GoodIn wsX12_readClash (wsV RX12 83 RX12 yX12_itemEnds wsX12_itemEnds) := goodIn_app (goodIn_of _ (by decide +kernel)) ggX12_readClash_X12_itemEnds
end
section
theorem dX12_readClash_0 : decode cX12_readClash 0 = .ok (.aload_n 0, 1) := by decide +kernel
theorem dX12_readClash_1 : decode cX12_readClash 1 = .ok (.iconst 0, 1) := by decide +kernel
theorem dX12_readClash_2 : decode cX12_readClash 2 = .ok (.bipush 6, 2) := by decide +kernel
theorem dX12_readClash_4 : decode cX12_readClash 4 = .ok (.invokevirtual 79, 3) := by decide +kernel
theorem dX12_readClash_7 : decode cX12_readClash 7 = .ok (.ifCond .ne 5, 3) := by decide +kernel
theorem dX12_readClash_10 : decode cX12_readClash 10 = .ok (.iconst 0, 1) := by decide +kernel
theorem dX12_readClash_11 : decode cX12_readClash 11 = .ok (.ireturn, 1) := by decide +kernel
theorem dX12_readClash_12 : decode cX12_readClash 12 = .ok (.aload_n 0, 1) := by decide +kernel
theorem dX12_readClash_13 : decode cX12_readClash 13 = .ok (.getfield 73, 3) := by decide +kernel
theorem dX12_readClash_16 : decode cX12_readClash 16 = .ok (.istore_n 1, 1) := by decide +kernel
theorem dX12_readClash_17 : decode cX12_readClash 17 = .ok (.aload_n 0, 1) := by decide +kernel
theorem dX12_readClash_18 : decode cX12_readClash 18 = .ok (.iconst 0, 1) := by decide +kernel
theorem dX12_readClash_19 : decode cX12_readClash 19 = .ok (.bipush 6, 2) := by decide +kernel
theorem dX12_readClash_21 : decode cX12_readClash 21 = .ok (.invokevirtual 79, 3) := by decide +kernel
theorem dX12_readClash_24 : decode cX12_readClash 24 = .ok (.ifCond .eq 11, 3) := by decide +kernel
theorem dX12_readClash_27 : decode cX12_readClash 27 = .ok (.aload_n 0, 1) := by decide +kernel
theorem dX12_readClash_28 : decode cX12_readClash 28 = .ok (.getfield 73, 3) := by decide +kernel
theorem dX12_readClash_31 : decode cX12_readClash 31 = .ok (.iload_n 1, 1) := by decide +kernel
theorem dX12_readClash_32 : decode cX12_readClash 32 = .ok (.if_icmp .ne 5, 3) := by decide +kernel
theorem dX12_readClash_35 : decode cX12_readClash 35 = .ok (.iconst 0, 1) := by decide +kernel
theorem dX12_readClash_36 : decode cX12_readClash 36 = .ok (.ireturn, 1) := by decide +kernel
theorem dX12_readClash_37 : decode cX12_readClash 37 = .ok (.aload_n 0, 1) := by decide +kernel
theorem dX12_readClash_38 : decode cX12_readClash 38 = .ok (.getfield 13, 3) := by decide +kernel
theorem dX12_readClash_41 : decode cX12_readClash 41 = .ok (.bipush 14, 2) := by decide +kernel
theorem dX12_readClash_43 : decode cX12_readClash 43 = .ok (.iload_n 1, 1) := by decide +kernel
theorem dX12_readClash_44 : decode cX12_readClash 44 = .ok (.iadd, 1) := by decide +kernel
theorem dX12_readClash_45 : decode cX12_readClash 45 = .ok (.dup2, 1) := by decide +kernel
theorem dX12_readClash_46 : decode cX12_readClash 46 = .ok (.iaload, 1) := by decide +kernel
theorem dX12_readClash_47 : decode cX12_readClash 47 = .ok (.iconst 1, 1) := by decide +kernel
theorem dX12_readClash_48 : decode cX12_readClash 48 = .ok (.aload_n 0, 1) := by decide +kernel
theorem dX12_readClash_49 : decode cX12_readClash 49 = .ok (.getfield 73, 3) := by decide +kernel
theorem dX12_readClash_52 : decode cX12_readClash 52 = .ok (.ishl, 1) := by decide +kernel
theorem dX12_readClash_53 : decode cX12_readClash 53 = .ok (.ior, 1) := by decide +kernel
theorem dX12_readClash_54 : decode cX12_readClash 54 = .ok (.iastore, 1) := by decide +kernel
theorem dX12_readClash_55 : decode cX12_readClash 55 = .ok (.aload_n 0, 1) := by decide +kernel
theorem dX12_readClash_56 : decode cX12_readClash 56 = .ok (.getfield 13, 3) := by decide +kernel
theorem dX12_readClash_59 : decode cX12_readClash 59 = .ok (.bipush 14, 2) := by decide +kernel
theorem dX12_readClash_61 : decode cX12_readClash 61 = .ok (.aload_n 0, 1) := by decide +kernel
theorem dX12_readClash_62 : decode cX12_readClash 62 = .ok (.getfield 73, 3) := by decide +kernel
theorem dX12_readClash_65 : decode cX12_readClash 65 = .ok (.iadd, 1) := by decide +kernel
theorem dX12_readClash_66 : decode cX12_readClash 66 = .ok (.dup2, 1) := by decide +kernel
theorem dX12_readClash_67 : decode cX12_readClash 67 = .ok (.iaload, 1) := by decide +kernel
theorem dX12_readClash_68 : decode cX12_readClash 68 = .ok (.iconst 1, 1) := by decide +kernel
theorem dX12_readClash_69 : decode cX12_readClash 69 = .ok (.iload_n 1, 1) := by decide +kernel
theorem dX12_readClash_70 : decode cX12_readClash 70 = .ok (.ishl, 1) := by decide +kernel
theorem dX12_readClash_71 : decode cX12_readClash 71 = .ok (.ior, 1) := by decide +kernel
theorem dX12_readClash_72 : decode cX12_readClash 72 = .ok (.iastore, 1) := by decide +kernel
theorem dX12_readClash_73 : decode cX12_readClash 73 = .ok (.aload_n 0, 1) := by decide +kernel
theorem dX12_readClash_74 : decode cX12_readClash 74 = .ok (.invokevirtual 83, 3) := by decide +kernel
theorem dX12_readClash_77 : decode cX12_readClash 77 = .ok (.ireturn, 1) := by decide +kernel
set_option maxRecDepth 20000 in
theorem ggX12_readItem_X12_number : GoodIn wsX12_readItem wsX12_number := goodIn_r _ [8, 1, 2, 9, 10, 11, 7, 12, 13, 14, 15, 16, 17, 18, 19, 20, 21, 22, 23, 24, 33, 34, 35, 36, 37, 38, 39, 40, 41, 42, 43, 44, 45, 46, 47, 48, 49, 50] (by decide +kernel) (by decide +kernel)
set_option maxRecDepth 20000 in
theorem gX12_readItem_X12_number : GoodIn wsX12_readItem (wsV RX12 79 RX12 yX12_number wsX12_number) := goodIn_app (goodIn_of _ (by decide +kernel)) ggX12_readItem_X12_number
set_option maxRecDepth 20000 in
theorem ggX12_readItem_X12_itemEnds : GoodIn wsX12_readItem wsX12_itemEnds := goodIn_r _ [28, 1, 9, 10, 11, 7, 12, 13, 14, 15, 16, 2, 17, 18, 19, 20, 21, 22, 23, 24, 33, 34, 35, 36, 37, 38, 39, 40, 41, 42, 43, 44, 45, 46, 47, 48, 49, 50] (by decide +kernel) (by decide +kernel)
set_option maxRecDepth 20000 in
theorem gX12_readItem_X12_itemEnds : GoodIn wsX12_readItem (wsV RX12 83 RX12 yX12_itemEnds wsX12_itemEnds) := goodIn_app (goodIn_of _ (by decide +kernel)) ggX12_readItem_X12_itemEnds
set_option maxRecDepth 20000 in
theorem ggX12_readItem_X12_readClash : GoodIn wsX12_readItem wsX12_readClash := goodIn_r _ [32, 2, 3, 4, 5, 6, 7, 8, 1, 9, 10, 11, 12, 13, 14, 15, 16, 17, 18, 19, 20, 21, 22, 23, 24, 25, 26, 27, 28, 33, 34, 35, 36, 37, 38, 39, 40, 41, 42, 43, 44, 45, 46, 47, 48, 49, 50] (by decide +kernel) (by decide +kernel)
set_option maxRecDepth 20000 in
theorem gX12_readItem_X12_readClash : GoodIn wsX12_readItem (wsV RX12 87 RX12 yX12_readClash wsX12_readClash) := goodIn_app (goodIn_of _ (by decide +kernel)) ggX12_readItem_X12_readClash
theorem dX12_readItem_0 : decode cX12_readItem 0 = .ok (.aload_n 0, 1) := by decide +kernel
theorem dX12_readItem_1 : decode cX12_readItem 1 = .ok (.getfield 66, 3) := by decide +kernel
theorem dX12_readItem_4 : decode cX12_readItem 4 = .ok (.iconst 1, 1) := by decide +kernel
theorem dX12_readItem_5 : decode cX12_readItem 5 = .ok (.if_icmp .eq 5, 3) := by decide +kernel
theorem dX12_readItem_8 : decode cX12_readItem 8 = .ok (.iconst 0, 1) := by decide +kernel
theorem dX12_readItem_9 : decode cX12_readItem 9 = .ok (.ireturn, 1) := by decide +kernel
theorem dX12_readItem_10 : decode cX12_readItem 10 = .ok (.aload_n 0, 1) := by decide +kernel
theorem dX12_readItem_11 : decode cX12_readItem 11 = .ok (.getfield 73, 3) := by decide +kernel
theorem dX12_readItem_14 : decode cX12_readItem 14 = .ok (.bipush 113, 2) := by decide +kernel
theorem dX12_readItem_16 : decode cX12_readItem 16 = .ok (.if_icmp .ne 34, 3) := by decide +kernel
theorem dX12_readItem_19 : decode cX12_readItem 19 = .ok (.iload_n 1, 1) := by decide +kernel
theorem dX12_readItem_20 : decode cX12_readItem 20 = .ok (.ifCond .gt 13, 3) := by decide +kernel
theorem dX12_readItem_23 : decode cX12_readItem 23 = .ok (.aload_n 0, 1) := by decide +kernel
theorem dX12_readItem_24 : decode cX12_readItem 24 = .ok (.iconst 1, 1) := by decide +kernel
theorem dX12_readItem_25 : decode cX12_readItem 25 = .ok (.bipush 6, 2) := by decide +kernel
theorem dX12_readItem_27 : decode cX12_readItem 27 = .ok (.invokevirtual 79, 3) := by decide +kernel
theorem dX12_readItem_30 : decode cX12_readItem 30 = .ok (.ifCond .ne 5, 3) := by decide +kernel
theorem dX12_readItem_33 : decode cX12_readItem 33 = .ok (.iconst 0, 1) := by decide +kernel
theorem dX12_readItem_34 : decode cX12_readItem 34 = .ok (.ireturn, 1) := by decide +kernel
theorem dX12_readItem_35 : decode cX12_readItem 35 = .ok (.aload_n 0, 1) := by decide +kernel
theorem dX12_readItem_36 : decode cX12_readItem 36 = .ok (.getfield 13, 3) := by decide +kernel
theorem dX12_readItem_39 : decode cX12_readItem 39 = .ok (.iconst 1, 1) := by decide +kernel
theorem dX12_readItem_40 : decode cX12_readItem 40 = .ok (.aload_n 0, 1) := by decide +kernel
theorem dX12_readItem_41 : decode cX12_readItem 41 = .ok (.getfield 73, 3) := by decide +kernel
theorem dX12_readItem_44 : decode cX12_readItem 44 = .ok (.iastore, 1) := by decide +kernel
theorem dX12_readItem_45 : decode cX12_readItem 45 = .ok (.aload_n 0, 1) := by decide +kernel
theorem dX12_readItem_46 : decode cX12_readItem 46 = .ok (.invokevirtual 83, 3) := by decide +kernel
theorem dX12_readItem_49 : decode cX12_readItem 49 = .ok (.ireturn, 1) := by decide +kernel
theorem dX12_readItem_50 : decode cX12_readItem 50 = .ok (.aload_n 0, 1) := by decide +kernel
theorem dX12_readItem_51 : decode cX12_readItem 51 = .ok (.getfield 73, 3) := by decide +kernel
theorem dX12_readItem_54 : decode cX12_readItem 54 = .ok (.bipush 120, 2) := by decide +kernel
theorem dX12_readItem_56 : decode cX12_readItem 56 = .ok (.if_icmp .ne 8, 3) := by decide +kernel
theorem dX12_readItem_59 : decode cX12_readItem 59 = .ok (.aload_n 0, 1) := by decide +kernel
theorem dX12_readItem_60 : decode cX12_readItem 60 = .ok (.invokevirtual 87, 3) := by decide +kernel
theorem dX12_readItem_63 : decode cX12_readItem 63 = .ok (.ireturn, 1) := by decide +kernel
theorem dX12_readItem_64 : decode cX12_readItem 64 = .ok (.iconst 2, 1) := by decide +kernel
theorem dX12_readItem_65 : decode cX12_readItem 65 = .ok (.iconst 2, 1) := by decide +kernel
theorem dX12_readItem_66 : decode cX12_readItem 66 = .ok (.aload_n 0, 1) := by decide +kernel
theorem dX12_readItem_67 : decode cX12_readItem 67 = .ok (.getfield 13, 3) := by decide +kernel
theorem dX12_readItem_70 : decode cX12_readItem 70 = .ok (.iconst 0, 1) := by decide +kernel
theorem dX12_readItem_71 : decode cX12_readItem 71 = .ok (.iaload, 1) := by decide +kernel
theorem dX12_readItem_72 : decode cX12_readItem 72 = .ok (.imul, 1) := by decide +kernel
theorem dX12_readItem_73 : decode cX12_readItem 73 = .ok (.iadd, 1) := by decide +kernel
theorem dX12_readItem_74 : decode cX12_readItem 74 = .ok (.istore_n 2, 1) := by decide +kernel
theorem dX12_readItem_75 : decode cX12_readItem 75 = .ok (.aload_n 0, 1) := by decide +kernel
theorem dX12_readItem_76 : decode cX12_readItem 76 = .ok (.getfield 13, 3) := by decide +kernel
theorem dX12_readItem_79 : decode cX12_readItem 79 = .ok (.iconst 0, 1) := by decide +kernel
theorem dX12_readItem_80 : decode cX12_readItem 80 = .ok (.iaload, 1) := by decide +kernel
theorem dX12_readItem_81 : decode cX12_readItem 81 = .ok (.bipush 6, 2) := by decide +kernel
theorem dX12_readItem_83 : decode cX12_readItem 83 = .ok (.if_icmp .eq 13, 3) := by decide +kernel
theorem dX12_readItem_86 : decode cX12_readItem 86 = .ok (.aload_n 0, 1) := by decide +kernel
theorem dX12_readItem_87 : decode cX12_readItem 87 = .ok (.iconst 0, 1) := by decide +kernel
theorem dX12_readItem_88 : decode cX12_readItem 88 = .ok (.bipush 127, 2) := by decide +kernel
theorem dX12_readItem_90 : decode cX12_readItem 90 = .ok (.invokevirtual 79, 3) := by decide +kernel
theorem dX12_readItem_93 : decode cX12_readItem 93 = .ok (.ifCond .ne 5, 3) := by decide +kernel
theorem dX12_readItem_96 : decode cX12_readItem 96 = .ok (.iconst 0, 1) := by decide +kernel
theorem dX12_readItem_97 : decode cX12_readItem 97 = .ok (.ireturn, 1) := by decide +kernel
theorem dX12_readItem_98 : decode cX12_readItem 98 = .ok (.aload_n 0, 1) := by decide +kernel
theorem dX12_readItem_99 : decode cX12_readItem 99 = .ok (.getfield 13, 3) := by decide +kernel
theorem dX12_readItem_102 : decode cX12_readItem 102 = .ok (.iload_n 2, 1) := by decide +kernel
theorem dX12_readItem_103 : decode cX12_readItem 103 = .ok (.aload_n 0, 1) := by decide +kernel
theorem dX12_readItem_104 : decode cX12_readItem 104 = .ok (.getfield 73, 3) := by decide +kernel
theorem dX12_readItem_107 : decode cX12_readItem 107 = .ok (.iastore, 1) := by decide +kernel
theorem dX12_readItem_108 : decode cX12_readItem 108 = .ok (.aload_n 0, 1) := by decide +kernel
theorem dX12_readItem_109 : decode cX12_readItem 109 = .ok (.iconst 0, 1) := by decide +kernel
theorem dX12_readItem_110 : decode cX12_readItem 110 = .ok (.bipush 10, 2) := by decide +kernel
theorem dX12_readItem_112 : decode cX12_readItem 112 = .ok (.invokevirtual 79, 3) := by decide +kernel
theorem dX12_readItem_115 : decode cX12_readItem 115 = .ok (.ifCond .ne 5, 3) := by decide +kernel
theorem dX12_readItem_118 : decode cX12_readItem 118 = .ok (.iconst 0, 1) := by decide +kernel
theorem dX12_readItem_119 : decode cX12_readItem 119 = .ok (.ireturn, 1) := by decide +kernel
theorem dX12_readItem_120 : decode cX12_readItem 120 = .ok (.aload_n 0, 1) := by decide +kernel
theorem dX12_readItem_121 : decode cX12_readItem 121 = .ok (.getfield 13, 3) := by decide +kernel
theorem dX12_readItem_124 : decode cX12_readItem 124 = .ok (.iload_n 2, 1) := by decide +kernel
theorem dX12_readItem_125 : decode cX12_readItem 125 = .ok (.iconst 1, 1) := by decide +kernel
theorem dX12_readItem_126 : decode cX12_readItem 126 = .ok (.iadd, 1) := by decide +kernel
theorem dX12_readItem_127 : decode cX12_readItem 127 = .ok (.aload_n 0, 1) := by decide +kernel
theorem dX12_readItem_128 : decode cX12_readItem 128 = .ok (.getfield 73, 3) := by decide +kernel
theorem dX12_readItem_131 : decode cX12_readItem 131 = .ok (.iastore, 1) := by decide +kernel
theorem dX12_readItem_132 : decode cX12_readItem 132 = .ok (.aload_n 0, 1) := by decide +kernel
theorem dX12_readItem_133 : decode cX12_readItem 133 = .ok (.getfield 13, 3) := by decide +kernel
theorem dX12_readItem_136 : decode cX12_readItem 136 = .ok (.iconst 0, 1) := by decide +kernel
theorem dX12_readItem_137 : decode cX12_readItem 137 = .ok (.dup2, 1) := by decide +kernel
theorem dX12_readItem_138 : decode cX12_readItem 138 = .ok (.iaload, 1) := by decide +kernel
theorem dX12_readItem_139 : decode cX12_readItem 139 = .ok (.iconst 1, 1) := by decide +kernel
theorem dX12_readItem_140 : decode cX12_readItem 140 = .ok (.iadd, 1) := by decide +kernel
theorem dX12_readItem_141 : decode cX12_readItem 141 = .ok (.iastore, 1) := by decide +kernel
theorem dX12_readItem_142 : decode cX12_readItem 142 = .ok (.aload_n 0, 1) := by decide +kernel
theorem dX12_readItem_143 : decode cX12_readItem 143 = .ok (.invokevirtual 83, 3) := by decide +kernel
theorem dX12_readItem_146 : decode cX12_readItem 146 = .ok (.ireturn, 1) := by decide +kernel
set_option maxRecDepth 20000 in
theorem ggX12_court_X12_plain : GoodIn wsX12_court wsX12_plain := goodIn_r _ [9, 10, 50, 51, 52, 53, 54, 55, 56, 57, 58, 59, 60, 61, 62, 63, 64, 65, 66, 67] (by decide +kernel) (by decide +kernel)
set_option maxRecDepth 20000 in
theorem gX12_court_X12_plain : GoodIn wsX12_court (wsV RX12 40 RX12 yX12_plain wsX12_plain) := goodIn_app (goodIn_of _ (by decide +kernel)) ggX12_court_X12_plain
set_option maxRecDepth 20000 in
theorem ggX12_court_X12_reads : GoodIn wsX12_court wsX12_reads := goodIn_r _ [14, 1, 4, 15, 3, 2, 16, 17, 18, 8, 19, 20, 21, 22, 23, 24, 50, 51, 52, 53, 54, 55, 56, 57, 58, 59, 60, 61, 62, 63, 64, 65, 66, 67] (by decide +kernel) (by decide +kernel)
set_option maxRecDepth 20000 in
theorem gX12_court_X12_reads : GoodIn wsX12_court (wsV RX12 76 RX12 yX12_reads wsX12_reads) := goodIn_app (goodIn_of _ (by decide +kernel)) ggX12_court_X12_reads
set_option maxRecDepth 20000 in
theorem ggX12_court_X12_readItem : GoodIn wsX12_court wsX12_readItem := goodIn_r _ [28, 2, 16, 10, 29, 30, 31, 8, 32, 11, 12, 13, 14, 1, 4, 15, 3, 17, 18, 19, 20, 21, 22, 23, 24, 33, 34, 35, 36, 37, 38, 39, 40, 50, 51, 52, 53, 54, 55, 56, 57, 58, 59, 60, 61, 62, 63, 64, 65, 66, 67] (by decide +kernel) (by decide +kernel)
set_option maxRecDepth 20000 in
theorem gX12_court_X12_readItem : GoodIn wsX12_court (wsV RX12 90 RX12 yX12_readItem wsX12_readItem) := goodIn_app (goodIn_of _ (by decide +kernel)) ggX12_court_X12_readItem
set_option maxRecDepth 20000 in
theorem ggX12_court_X12_takes : GoodIn wsX12_court wsX12_takes := goodIn_r _ [44, 45, 10, 46, 47, 48, 49, 50, 51, 52, 53, 54, 55, 56, 57, 58, 59, 60, 61, 62, 63, 64, 65, 66, 67] (by decide +kernel) (by decide +kernel)
set_option maxRecDepth 20000 in
theorem gX12_court_X12_takes : GoodIn wsX12_court (wsV RX12 43 RX12 yX12_takes wsX12_takes) := goodIn_app (goodIn_of _ (by decide +kernel)) ggX12_court_X12_takes
theorem dX12_court_0 : decode cX12_court 0 = .ok (.aload_n 0, 1) := by decide +kernel
theorem dX12_court_1 : decode cX12_court 1 = .ok (.invokevirtual 40, 3) := by decide +kernel
theorem dX12_court_4 : decode cX12_court 4 = .ok (.aload_n 0, 1) := by decide +kernel
theorem dX12_court_5 : decode cX12_court 5 = .ok (.iconst 0, 1) := by decide +kernel
theorem dX12_court_6 : decode cX12_court 6 = .ok (.putfield 60, 3) := by decide +kernel
theorem dX12_court_9 : decode cX12_court 9 = .ok (.iconst 0, 1) := by decide +kernel
theorem dX12_court_10 : decode cX12_court 10 = .ok (.istore_n 1, 1) := by decide +kernel
theorem dX12_court_11 : decode cX12_court 11 = .ok (.aload_n 0, 1) := by decide +kernel
theorem dX12_court_12 : decode cX12_court 12 = .ok (.invokevirtual 76, 3) := by decide +kernel
theorem dX12_court_15 : decode cX12_court 15 = .ok (.aload_n 0, 1) := by decide +kernel
theorem dX12_court_16 : decode cX12_court 16 = .ok (.getfield 66, 3) := by decide +kernel
theorem dX12_court_19 : decode cX12_court 19 = .ok (.ifCond .eq 29, 3) := by decide +kernel
theorem dX12_court_22 : decode cX12_court 22 = .ok (.aload_n 0, 1) := by decide +kernel
theorem dX12_court_23 : decode cX12_court 23 = .ok (.iload_n 1, 1) := by decide +kernel
theorem dX12_court_24 : decode cX12_court 24 = .ok (.invokevirtual 90, 3) := by decide +kernel
theorem dX12_court_27 : decode cX12_court 27 = .ok (.ifCond .ne 11, 3) := by decide +kernel
theorem dX12_court_30 : decode cX12_court 30 = .ok (.bipush (-10), 2) := by decide +kernel
theorem dX12_court_32 : decode cX12_court 32 = .ok (.aload_n 0, 1) := by decide +kernel
theorem dX12_court_33 : decode cX12_court 33 = .ok (.getfield 63, 3) := by decide +kernel
theorem dX12_court_36 : decode cX12_court 36 = .ok (.isub, 1) := by decide +kernel
theorem dX12_court_37 : decode cX12_court 37 = .ok (.ireturn, 1) := by decide +kernel
theorem dX12_court_38 : decode cX12_court 38 = .ok (.iinc 1 1, 3) := by decide +kernel
theorem dX12_court_41 : decode cX12_court 41 = .ok (.aload_n 0, 1) := by decide +kernel
theorem dX12_court_42 : decode cX12_court 42 = .ok (.invokevirtual 76, 3) := by decide +kernel
theorem dX12_court_45 : decode cX12_court 45 = .ok (.goto (-30), 3) := by decide +kernel
theorem dX12_court_48 : decode cX12_court 48 = .ok (.aload_n 0, 1) := by decide +kernel
theorem dX12_court_49 : decode cX12_court 49 = .ok (.iconst 0, 1) := by decide +kernel
theorem dX12_court_50 : decode cX12_court 50 = .ok (.putfield 52, 3) := by decide +kernel
theorem dX12_court_53 : decode cX12_court 53 = .ok (.aload_n 0, 1) := by decide +kernel
theorem dX12_court_54 : decode cX12_court 54 = .ok (.invokevirtual 43, 3) := by decide +kernel
theorem dX12_court_57 : decode cX12_court 57 = .ok (.iload_n 1, 1) := by decide +kernel
theorem dX12_court_58 : decode cX12_court 58 = .ok (.ireturn, 1) := by decide +kernel
theorem dX12_takes_0 : decode cX12_takes 0 = .ok (.iconst 0, 1) := by decide +kernel
theorem dX12_takes_1 : decode cX12_takes 1 = .ok (.istore_n 1, 1) := by decide +kernel
theorem dX12_takes_2 : decode cX12_takes 2 = .ok (.iload_n 1, 1) := by decide +kernel
theorem dX12_takes_3 : decode cX12_takes 3 = .ok (.bipush 21, 2) := by decide +kernel
theorem dX12_takes_5 : decode cX12_takes 5 = .ok (.if_icmp .ge 21, 3) := by decide +kernel
theorem dX12_takes_8 : decode cX12_takes 8 = .ok (.aload_n 0, 1) := by decide +kernel
theorem dX12_takes_9 : decode cX12_takes 9 = .ok (.getfield 16, 3) := by decide +kernel
theorem dX12_takes_12 : decode cX12_takes 12 = .ok (.iload_n 1, 1) := by decide +kernel
theorem dX12_takes_13 : decode cX12_takes 13 = .ok (.aload_n 0, 1) := by decide +kernel
theorem dX12_takes_14 : decode cX12_takes 14 = .ok (.getfield 13, 3) := by decide +kernel
theorem dX12_takes_17 : decode cX12_takes 17 = .ok (.iload_n 1, 1) := by decide +kernel
theorem dX12_takes_18 : decode cX12_takes 18 = .ok (.iaload, 1) := by decide +kernel
theorem dX12_takes_19 : decode cX12_takes 19 = .ok (.iastore, 1) := by decide +kernel
theorem dX12_takes_20 : decode cX12_takes 20 = .ok (.iinc 1 1, 3) := by decide +kernel
theorem dX12_takes_23 : decode cX12_takes 23 = .ok (.goto (-21), 3) := by decide +kernel
theorem dX12_takes_26 : decode cX12_takes 26 = .ok (.iconst 0, 1) := by decide +kernel
theorem dX12_takes_27 : decode cX12_takes 27 = .ok (.istore_n 1, 1) := by decide +kernel
theorem dX12_takes_28 : decode cX12_takes 28 = .ok (.iload_n 1, 1) := by decide +kernel
theorem dX12_takes_29 : decode cX12_takes 29 = .ok (.bipush 50, 2) := by decide +kernel
theorem dX12_takes_31 : decode cX12_takes 31 = .ok (.if_icmp .ge 16, 3) := by decide +kernel
theorem dX12_takes_34 : decode cX12_takes 34 = .ok (.aload_n 0, 1) := by decide +kernel
theorem dX12_takes_35 : decode cX12_takes 35 = .ok (.getfield 19, 3) := by decide +kernel
theorem dX12_takes_38 : decode cX12_takes 38 = .ok (.iload_n 1, 1) := by decide +kernel
theorem dX12_takes_39 : decode cX12_takes 39 = .ok (.iconst 0, 1) := by decide +kernel
theorem dX12_takes_40 : decode cX12_takes 40 = .ok (.iastore, 1) := by decide +kernel
theorem dX12_takes_41 : decode cX12_takes 41 = .ok (.iinc 1 1, 3) := by decide +kernel
theorem dX12_takes_44 : decode cX12_takes 44 = .ok (.goto (-16), 3) := by decide +kernel
theorem dX12_takes_47 : decode cX12_takes 47 = .ok (.iconst 0, 1) := by decide +kernel
theorem dX12_takes_48 : decode cX12_takes 48 = .ok (.istore_n 1, 1) := by decide +kernel
theorem dX12_takes_49 : decode cX12_takes 49 = .ok (.iload_n 1, 1) := by decide +kernel
theorem dX12_takes_50 : decode cX12_takes 50 = .ok (.bipush 6, 2) := by decide +kernel
theorem dX12_takes_52 : decode cX12_takes 52 = .ok (.if_icmp .ge 43, 3) := by decide +kernel
theorem dX12_takes_55 : decode cX12_takes 55 = .ok (.aload_n 0, 1) := by decide +kernel
theorem dX12_takes_56 : decode cX12_takes 56 = .ok (.getfield 19, 3) := by decide +kernel
theorem dX12_takes_59 : decode cX12_takes 59 = .ok (.iconst 2, 1) := by decide +kernel
theorem dX12_takes_60 : decode cX12_takes 60 = .ok (.iload_n 1, 1) := by decide +kernel
theorem dX12_takes_61 : decode cX12_takes 61 = .ok (.iadd, 1) := by decide +kernel
theorem dX12_takes_62 : decode cX12_takes 62 = .ok (.iload_n 1, 1) := by decide +kernel
theorem dX12_takes_63 : decode cX12_takes 63 = .ok (.aload_n 0, 1) := by decide +kernel
theorem dX12_takes_64 : decode cX12_takes 64 = .ok (.getfield 16, 3) := by decide +kernel
theorem dX12_takes_67 : decode cX12_takes 67 = .ok (.iconst 0, 1) := by decide +kernel
theorem dX12_takes_68 : decode cX12_takes 68 = .ok (.iaload, 1) := by decide +kernel
theorem dX12_takes_69 : decode cX12_takes 69 = .ok (.if_icmp .ge 17, 3) := by decide +kernel
theorem dX12_takes_72 : decode cX12_takes 72 = .ok (.iload_n 1, 1) := by decide +kernel
theorem dX12_takes_73 : decode cX12_takes 73 = .ok (.aload_n 0, 1) := by decide +kernel
theorem dX12_takes_74 : decode cX12_takes 74 = .ok (.getfield 16, 3) := by decide +kernel
theorem dX12_takes_77 : decode cX12_takes 77 = .ok (.iconst 1, 1) := by decide +kernel
theorem dX12_takes_78 : decode cX12_takes 78 = .ok (.iaload, 1) := by decide +kernel
theorem dX12_takes_79 : decode cX12_takes 79 = .ok (.if_icmp .ge 7, 3) := by decide +kernel
theorem dX12_takes_82 : decode cX12_takes 82 = .ok (.iload_n 1, 1) := by decide +kernel
theorem dX12_takes_83 : decode cX12_takes 83 = .ok (.goto 5, 3) := by decide +kernel
theorem dX12_takes_86 : decode cX12_takes 86 = .ok (.bipush (-9), 2) := by decide +kernel
theorem dX12_takes_88 : decode cX12_takes 88 = .ok (.iastore, 1) := by decide +kernel
theorem dX12_takes_89 : decode cX12_takes 89 = .ok (.iinc 1 1, 3) := by decide +kernel
theorem dX12_takes_92 : decode cX12_takes 92 = .ok (.goto (-43), 3) := by decide +kernel
theorem dX12_takes_95 : decode cX12_takes 95 = .ok (.aload_n 0, 1) := by decide +kernel
theorem dX12_takes_96 : decode cX12_takes 96 = .ok (.iconst 0, 1) := by decide +kernel
theorem dX12_takes_97 : decode cX12_takes 97 = .ok (.putfield 93, 3) := by decide +kernel
theorem dX12_takes_100 : decode cX12_takes 100 = .ok (.aload_n 0, 1) := by decide +kernel
theorem dX12_takes_101 : decode cX12_takes 101 = .ok (.iconst 0, 1) := by decide +kernel
theorem dX12_takes_102 : decode cX12_takes 102 = .ok (.putfield 96, 3) := by decide +kernel
theorem dX12_takes_105 : decode cX12_takes 105 = .ok (.aload_n 0, 1) := by decide +kernel
theorem dX12_takes_106 : decode cX12_takes 106 = .ok (.getfield 37, 3) := by decide +kernel
theorem dX12_takes_109 : decode cX12_takes 109 = .ok (.iconst 0, 1) := by decide +kernel
theorem dX12_takes_110 : decode cX12_takes 110 = .ok (.iconst 0, 1) := by decide +kernel
theorem dX12_takes_111 : decode cX12_takes 111 = .ok (.iastore, 1) := by decide +kernel
theorem dX12_takes_112 : decode cX12_takes 112 = .ok (.aload_n 0, 1) := by decide +kernel
theorem dX12_takes_113 : decode cX12_takes 113 = .ok (.getfield 37, 3) := by decide +kernel
theorem dX12_takes_116 : decode cX12_takes 116 = .ok (.bipush 51, 2) := by decide +kernel
theorem dX12_takes_118 : decode cX12_takes 118 = .ok (.iconst 0, 1) := by decide +kernel
theorem dX12_takes_119 : decode cX12_takes 119 = .ok (.iastore, 1) := by decide +kernel
theorem dX12_takes_120 : decode cX12_takes 120 = .ok (.return_, 1) := by decide +kernel
set_option maxRecDepth 20000 in
theorem ggX12_isPerson_X12_in : GoodIn wsX12_isPerson wsX12_in := goodIn_r _ [5] (by decide +kernel) (by decide +kernel)
set_option maxRecDepth 20000 in
theorem gX12_isPerson_X12_in : GoodIn wsX12_isPerson (va_wsS RX12 48 yX12_in wsX12_in) := goodIn_app (goodIn_of _ (by decide +kernel)) ggX12_isPerson_X12_in
theorem dX12_isPerson_0 : decode cX12_isPerson 0 = .ok (.iload_n 1, 1) := by decide +kernel
theorem dX12_isPerson_1 : decode cX12_isPerson 1 = .ok (.i2l, 1) := by decide +kernel
theorem dX12_isPerson_2 : decode cX12_isPerson 2 = .ok (.lconst 0, 1) := by decide +kernel
theorem dX12_isPerson_3 : decode cX12_isPerson 3 = .ok (.aload_n 0, 1) := by decide +kernel
theorem dX12_isPerson_4 : decode cX12_isPerson 4 = .ok (.getfield 16, 3) := by decide +kernel
theorem dX12_isPerson_7 : decode cX12_isPerson 7 = .ok (.iconst 0, 1) := by decide +kernel
theorem dX12_isPerson_8 : decode cX12_isPerson 8 = .ok (.iaload, 1) := by decide +kernel
theorem dX12_isPerson_9 : decode cX12_isPerson 9 = .ok (.iconst 1, 1) := by decide +kernel
theorem dX12_isPerson_10 : decode cX12_isPerson 10 = .ok (.isub, 1) := by decide +kernel
theorem dX12_isPerson_11 : decode cX12_isPerson 11 = .ok (.i2l, 1) := by decide +kernel
theorem dX12_isPerson_12 : decode cX12_isPerson 12 = .ok (.invokestatic 48, 3) := by decide +kernel
theorem dX12_isPerson_15 : decode cX12_isPerson 15 = .ok (.ireturn, 1) := by decide +kernel
set_option maxRecDepth 20000 in
theorem ggX12_isPillow_X12_in : GoodIn wsX12_isPillow wsX12_in := goodIn_r _ [5] (by decide +kernel) (by decide +kernel)
set_option maxRecDepth 20000 in
theorem gX12_isPillow_X12_in : GoodIn wsX12_isPillow (va_wsS RX12 48 yX12_in wsX12_in) := goodIn_app (goodIn_of _ (by decide +kernel)) ggX12_isPillow_X12_in
theorem dX12_isPillow_0 : decode cX12_isPillow 0 = .ok (.iload_n 1, 1) := by decide +kernel
theorem dX12_isPillow_1 : decode cX12_isPillow 1 = .ok (.i2l, 1) := by decide +kernel
theorem dX12_isPillow_2 : decode cX12_isPillow 2 = .ok (.lconst 0, 1) := by decide +kernel
theorem dX12_isPillow_3 : decode cX12_isPillow 3 = .ok (.aload_n 0, 1) := by decide +kernel
theorem dX12_isPillow_4 : decode cX12_isPillow 4 = .ok (.getfield 16, 3) := by decide +kernel
theorem dX12_isPillow_7 : decode cX12_isPillow 7 = .ok (.iconst 1, 1) := by decide +kernel
theorem dX12_isPillow_8 : decode cX12_isPillow 8 = .ok (.iaload, 1) := by decide +kernel
theorem dX12_isPillow_9 : decode cX12_isPillow 9 = .ok (.iconst 1, 1) := by decide +kernel
theorem dX12_isPillow_10 : decode cX12_isPillow 10 = .ok (.isub, 1) := by decide +kernel
theorem dX12_isPillow_11 : decode cX12_isPillow 11 = .ok (.i2l, 1) := by decide +kernel
theorem dX12_isPillow_12 : decode cX12_isPillow 12 = .ok (.invokestatic 48, 3) := by decide +kernel
theorem dX12_isPillow_15 : decode cX12_isPillow 15 = .ok (.ireturn, 1) := by decide +kernel
set_option maxRecDepth 20000 in
theorem ggX12_isThing_X12_in : GoodIn wsX12_isThing wsX12_in := goodIn_r _ [5] (by decide +kernel) (by decide +kernel)
set_option maxRecDepth 20000 in
theorem gX12_isThing_X12_in : GoodIn wsX12_isThing (va_wsS RX12 48 yX12_in wsX12_in) := goodIn_app (goodIn_of _ (by decide +kernel)) ggX12_isThing_X12_in
theorem dX12_isThing_0 : decode cX12_isThing 0 = .ok (.iload_n 0, 1) := by decide +kernel
theorem dX12_isThing_1 : decode cX12_isThing 1 = .ok (.i2l, 1) := by decide +kernel
theorem dX12_isThing_2 : decode cX12_isThing 2 = .ok (.lconst 0, 1) := by decide +kernel
theorem dX12_isThing_3 : decode cX12_isThing 3 = .ok (.ldc2_w 99, 3) := by decide +kernel
theorem dX12_isThing_6 : decode cX12_isThing 6 = .ok (.invokestatic 48, 3) := by decide +kernel
theorem dX12_isThing_9 : decode cX12_isThing 9 = .ok (.ireturn, 1) := by decide +kernel
theorem dX12_knows_0 : decode cX12_knows 0 = .ok (.aload_n 0, 1) := by decide +kernel
theorem dX12_knows_1 : decode cX12_knows 1 = .ok (.getfield 16, 3) := by decide +kernel
theorem dX12_knows_4 : decode cX12_knows 4 = .ok (.iconst 2, 1) := by decide +kernel
theorem dX12_knows_5 : decode cX12_knows 5 = .ok (.iconst 2, 1) := by decide +kernel
theorem dX12_knows_6 : decode cX12_knows 6 = .ok (.iload_n 1, 1) := by decide +kernel
theorem dX12_knows_7 : decode cX12_knows 7 = .ok (.imul, 1) := by decide +kernel
theorem dX12_knows_8 : decode cX12_knows 8 = .ok (.iadd, 1) := by decide +kernel
theorem dX12_knows_9 : decode cX12_knows 9 = .ok (.iaload, 1) := by decide +kernel
theorem dX12_knows_10 : decode cX12_knows 10 = .ok (.ireturn, 1) := by decide +kernel
theorem dX12_many_0 : decode cX12_many 0 = .ok (.iconst 0, 1) := by decide +kernel
theorem dX12_many_1 : decode cX12_many 1 = .ok (.istore_n 1, 1) := by decide +kernel
theorem dX12_many_2 : decode cX12_many 2 = .ok (.iload_n 0, 1) := by decide +kernel
theorem dX12_many_3 : decode cX12_many 3 = .ok (.istore_n 2, 1) := by decide +kernel
theorem dX12_many_4 : decode cX12_many 4 = .ok (.iload_n 2, 1) := by decide +kernel
theorem dX12_many_5 : decode cX12_many 5 = .ok (.ifCond .eq 15, 3) := by decide +kernel
theorem dX12_many_8 : decode cX12_many 8 = .ok (.iinc 1 1, 3) := by decide +kernel
theorem dX12_many_11 : decode cX12_many 11 = .ok (.iload_n 2, 1) := by decide +kernel
theorem dX12_many_12 : decode cX12_many 12 = .ok (.iload_n 2, 1) := by decide +kernel
theorem dX12_many_13 : decode cX12_many 13 = .ok (.iconst 1, 1) := by decide +kernel
theorem dX12_many_14 : decode cX12_many 14 = .ok (.isub, 1) := by decide +kernel
theorem dX12_many_15 : decode cX12_many 15 = .ok (.iand, 1) := by decide +kernel
theorem dX12_many_16 : decode cX12_many 16 = .ok (.istore_n 2, 1) := by decide +kernel
theorem dX12_many_17 : decode cX12_many 17 = .ok (.goto (-13), 3) := by decide +kernel
theorem dX12_many_20 : decode cX12_many 20 = .ok (.iload_n 1, 1) := by decide +kernel
theorem dX12_many_21 : decode cX12_many 21 = .ok (.ireturn, 1) := by decide +kernel
theorem dX12_often_0 : decode cX12_often 0 = .ok (.aload_n 0, 1) := by decide +kernel
theorem dX12_often_1 : decode cX12_often 1 = .ok (.getfield 19, 3) := by decide +kernel
theorem dX12_often_4 : decode cX12_often 4 = .ok (.bipush 8, 2) := by decide +kernel
theorem dX12_often_6 : decode cX12_often 6 = .ok (.bipush 7, 2) := by decide +kernel
theorem dX12_often_8 : decode cX12_often 8 = .ok (.iload_n 1, 1) := by decide +kernel
theorem dX12_often_9 : decode cX12_often 9 = .ok (.imul, 1) := by decide +kernel
theorem dX12_often_10 : decode cX12_often 10 = .ok (.iadd, 1) := by decide +kernel
theorem dX12_often_11 : decode cX12_often 11 = .ok (.iload_n 2, 1) := by decide +kernel
theorem dX12_often_12 : decode cX12_often 12 = .ok (.iadd, 1) := by decide +kernel
theorem dX12_often_13 : decode cX12_often 13 = .ok (.iaload, 1) := by decide +kernel
theorem dX12_often_14 : decode cX12_often 14 = .ok (.ireturn, 1) := by decide +kernel
set_option maxRecDepth 20000 in
theorem ggX12_hears_X12_often : GoodIn wsX12_hears wsX12_often := goodIn_r _ [5, 6, 7, 8, 9, 10, 11, 12, 13, 14, 15, 16, 17, 18, 19, 20, 21, 22, 23, 24] (by decide +kernel) (by decide +kernel)
set_option maxRecDepth 20000 in
theorem gX12_hears_X12_often : GoodIn wsX12_hears (wsV RX12 101 RX12 yX12_often wsX12_often) := goodIn_app (goodIn_of _ (by decide +kernel)) ggX12_hears_X12_often
theorem dX12_hears_0 : decode cX12_hears 0 = .ok (.iconst 0, 1) := by decide +kernel
theorem dX12_hears_1 : decode cX12_hears 1 = .ok (.istore_n 2, 1) := by decide +kernel
theorem dX12_hears_2 : decode cX12_hears 2 = .ok (.iconst 0, 1) := by decide +kernel
theorem dX12_hears_3 : decode cX12_hears 3 = .ok (.istore_n 3, 1) := by decide +kernel
theorem dX12_hears_4 : decode cX12_hears 4 = .ok (.iload_n 3, 1) := by decide +kernel
theorem dX12_hears_5 : decode cX12_hears 5 = .ok (.bipush 7, 2) := by decide +kernel
theorem dX12_hears_7 : decode cX12_hears 7 = .ok (.if_icmp .ge 28, 3) := by decide +kernel
theorem dX12_hears_10 : decode cX12_hears 10 = .ok (.iload_n 2, 1) := by decide +kernel
theorem dX12_hears_11 : decode cX12_hears 11 = .ok (.aload_n 0, 1) := by decide +kernel
theorem dX12_hears_12 : decode cX12_hears 12 = .ok (.iload_n 1, 1) := by decide +kernel
theorem dX12_hears_13 : decode cX12_hears 13 = .ok (.iload_n 3, 1) := by decide +kernel
theorem dX12_hears_14 : decode cX12_hears 14 = .ok (.invokevirtual 101, 3) := by decide +kernel
theorem dX12_hears_17 : decode cX12_hears 17 = .ok (.ifCond .le 9, 3) := by decide +kernel
theorem dX12_hears_20 : decode cX12_hears 20 = .ok (.iconst 1, 1) := by decide +kernel
theorem dX12_hears_21 : decode cX12_hears 21 = .ok (.iload_n 3, 1) := by decide +kernel
theorem dX12_hears_22 : decode cX12_hears 22 = .ok (.ishl, 1) := by decide +kernel
theorem dX12_hears_23 : decode cX12_hears 23 = .ok (.goto 4, 3) := by decide +kernel
theorem dX12_hears_26 : decode cX12_hears 26 = .ok (.iconst 0, 1) := by decide +kernel
theorem dX12_hears_27 : decode cX12_hears 27 = .ok (.ior, 1) := by decide +kernel
theorem dX12_hears_28 : decode cX12_hears 28 = .ok (.istore_n 2, 1) := by decide +kernel
theorem dX12_hears_29 : decode cX12_hears 29 = .ok (.iinc 3 1, 3) := by decide +kernel
theorem dX12_hears_32 : decode cX12_hears 32 = .ok (.goto (-28), 3) := by decide +kernel
theorem dX12_hears_35 : decode cX12_hears 35 = .ok (.iload_n 2, 1) := by decide +kernel
theorem dX12_hears_36 : decode cX12_hears 36 = .ok (.ireturn, 1) := by decide +kernel
set_option maxRecDepth 20000 in
theorem ggX12_hear_X12_hears : GoodIn wsX12_hear wsX12_hears := goodIn_r _ [6, 7, 8, 9, 5, 10, 11, 12, 13, 14, 15, 16, 17, 18, 19, 20, 21, 22, 23, 24, 25, 26, 27, 28, 29] (by decide +kernel) (by decide +kernel)
set_option maxRecDepth 20000 in
theorem gX12_hear_X12_hears : GoodIn wsX12_hear (wsV RX12 105 RX12 yX12_hears wsX12_hears) := goodIn_app (goodIn_of _ (by decide +kernel)) ggX12_hear_X12_hears
theorem dX12_hear_0 : decode cX12_hear 0 = .ok (.iconst 0, 1) := by decide +kernel
theorem dX12_hear_1 : decode cX12_hear 1 = .ok (.istore_n 2, 1) := by decide +kernel
theorem dX12_hear_2 : decode cX12_hear 2 = .ok (.iconst 0, 1) := by decide +kernel
theorem dX12_hear_3 : decode cX12_hear 3 = .ok (.istore_n 3, 1) := by decide +kernel
theorem dX12_hear_4 : decode cX12_hear 4 = .ok (.iload_n 3, 1) := by decide +kernel
theorem dX12_hear_5 : decode cX12_hear 5 = .ok (.aload_n 0, 1) := by decide +kernel
theorem dX12_hear_6 : decode cX12_hear 6 = .ok (.getfield 16, 3) := by decide +kernel
theorem dX12_hear_9 : decode cX12_hear 9 = .ok (.iconst 1, 1) := by decide +kernel
theorem dX12_hear_10 : decode cX12_hear 10 = .ok (.iaload, 1) := by decide +kernel
theorem dX12_hear_11 : decode cX12_hear 11 = .ok (.if_icmp .ge 30, 3) := by decide +kernel
theorem dX12_hear_14 : decode cX12_hear 14 = .ok (.iload_n 2, 1) := by decide +kernel
theorem dX12_hear_15 : decode cX12_hear 15 = .ok (.iload_n 1, 1) := by decide +kernel
theorem dX12_hear_16 : decode cX12_hear 16 = .ok (.iload_n 3, 1) := by decide +kernel
theorem dX12_hear_17 : decode cX12_hear 17 = .ok (.ishr, 1) := by decide +kernel
theorem dX12_hear_18 : decode cX12_hear 18 = .ok (.iconst 1, 1) := by decide +kernel
theorem dX12_hear_19 : decode cX12_hear 19 = .ok (.iand, 1) := by decide +kernel
theorem dX12_hear_20 : decode cX12_hear 20 = .ok (.iconst 1, 1) := by decide +kernel
theorem dX12_hear_21 : decode cX12_hear 21 = .ok (.if_icmp .ne 11, 3) := by decide +kernel
theorem dX12_hear_24 : decode cX12_hear 24 = .ok (.aload_n 0, 1) := by decide +kernel
theorem dX12_hear_25 : decode cX12_hear 25 = .ok (.iload_n 3, 1) := by decide +kernel
theorem dX12_hear_26 : decode cX12_hear 26 = .ok (.invokevirtual 105, 3) := by decide +kernel
theorem dX12_hear_29 : decode cX12_hear 29 = .ok (.goto 4, 3) := by decide +kernel
theorem dX12_hear_32 : decode cX12_hear 32 = .ok (.iconst 0, 1) := by decide +kernel
theorem dX12_hear_33 : decode cX12_hear 33 = .ok (.ior, 1) := by decide +kernel
theorem dX12_hear_34 : decode cX12_hear 34 = .ok (.istore_n 2, 1) := by decide +kernel
theorem dX12_hear_35 : decode cX12_hear 35 = .ok (.iinc 3 1, 3) := by decide +kernel
theorem dX12_hear_38 : decode cX12_hear 38 = .ok (.goto (-34), 3) := by decide +kernel
theorem dX12_hear_41 : decode cX12_hear 41 = .ok (.iload_n 2, 1) := by decide +kernel
theorem dX12_hear_42 : decode cX12_hear 42 = .ok (.ireturn, 1) := by decide +kernel
theorem dX12_lieOn_0 : decode cX12_lieOn 0 = .ok (.iconst 0, 1) := by decide +kernel
theorem dX12_lieOn_1 : decode cX12_lieOn 1 = .ok (.istore_n 2, 1) := by decide +kernel
theorem dX12_lieOn_2 : decode cX12_lieOn 2 = .ok (.iconst 0, 1) := by decide +kernel
theorem dX12_lieOn_3 : decode cX12_lieOn 3 = .ok (.istore_n 3, 1) := by decide +kernel
theorem dX12_lieOn_4 : decode cX12_lieOn 4 = .ok (.iload_n 3, 1) := by decide +kernel
theorem dX12_lieOn_5 : decode cX12_lieOn 5 = .ok (.aload_n 0, 1) := by decide +kernel
theorem dX12_lieOn_6 : decode cX12_lieOn 6 = .ok (.getfield 16, 3) := by decide +kernel
theorem dX12_lieOn_9 : decode cX12_lieOn 9 = .ok (.iconst 0, 1) := by decide +kernel
theorem dX12_lieOn_10 : decode cX12_lieOn 10 = .ok (.iaload, 1) := by decide +kernel
theorem dX12_lieOn_11 : decode cX12_lieOn 11 = .ok (.if_icmp .ge 31, 3) := by decide +kernel
theorem dX12_lieOn_14 : decode cX12_lieOn 14 = .ok (.iload_n 2, 1) := by decide +kernel
theorem dX12_lieOn_15 : decode cX12_lieOn 15 = .ok (.aload_n 0, 1) := by decide +kernel
theorem dX12_lieOn_16 : decode cX12_lieOn 16 = .ok (.getfield 19, 3) := by decide +kernel
theorem dX12_lieOn_19 : decode cX12_lieOn 19 = .ok (.iconst 2, 1) := by decide +kernel
theorem dX12_lieOn_20 : decode cX12_lieOn 20 = .ok (.iload_n 3, 1) := by decide +kernel
theorem dX12_lieOn_21 : decode cX12_lieOn 21 = .ok (.iadd, 1) := by decide +kernel
theorem dX12_lieOn_22 : decode cX12_lieOn 22 = .ok (.iaload, 1) := by decide +kernel
theorem dX12_lieOn_23 : decode cX12_lieOn 23 = .ok (.iload_n 1, 1) := by decide +kernel
theorem dX12_lieOn_24 : decode cX12_lieOn 24 = .ok (.if_icmp .ne 9, 3) := by decide +kernel
theorem dX12_lieOn_27 : decode cX12_lieOn 27 = .ok (.iconst 1, 1) := by decide +kernel
theorem dX12_lieOn_28 : decode cX12_lieOn 28 = .ok (.iload_n 3, 1) := by decide +kernel
theorem dX12_lieOn_29 : decode cX12_lieOn 29 = .ok (.ishl, 1) := by decide +kernel
theorem dX12_lieOn_30 : decode cX12_lieOn 30 = .ok (.goto 4, 3) := by decide +kernel
theorem dX12_lieOn_33 : decode cX12_lieOn 33 = .ok (.iconst 0, 1) := by decide +kernel
theorem dX12_lieOn_34 : decode cX12_lieOn 34 = .ok (.ior, 1) := by decide +kernel
theorem dX12_lieOn_35 : decode cX12_lieOn 35 = .ok (.istore_n 2, 1) := by decide +kernel
theorem dX12_lieOn_36 : decode cX12_lieOn 36 = .ok (.iinc 3 1, 3) := by decide +kernel
theorem dX12_lieOn_39 : decode cX12_lieOn 39 = .ok (.goto (-35), 3) := by decide +kernel
theorem dX12_lieOn_42 : decode cX12_lieOn 42 = .ok (.iload_n 2, 1) := by decide +kernel
theorem dX12_lieOn_43 : decode cX12_lieOn 43 = .ok (.ireturn, 1) := by decide +kernel
set_option maxRecDepth 20000 in
theorem ggX12_safe_X12_knows : GoodIn wsX12_safe wsX12_knows := goodIn_r _ [7, 1, 8, 9, 10, 11, 12, 13, 14, 15, 16, 17, 18, 19, 20, 21, 22, 23, 24, 25] (by decide +kernel) (by decide +kernel)
set_option maxRecDepth 20000 in
theorem gX12_safe_X12_knows : GoodIn wsX12_safe (wsV RX12 109 RX12 yX12_knows wsX12_knows) := goodIn_app (goodIn_of _ (by decide +kernel)) ggX12_safe_X12_knows
theorem dX12_safe_0 : decode cX12_safe 0 = .ok (.iconst 1, 1) := by decide +kernel
theorem dX12_safe_1 : decode cX12_safe 1 = .ok (.aload_n 0, 1) := by decide +kernel
theorem dX12_safe_2 : decode cX12_safe 2 = .ok (.getfield 16, 3) := by decide +kernel
theorem dX12_safe_5 : decode cX12_safe 5 = .ok (.iconst 1, 1) := by decide +kernel
theorem dX12_safe_6 : decode cX12_safe 6 = .ok (.iaload, 1) := by decide +kernel
theorem dX12_safe_7 : decode cX12_safe 7 = .ok (.ishl, 1) := by decide +kernel
theorem dX12_safe_8 : decode cX12_safe 8 = .ok (.iconst 1, 1) := by decide +kernel
theorem dX12_safe_9 : decode cX12_safe 9 = .ok (.isub, 1) := by decide +kernel
theorem dX12_safe_10 : decode cX12_safe 10 = .ok (.istore_n 2, 1) := by decide +kernel
theorem dX12_safe_11 : decode cX12_safe 11 = .ok (.iconst 0, 1) := by decide +kernel
theorem dX12_safe_12 : decode cX12_safe 12 = .ok (.istore_n 3, 1) := by decide +kernel
theorem dX12_safe_13 : decode cX12_safe 13 = .ok (.iload_n 3, 1) := by decide +kernel
theorem dX12_safe_14 : decode cX12_safe 14 = .ok (.aload_n 0, 1) := by decide +kernel
theorem dX12_safe_15 : decode cX12_safe 15 = .ok (.getfield 16, 3) := by decide +kernel
theorem dX12_safe_18 : decode cX12_safe 18 = .ok (.iconst 0, 1) := by decide +kernel
theorem dX12_safe_19 : decode cX12_safe 19 = .ok (.iaload, 1) := by decide +kernel
theorem dX12_safe_20 : decode cX12_safe 20 = .ok (.if_icmp .ge 58, 3) := by decide +kernel
theorem dX12_safe_23 : decode cX12_safe 23 = .ok (.aload_n 0, 1) := by decide +kernel
theorem dX12_safe_24 : decode cX12_safe 24 = .ok (.getfield 19, 3) := by decide +kernel
theorem dX12_safe_27 : decode cX12_safe 27 = .ok (.iconst 2, 1) := by decide +kernel
theorem dX12_safe_28 : decode cX12_safe 28 = .ok (.iload_n 3, 1) := by decide +kernel
theorem dX12_safe_29 : decode cX12_safe 29 = .ok (.iadd, 1) := by decide +kernel
theorem dX12_safe_30 : decode cX12_safe 30 = .ok (.iaload, 1) := by decide +kernel
theorem dX12_safe_31 : decode cX12_safe 31 = .ok (.istore 4, 2) := by decide +kernel
theorem dX12_safe_33 : decode cX12_safe 33 = .ok (.iload_n 2, 1) := by decide +kernel
theorem dX12_safe_34 : decode cX12_safe 34 = .ok (.iload_n 3, 1) := by decide +kernel
theorem dX12_safe_35 : decode cX12_safe 35 = .ok (.iload_n 1, 1) := by decide +kernel
theorem dX12_safe_36 : decode cX12_safe 36 = .ok (.if_icmp .eq 33, 3) := by decide +kernel
theorem dX12_safe_39 : decode cX12_safe 39 = .ok (.iload 4, 2) := by decide +kernel
theorem dX12_safe_41 : decode cX12_safe 41 = .ok (.bipush (-9), 2) := by decide +kernel
theorem dX12_safe_43 : decode cX12_safe 43 = .ok (.if_icmp .eq 26, 3) := by decide +kernel
theorem dX12_safe_46 : decode cX12_safe 46 = .ok (.aload_n 0, 1) := by decide +kernel
theorem dX12_safe_47 : decode cX12_safe 47 = .ok (.iload_n 3, 1) := by decide +kernel
theorem dX12_safe_48 : decode cX12_safe 48 = .ok (.invokevirtual 109, 3) := by decide +kernel
theorem dX12_safe_51 : decode cX12_safe 51 = .ok (.aload_n 0, 1) := by decide +kernel
theorem dX12_safe_52 : decode cX12_safe 52 = .ok (.iload_n 1, 1) := by decide +kernel
theorem dX12_safe_53 : decode cX12_safe 53 = .ok (.invokevirtual 109, 3) := by decide +kernel
theorem dX12_safe_56 : decode cX12_safe 56 = .ok (.iand, 1) := by decide +kernel
theorem dX12_safe_57 : decode cX12_safe 57 = .ok (.ifCond .eq 12, 3) := by decide +kernel
theorem dX12_safe_60 : decode cX12_safe 60 = .ok (.iconst 1, 1) := by decide +kernel
theorem dX12_safe_61 : decode cX12_safe 61 = .ok (.iload 4, 2) := by decide +kernel
theorem dX12_safe_63 : decode cX12_safe 63 = .ok (.ishl, 1) := by decide +kernel
theorem dX12_safe_64 : decode cX12_safe 64 = .ok (.iconst (-1), 1) := by decide +kernel
theorem dX12_safe_65 : decode cX12_safe 65 = .ok (.ixor, 1) := by decide +kernel
theorem dX12_safe_66 : decode cX12_safe 66 = .ok (.goto 4, 3) := by decide +kernel
theorem dX12_safe_69 : decode cX12_safe 69 = .ok (.iconst (-1), 1) := by decide +kernel
theorem dX12_safe_70 : decode cX12_safe 70 = .ok (.iand, 1) := by decide +kernel
theorem dX12_safe_71 : decode cX12_safe 71 = .ok (.istore_n 2, 1) := by decide +kernel
theorem dX12_safe_72 : decode cX12_safe 72 = .ok (.iinc 3 1, 3) := by decide +kernel
theorem dX12_safe_75 : decode cX12_safe 75 = .ok (.goto (-62), 3) := by decide +kernel
theorem dX12_safe_78 : decode cX12_safe 78 = .ok (.iload_n 2, 1) := by decide +kernel
theorem dX12_safe_79 : decode cX12_safe 79 = .ok (.ireturn, 1) := by decide +kernel
set_option maxRecDepth 20000 in
theorem ggX12_person_X12_isPerson : GoodIn wsX12_person wsX12_isPerson := goodIn_r _ [8, 2, 9, 10, 7, 11, 20, 21, 22, 23, 24, 25, 26, 27, 28, 29, 30, 31, 32, 33, 34, 35, 36, 37] (by decide +kernel) (by decide +kernel)
set_option maxRecDepth 20000 in
theorem gX12_person_X12_isPerson : GoodIn wsX12_person (wsV RX12 112 RX12 yX12_isPerson wsX12_isPerson) := goodIn_app (goodIn_of _ (by decide +kernel)) ggX12_person_X12_isPerson
set_option maxRecDepth 20000 in
theorem ggX12_person_X12_in : GoodIn wsX12_person wsX12_in := goodIn_r _ [11] (by decide +kernel) (by decide +kernel)
set_option maxRecDepth 20000 in
theorem gX12_person_X12_in : GoodIn wsX12_person (va_wsS RX12 48 yX12_in wsX12_in) := goodIn_app (goodIn_of _ (by decide +kernel)) ggX12_person_X12_in
set_option maxRecDepth 20000 in
theorem ggX12_person_X12_safe : GoodIn wsX12_person wsX12_safe := goodIn_r _ [15, 2, 3, 16, 17, 18, 7, 19, 20, 21, 22, 23, 24, 25, 26, 27, 28, 29, 30, 31, 32, 33, 34, 35, 36, 37] (by decide +kernel) (by decide +kernel)
set_option maxRecDepth 20000 in
theorem gX12_person_X12_safe : GoodIn wsX12_person (wsV RX12 117 RX12 yX12_safe wsX12_safe) := goodIn_app (goodIn_of _ (by decide +kernel)) ggX12_person_X12_safe
theorem dX12_person_0 : decode cX12_person 0 = .ok (.aload_n 0, 1) := by decide +kernel
theorem dX12_person_1 : decode cX12_person 1 = .ok (.iload_n 1, 1) := by decide +kernel
theorem dX12_person_2 : decode cX12_person 2 = .ok (.invokevirtual 112, 3) := by decide +kernel
theorem dX12_person_5 : decode cX12_person 5 = .ok (.ifCond .eq 15, 3) := by decide +kernel
theorem dX12_person_8 : decode cX12_person 8 = .ok (.iload_n 2, 1) := by decide +kernel
theorem dX12_person_9 : decode cX12_person 9 = .ok (.i2l, 1) := by decide +kernel
theorem dX12_person_10 : decode cX12_person 10 = .ok (.lconst 0, 1) := by decide +kernel
theorem dX12_person_11 : decode cX12_person 11 = .ok (.ldc2_w 115, 3) := by decide +kernel
theorem dX12_person_14 : decode cX12_person 14 = .ok (.invokestatic 48, 3) := by decide +kernel
theorem dX12_person_17 : decode cX12_person 17 = .ok (.ifCond .ne 5, 3) := by decide +kernel
theorem dX12_person_20 : decode cX12_person 20 = .ok (.iconst (-1), 1) := by decide +kernel
theorem dX12_person_21 : decode cX12_person 21 = .ok (.ireturn, 1) := by decide +kernel
theorem dX12_person_22 : decode cX12_person 22 = .ok (.iload_n 2, 1) := by decide +kernel
theorem dX12_person_23 : decode cX12_person 23 = .ok (.iconst 2, 1) := by decide +kernel
theorem dX12_person_24 : decode cX12_person 24 = .ok (.if_icmp .ge 18, 3) := by decide +kernel
theorem dX12_person_27 : decode cX12_person 27 = .ok (.aload_n 0, 1) := by decide +kernel
theorem dX12_person_28 : decode cX12_person 28 = .ok (.getfield 16, 3) := by decide +kernel
theorem dX12_person_31 : decode cX12_person 31 = .ok (.iconst 2, 1) := by decide +kernel
theorem dX12_person_32 : decode cX12_person 32 = .ok (.iconst 2, 1) := by decide +kernel
theorem dX12_person_33 : decode cX12_person 33 = .ok (.iload_n 1, 1) := by decide +kernel
theorem dX12_person_34 : decode cX12_person 34 = .ok (.imul, 1) := by decide +kernel
theorem dX12_person_35 : decode cX12_person 35 = .ok (.iadd, 1) := by decide +kernel
theorem dX12_person_36 : decode cX12_person 36 = .ok (.iload_n 2, 1) := by decide +kernel
theorem dX12_person_37 : decode cX12_person 37 = .ok (.iadd, 1) := by decide +kernel
theorem dX12_person_38 : decode cX12_person 38 = .ok (.iaload, 1) := by decide +kernel
theorem dX12_person_39 : decode cX12_person 39 = .ok (.goto 24, 3) := by decide +kernel
theorem dX12_person_42 : decode cX12_person 42 = .ok (.iload_n 2, 1) := by decide +kernel
theorem dX12_person_43 : decode cX12_person 43 = .ok (.iconst 2, 1) := by decide +kernel
theorem dX12_person_44 : decode cX12_person 44 = .ok (.if_icmp .ne 14, 3) := by decide +kernel
theorem dX12_person_47 : decode cX12_person 47 = .ok (.aload_n 0, 1) := by decide +kernel
theorem dX12_person_48 : decode cX12_person 48 = .ok (.getfield 19, 3) := by decide +kernel
theorem dX12_person_51 : decode cX12_person 51 = .ok (.iconst 2, 1) := by decide +kernel
theorem dX12_person_52 : decode cX12_person 52 = .ok (.iload_n 1, 1) := by decide +kernel
theorem dX12_person_53 : decode cX12_person 53 = .ok (.iadd, 1) := by decide +kernel
theorem dX12_person_54 : decode cX12_person 54 = .ok (.iaload, 1) := by decide +kernel
theorem dX12_person_55 : decode cX12_person 55 = .ok (.goto 8, 3) := by decide +kernel
theorem dX12_person_58 : decode cX12_person 58 = .ok (.aload_n 0, 1) := by decide +kernel
theorem dX12_person_59 : decode cX12_person 59 = .ok (.iload_n 1, 1) := by decide +kernel
theorem dX12_person_60 : decode cX12_person 60 = .ok (.invokevirtual 117, 3) := by decide +kernel
theorem dX12_person_63 : decode cX12_person 63 = .ok (.ireturn, 1) := by decide +kernel
set_option maxRecDepth 20000 in
theorem ggX12_clashes_X12_isThing : GoodIn wsX12_clashes wsX12_isThing := goodIn_r _ [5, 6, 7, 8, 4, 9] (by decide +kernel) (by decide +kernel)
set_option maxRecDepth 20000 in
theorem gX12_clashes_X12_isThing : GoodIn wsX12_clashes (va_wsS RX12 120 yX12_isThing wsX12_isThing) := goodIn_app (goodIn_of _ (by decide +kernel)) ggX12_clashes_X12_isThing
theorem dX12_clashes_0 : decode cX12_clashes 0 = .ok (.iload_n 1, 1) := by decide +kernel
theorem dX12_clashes_1 : decode cX12_clashes 1 = .ok (.invokestatic 120, 3) := by decide +kernel
theorem dX12_clashes_4 : decode cX12_clashes 4 = .ok (.ifCond .eq 15, 3) := by decide +kernel
theorem dX12_clashes_7 : decode cX12_clashes 7 = .ok (.aload_n 0, 1) := by decide +kernel
theorem dX12_clashes_8 : decode cX12_clashes 8 = .ok (.getfield 16, 3) := by decide +kernel
theorem dX12_clashes_11 : decode cX12_clashes 11 = .ok (.bipush 14, 2) := by decide +kernel
theorem dX12_clashes_13 : decode cX12_clashes 13 = .ok (.iload_n 1, 1) := by decide +kernel
theorem dX12_clashes_14 : decode cX12_clashes 14 = .ok (.iadd, 1) := by decide +kernel
theorem dX12_clashes_15 : decode cX12_clashes 15 = .ok (.iaload, 1) := by decide +kernel
theorem dX12_clashes_16 : decode cX12_clashes 16 = .ok (.goto 4, 3) := by decide +kernel
theorem dX12_clashes_19 : decode cX12_clashes 19 = .ok (.iconst (-1), 1) := by decide +kernel
theorem dX12_clashes_20 : decode cX12_clashes 20 = .ok (.ireturn, 1) := by decide +kernel
set_option maxRecDepth 20000 in
theorem ggX12_pillow_X12_isPillow : GoodIn wsX12_pillow wsX12_isPillow := goodIn_r _ [7, 8, 9, 10, 6, 11, 24, 25, 26, 27, 28, 29, 30, 31, 32, 33, 34, 35, 36, 37, 38, 39, 40, 41] (by decide +kernel) (by decide +kernel)
set_option maxRecDepth 20000 in
theorem gX12_pillow_X12_isPillow : GoodIn wsX12_pillow (wsV RX12 123 RX12 yX12_isPillow wsX12_isPillow) := goodIn_app (goodIn_of _ (by decide +kernel)) ggX12_pillow_X12_isPillow
set_option maxRecDepth 20000 in
theorem ggX12_pillow_X12_in : GoodIn wsX12_pillow wsX12_in := goodIn_r _ [11] (by decide +kernel) (by decide +kernel)
set_option maxRecDepth 20000 in
theorem gX12_pillow_X12_in : GoodIn wsX12_pillow (va_wsS RX12 48 yX12_in wsX12_in) := goodIn_app (goodIn_of _ (by decide +kernel)) ggX12_pillow_X12_in
set_option maxRecDepth 20000 in
theorem ggX12_pillow_X12_hears : GoodIn wsX12_pillow wsX12_hears := goodIn_r _ [15, 16, 17, 18, 6, 19, 2, 24, 25, 26, 27, 28, 29, 30, 31, 32, 33, 34, 35, 36, 37, 38, 39, 40, 41] (by decide +kernel) (by decide +kernel)
set_option maxRecDepth 20000 in
theorem gX12_pillow_X12_hears : GoodIn wsX12_pillow (wsV RX12 105 RX12 yX12_hears wsX12_hears) := goodIn_app (goodIn_of _ (by decide +kernel)) ggX12_pillow_X12_hears
set_option maxRecDepth 20000 in
theorem ggX12_pillow_X12_lieOn : GoodIn wsX12_pillow wsX12_lieOn := goodIn_r _ [23, 8, 2, 24, 25, 26, 27, 28, 29, 30, 31, 32, 33, 34, 35, 36, 37, 38, 39, 40, 41] (by decide +kernel) (by decide +kernel)
set_option maxRecDepth 20000 in
theorem gX12_pillow_X12_lieOn : GoodIn wsX12_pillow (wsV RX12 128 RX12 yX12_lieOn wsX12_lieOn) := goodIn_app (goodIn_of _ (by decide +kernel)) ggX12_pillow_X12_lieOn
theorem dX12_pillow_0 : decode cX12_pillow 0 = .ok (.aload_n 0, 1) := by decide +kernel
theorem dX12_pillow_1 : decode cX12_pillow 1 = .ok (.iload_n 1, 1) := by decide +kernel
theorem dX12_pillow_2 : decode cX12_pillow 2 = .ok (.invokevirtual 123, 3) := by decide +kernel
theorem dX12_pillow_5 : decode cX12_pillow 5 = .ok (.ifCond .eq 15, 3) := by decide +kernel
theorem dX12_pillow_8 : decode cX12_pillow 8 = .ok (.iload_n 2, 1) := by decide +kernel
theorem dX12_pillow_9 : decode cX12_pillow 9 = .ok (.i2l, 1) := by decide +kernel
theorem dX12_pillow_10 : decode cX12_pillow 10 = .ok (.lconst 0, 1) := by decide +kernel
theorem dX12_pillow_11 : decode cX12_pillow 11 = .ok (.ldc2_w 126, 3) := by decide +kernel
theorem dX12_pillow_14 : decode cX12_pillow 14 = .ok (.invokestatic 48, 3) := by decide +kernel
theorem dX12_pillow_17 : decode cX12_pillow 17 = .ok (.ifCond .ne 5, 3) := by decide +kernel
theorem dX12_pillow_20 : decode cX12_pillow 20 = .ok (.iconst (-1), 1) := by decide +kernel
theorem dX12_pillow_21 : decode cX12_pillow 21 = .ok (.ireturn, 1) := by decide +kernel
theorem dX12_pillow_22 : decode cX12_pillow 22 = .ok (.iload_n 2, 1) := by decide +kernel
theorem dX12_pillow_23 : decode cX12_pillow 23 = .ok (.ifCond .ne 11, 3) := by decide +kernel
theorem dX12_pillow_26 : decode cX12_pillow 26 = .ok (.aload_n 0, 1) := by decide +kernel
theorem dX12_pillow_27 : decode cX12_pillow 27 = .ok (.iload_n 1, 1) := by decide +kernel
theorem dX12_pillow_28 : decode cX12_pillow 28 = .ok (.invokevirtual 105, 3) := by decide +kernel
theorem dX12_pillow_31 : decode cX12_pillow 31 = .ok (.goto 26, 3) := by decide +kernel
theorem dX12_pillow_34 : decode cX12_pillow 34 = .ok (.iload_n 2, 1) := by decide +kernel
theorem dX12_pillow_35 : decode cX12_pillow 35 = .ok (.iconst 1, 1) := by decide +kernel
theorem dX12_pillow_36 : decode cX12_pillow 36 = .ok (.if_icmp .ne 11, 3) := by decide +kernel
theorem dX12_pillow_39 : decode cX12_pillow 39 = .ok (.aload_n 0, 1) := by decide +kernel
theorem dX12_pillow_40 : decode cX12_pillow 40 = .ok (.iload_n 1, 1) := by decide +kernel
theorem dX12_pillow_41 : decode cX12_pillow 41 = .ok (.invokevirtual 128, 3) := by decide +kernel
theorem dX12_pillow_44 : decode cX12_pillow 44 = .ok (.goto 13, 3) := by decide +kernel
theorem dX12_pillow_47 : decode cX12_pillow 47 = .ok (.aload_n 0, 1) := by decide +kernel
theorem dX12_pillow_48 : decode cX12_pillow 48 = .ok (.getfield 19, 3) := by decide +kernel
theorem dX12_pillow_51 : decode cX12_pillow 51 = .ok (.iconst 1, 1) := by decide +kernel
theorem dX12_pillow_52 : decode cX12_pillow 52 = .ok (.iaload, 1) := by decide +kernel
theorem dX12_pillow_53 : decode cX12_pillow 53 = .ok (.iload_n 1, 1) := by decide +kernel
theorem dX12_pillow_54 : decode cX12_pillow 54 = .ok (.ishr, 1) := by decide +kernel
theorem dX12_pillow_55 : decode cX12_pillow 55 = .ok (.iconst 1, 1) := by decide +kernel
theorem dX12_pillow_56 : decode cX12_pillow 56 = .ok (.iand, 1) := by decide +kernel
theorem dX12_pillow_57 : decode cX12_pillow 57 = .ok (.ireturn, 1) := by decide +kernel
set_option maxRecDepth 20000 in
theorem ggX12_heard_X12_isPillow : GoodIn wsX12_heard wsX12_isPillow := goodIn_r _ [5, 6, 7, 8, 4, 9, 19, 20, 21, 22, 23, 24, 25, 26, 27, 28, 29, 30, 31, 32, 33, 34, 35, 36] (by decide +kernel) (by decide +kernel)
set_option maxRecDepth 20000 in
theorem gX12_heard_X12_isPillow : GoodIn wsX12_heard (wsV RX12 123 RX12 yX12_isPillow wsX12_isPillow) := goodIn_app (goodIn_of _ (by decide +kernel)) ggX12_heard_X12_isPillow
set_option maxRecDepth 20000 in
theorem ggX12_heard_X12_isThing : GoodIn wsX12_heard wsX12_isThing := goodIn_r _ [12, 13, 7, 8, 4, 9] (by decide +kernel) (by decide +kernel)
set_option maxRecDepth 20000 in
theorem gX12_heard_X12_isThing : GoodIn wsX12_heard (va_wsS RX12 120 yX12_isThing wsX12_isThing) := goodIn_app (goodIn_of _ (by decide +kernel)) ggX12_heard_X12_isThing
set_option maxRecDepth 20000 in
theorem ggX12_heard_X12_often : GoodIn wsX12_heard wsX12_often := goodIn_r _ [17, 18, 19, 20, 21, 22, 23, 24, 25, 26, 27, 28, 29, 30, 31, 32, 33, 34, 35, 36] (by decide +kernel) (by decide +kernel)
set_option maxRecDepth 20000 in
theorem gX12_heard_X12_often : GoodIn wsX12_heard (wsV RX12 101 RX12 yX12_often wsX12_often) := goodIn_app (goodIn_of _ (by decide +kernel)) ggX12_heard_X12_often
theorem dX12_heard_0 : decode cX12_heard 0 = .ok (.aload_n 0, 1) := by decide +kernel
theorem dX12_heard_1 : decode cX12_heard 1 = .ok (.iload_n 1, 1) := by decide +kernel
theorem dX12_heard_2 : decode cX12_heard 2 = .ok (.invokevirtual 123, 3) := by decide +kernel
theorem dX12_heard_5 : decode cX12_heard 5 = .ok (.ifCond .eq 19, 3) := by decide +kernel
theorem dX12_heard_8 : decode cX12_heard 8 = .ok (.iload_n 2, 1) := by decide +kernel
theorem dX12_heard_9 : decode cX12_heard 9 = .ok (.invokestatic 120, 3) := by decide +kernel
theorem dX12_heard_12 : decode cX12_heard 12 = .ok (.ifCond .eq 12, 3) := by decide +kernel
theorem dX12_heard_15 : decode cX12_heard 15 = .ok (.aload_n 0, 1) := by decide +kernel
theorem dX12_heard_16 : decode cX12_heard 16 = .ok (.iload_n 1, 1) := by decide +kernel
theorem dX12_heard_17 : decode cX12_heard 17 = .ok (.iload_n 2, 1) := by decide +kernel
theorem dX12_heard_18 : decode cX12_heard 18 = .ok (.invokevirtual 101, 3) := by decide +kernel
theorem dX12_heard_21 : decode cX12_heard 21 = .ok (.goto 4, 3) := by decide +kernel
theorem dX12_heard_24 : decode cX12_heard 24 = .ok (.iconst (-1), 1) := by decide +kernel
theorem dX12_heard_25 : decode cX12_heard 25 = .ok (.ireturn, 1) := by decide +kernel
set_option maxRecDepth 20000 in
theorem ggX12_against_X12_hear : GoodIn wsX12_against wsX12_hear := goodIn_r _ [6, 1, 7, 8, 9, 5, 10, 11, 12, 13, 14, 15, 19, 20, 21, 22, 23, 24, 25, 26, 27, 28, 29, 30, 31, 32, 33, 34, 35, 36] (by decide +kernel) (by decide +kernel)
set_option maxRecDepth 20000 in
theorem gX12_against_X12_hear : GoodIn wsX12_against (wsV RX12 131 RX12 yX12_hear wsX12_hear) := goodIn_app (goodIn_of _ (by decide +kernel)) ggX12_against_X12_hear
set_option maxRecDepth 20000 in
theorem ggX12_against_X12_many : GoodIn wsX12_against wsX12_many := goodIn_r _ [18] (by decide +kernel) (by decide +kernel)
set_option maxRecDepth 20000 in
theorem gX12_against_X12_many : GoodIn wsX12_against (va_wsS RX12 134 yX12_many wsX12_many) := goodIn_app (goodIn_of _ (by decide +kernel)) ggX12_against_X12_many
theorem dX12_against_0 : decode cX12_against 0 = .ok (.aload_n 0, 1) := by decide +kernel
theorem dX12_against_1 : decode cX12_against 1 = .ok (.bipush 63, 2) := by decide +kernel
theorem dX12_against_3 : decode cX12_against 3 = .ok (.invokevirtual 131, 3) := by decide +kernel
theorem dX12_against_6 : decode cX12_against 6 = .ok (.istore_n 1, 1) := by decide +kernel
theorem dX12_against_7 : decode cX12_against 7 = .ok (.iconst 0, 1) := by decide +kernel
theorem dX12_against_8 : decode cX12_against 8 = .ok (.istore_n 2, 1) := by decide +kernel
theorem dX12_against_9 : decode cX12_against 9 = .ok (.iconst 0, 1) := by decide +kernel
theorem dX12_against_10 : decode cX12_against 10 = .ok (.istore_n 3, 1) := by decide +kernel
theorem dX12_against_11 : decode cX12_against 11 = .ok (.iload_n 3, 1) := by decide +kernel
theorem dX12_against_12 : decode cX12_against 12 = .ok (.bipush 7, 2) := by decide +kernel
theorem dX12_against_14 : decode cX12_against 14 = .ok (.if_icmp .ge 39, 3) := by decide +kernel
theorem dX12_against_17 : decode cX12_against 17 = .ok (.iload_n 2, 1) := by decide +kernel
theorem dX12_against_18 : decode cX12_against 18 = .ok (.iload_n 1, 1) := by decide +kernel
theorem dX12_against_19 : decode cX12_against 19 = .ok (.iload_n 3, 1) := by decide +kernel
theorem dX12_against_20 : decode cX12_against 20 = .ok (.ishr, 1) := by decide +kernel
theorem dX12_against_21 : decode cX12_against 21 = .ok (.iconst 1, 1) := by decide +kernel
theorem dX12_against_22 : decode cX12_against 22 = .ok (.iand, 1) := by decide +kernel
theorem dX12_against_23 : decode cX12_against 23 = .ok (.iconst 1, 1) := by decide +kernel
theorem dX12_against_24 : decode cX12_against 24 = .ok (.if_icmp .ne 20, 3) := by decide +kernel
theorem dX12_against_27 : decode cX12_against 27 = .ok (.aload_n 0, 1) := by decide +kernel
theorem dX12_against_28 : decode cX12_against 28 = .ok (.getfield 16, 3) := by decide +kernel
theorem dX12_against_31 : decode cX12_against 31 = .ok (.bipush 14, 2) := by decide +kernel
theorem dX12_against_33 : decode cX12_against 33 = .ok (.iload_n 3, 1) := by decide +kernel
theorem dX12_against_34 : decode cX12_against 34 = .ok (.iadd, 1) := by decide +kernel
theorem dX12_against_35 : decode cX12_against 35 = .ok (.iaload, 1) := by decide +kernel
theorem dX12_against_36 : decode cX12_against 36 = .ok (.iload_n 1, 1) := by decide +kernel
theorem dX12_against_37 : decode cX12_against 37 = .ok (.iand, 1) := by decide +kernel
theorem dX12_against_38 : decode cX12_against 38 = .ok (.invokestatic 134, 3) := by decide +kernel
theorem dX12_against_41 : decode cX12_against 41 = .ok (.goto 4, 3) := by decide +kernel
theorem dX12_against_44 : decode cX12_against 44 = .ok (.iconst 0, 1) := by decide +kernel
theorem dX12_against_45 : decode cX12_against 45 = .ok (.iadd, 1) := by decide +kernel
theorem dX12_against_46 : decode cX12_against 46 = .ok (.istore_n 2, 1) := by decide +kernel
theorem dX12_against_47 : decode cX12_against 47 = .ok (.iinc 3 1, 3) := by decide +kernel
theorem dX12_against_50 : decode cX12_against 50 = .ok (.goto (-39), 3) := by decide +kernel
theorem dX12_against_53 : decode cX12_against 53 = .ok (.iload_n 2, 1) := by decide +kernel
theorem dX12_against_54 : decode cX12_against 54 = .ok (.iconst 2, 1) := by decide +kernel
theorem dX12_against_55 : decode cX12_against 55 = .ok (.idiv, 1) := by decide +kernel
theorem dX12_against_56 : decode cX12_against 56 = .ok (.ireturn, 1) := by decide +kernel
set_option maxRecDepth 20000 in
theorem ggX12_alone_X12_knows : GoodIn wsX12_alone wsX12_knows := goodIn_r _ [6, 1, 7, 8, 9, 10, 11, 12, 13, 14, 15, 16, 17, 18, 19, 20, 21, 22, 23, 24] (by decide +kernel) (by decide +kernel)
set_option maxRecDepth 20000 in
theorem gX12_alone_X12_knows : GoodIn wsX12_alone (wsV RX12 109 RX12 yX12_knows wsX12_knows) := goodIn_app (goodIn_of _ (by decide +kernel)) ggX12_alone_X12_knows
theorem dX12_alone_0 : decode cX12_alone 0 = .ok (.iconst 0, 1) := by decide +kernel
theorem dX12_alone_1 : decode cX12_alone 1 = .ok (.istore_n 1, 1) := by decide +kernel
theorem dX12_alone_2 : decode cX12_alone 2 = .ok (.iconst 0, 1) := by decide +kernel
theorem dX12_alone_3 : decode cX12_alone 3 = .ok (.istore_n 2, 1) := by decide +kernel
theorem dX12_alone_4 : decode cX12_alone 4 = .ok (.iconst 0, 1) := by decide +kernel
theorem dX12_alone_5 : decode cX12_alone 5 = .ok (.istore_n 3, 1) := by decide +kernel
theorem dX12_alone_6 : decode cX12_alone 6 = .ok (.iload_n 3, 1) := by decide +kernel
theorem dX12_alone_7 : decode cX12_alone 7 = .ok (.aload_n 0, 1) := by decide +kernel
theorem dX12_alone_8 : decode cX12_alone 8 = .ok (.getfield 16, 3) := by decide +kernel
theorem dX12_alone_11 : decode cX12_alone 11 = .ok (.iconst 0, 1) := by decide +kernel
theorem dX12_alone_12 : decode cX12_alone 12 = .ok (.iaload, 1) := by decide +kernel
theorem dX12_alone_13 : decode cX12_alone 13 = .ok (.if_icmp .ge 27, 3) := by decide +kernel
theorem dX12_alone_16 : decode cX12_alone 16 = .ok (.iload_n 2, 1) := by decide +kernel
theorem dX12_alone_17 : decode cX12_alone 17 = .ok (.iload_n 1, 1) := by decide +kernel
theorem dX12_alone_18 : decode cX12_alone 18 = .ok (.aload_n 0, 1) := by decide +kernel
theorem dX12_alone_19 : decode cX12_alone 19 = .ok (.iload_n 3, 1) := by decide +kernel
theorem dX12_alone_20 : decode cX12_alone 20 = .ok (.invokevirtual 109, 3) := by decide +kernel
theorem dX12_alone_23 : decode cX12_alone 23 = .ok (.iand, 1) := by decide +kernel
theorem dX12_alone_24 : decode cX12_alone 24 = .ok (.ior, 1) := by decide +kernel
theorem dX12_alone_25 : decode cX12_alone 25 = .ok (.istore_n 2, 1) := by decide +kernel
theorem dX12_alone_26 : decode cX12_alone 26 = .ok (.iload_n 1, 1) := by decide +kernel
theorem dX12_alone_27 : decode cX12_alone 27 = .ok (.aload_n 0, 1) := by decide +kernel
theorem dX12_alone_28 : decode cX12_alone 28 = .ok (.iload_n 3, 1) := by decide +kernel
theorem dX12_alone_29 : decode cX12_alone 29 = .ok (.invokevirtual 109, 3) := by decide +kernel
theorem dX12_alone_32 : decode cX12_alone 32 = .ok (.ior, 1) := by decide +kernel
theorem dX12_alone_33 : decode cX12_alone 33 = .ok (.istore_n 1, 1) := by decide +kernel
theorem dX12_alone_34 : decode cX12_alone 34 = .ok (.iinc 3 1, 3) := by decide +kernel
theorem dX12_alone_37 : decode cX12_alone 37 = .ok (.goto (-31), 3) := by decide +kernel
theorem dX12_alone_40 : decode cX12_alone 40 = .ok (.iload_n 1, 1) := by decide +kernel
theorem dX12_alone_41 : decode cX12_alone 41 = .ok (.iload_n 2, 1) := by decide +kernel
theorem dX12_alone_42 : decode cX12_alone 42 = .ok (.iconst (-1), 1) := by decide +kernel
theorem dX12_alone_43 : decode cX12_alone 43 = .ok (.ixor, 1) := by decide +kernel
theorem dX12_alone_44 : decode cX12_alone 44 = .ok (.iand, 1) := by decide +kernel
theorem dX12_alone_45 : decode cX12_alone 45 = .ok (.ireturn, 1) := by decide +kernel
set_option maxRecDepth 20000 in
theorem ggX12_now_X12_hear : GoodIn wsX12_now wsX12_hear := goodIn_r _ [7, 8, 9, 10, 11, 6, 12, 13, 14, 15, 16, 1, 32, 33, 34, 35, 36, 37, 38, 39, 40, 41, 42, 43, 44, 45, 46, 47, 48, 49] (by decide +kernel) (by decide +kernel)
set_option maxRecDepth 20000 in
theorem gX12_now_X12_hear : GoodIn wsX12_now (wsV RX12 131 RX12 yX12_hear wsX12_hear) := goodIn_app (goodIn_of _ (by decide +kernel)) ggX12_now_X12_hear
set_option maxRecDepth 20000 in
theorem ggX12_now_X12_against : GoodIn wsX12_now wsX12_against := goodIn_r _ [20, 8, 3, 4, 5, 6, 7, 9, 10, 11, 12, 13, 14, 15, 16, 1, 21, 22, 23, 32, 33, 34, 35, 36, 37, 38, 39, 40, 41, 42, 43, 44, 45, 46, 47, 48, 49] (by decide +kernel) (by decide +kernel)
set_option maxRecDepth 20000 in
theorem gX12_now_X12_against : GoodIn wsX12_now (wsV RX12 137 RX12 yX12_against wsX12_against) := goodIn_app (goodIn_of _ (by decide +kernel)) ggX12_now_X12_against
set_option maxRecDepth 20000 in
theorem ggX12_now_X12_alone : GoodIn wsX12_now wsX12_alone := goodIn_r _ [27, 8, 28, 29, 30, 6, 31, 32, 33, 34, 35, 36, 37, 38, 39, 40, 41, 42, 43, 44, 45, 46, 47, 48, 49] (by decide +kernel) (by decide +kernel)
set_option maxRecDepth 20000 in
theorem gX12_now_X12_alone : GoodIn wsX12_now (wsV RX12 141 RX12 yX12_alone wsX12_alone) := goodIn_app (goodIn_of _ (by decide +kernel)) ggX12_now_X12_alone
end
section
theorem dX12_now_0 : decode cX12_now 0 = .ok (.iload_n 1, 1) := by decide +kernel
theorem dX12_now_1 : decode cX12_now 1 = .ok (.tableswitch 79 0 5 #[39, 46, 57, 62, 69, 74], 39) := by decide +kernel
theorem dX12_now_40 : decode cX12_now 40 = .ok (.aload_n 0, 1) := by decide +kernel
theorem dX12_now_41 : decode cX12_now 41 = .ok (.getfield 19, 3) := by decide +kernel
theorem dX12_now_44 : decode cX12_now 44 = .ok (.iconst 0, 1) := by decide +kernel
theorem dX12_now_45 : decode cX12_now 45 = .ok (.iaload, 1) := by decide +kernel
theorem dX12_now_46 : decode cX12_now 46 = .ok (.ireturn, 1) := by decide +kernel
theorem dX12_now_47 : decode cX12_now 47 = .ok (.aload_n 0, 1) := by decide +kernel
theorem dX12_now_48 : decode cX12_now 48 = .ok (.aload_n 0, 1) := by decide +kernel
theorem dX12_now_49 : decode cX12_now 49 = .ok (.getfield 19, 3) := by decide +kernel
theorem dX12_now_52 : decode cX12_now 52 = .ok (.iconst 1, 1) := by decide +kernel
theorem dX12_now_53 : decode cX12_now 53 = .ok (.iaload, 1) := by decide +kernel
theorem dX12_now_54 : decode cX12_now 54 = .ok (.invokevirtual 131, 3) := by decide +kernel
theorem dX12_now_57 : decode cX12_now 57 = .ok (.ireturn, 1) := by decide +kernel
theorem dX12_now_58 : decode cX12_now 58 = .ok (.aload_n 0, 1) := by decide +kernel
theorem dX12_now_59 : decode cX12_now 59 = .ok (.invokevirtual 137, 3) := by decide +kernel
theorem dX12_now_62 : decode cX12_now 62 = .ok (.ireturn, 1) := by decide +kernel
theorem dX12_now_63 : decode cX12_now 63 = .ok (.aload_n 0, 1) := by decide +kernel
theorem dX12_now_64 : decode cX12_now 64 = .ok (.bipush 63, 2) := by decide +kernel
theorem dX12_now_66 : decode cX12_now 66 = .ok (.invokevirtual 131, 3) := by decide +kernel
theorem dX12_now_69 : decode cX12_now 69 = .ok (.ireturn, 1) := by decide +kernel
theorem dX12_now_70 : decode cX12_now 70 = .ok (.aload_n 0, 1) := by decide +kernel
theorem dX12_now_71 : decode cX12_now 71 = .ok (.invokevirtual 141, 3) := by decide +kernel
theorem dX12_now_74 : decode cX12_now 74 = .ok (.ireturn, 1) := by decide +kernel
theorem dX12_now_75 : decode cX12_now 75 = .ok (.aload_n 0, 1) := by decide +kernel
theorem dX12_now_76 : decode cX12_now 76 = .ok (.getfield 96, 3) := by decide +kernel
theorem dX12_now_79 : decode cX12_now 79 = .ok (.ireturn, 1) := by decide +kernel
theorem dX12_now_80 : decode cX12_now 80 = .ok (.iconst (-1), 1) := by decide +kernel
theorem dX12_now_81 : decode cX12_now 81 = .ok (.ireturn, 1) := by decide +kernel
theorem dX12_keepsUndo_0 : decode cX12_keepsUndo 0 = .ok (.aload_n 0, 1) := by decide +kernel
theorem dX12_keepsUndo_1 : decode cX12_keepsUndo 1 = .ok (.getfield 96, 3) := by decide +kernel
theorem dX12_keepsUndo_4 : decode cX12_keepsUndo 4 = .ok (.bipush 10, 2) := by decide +kernel
theorem dX12_keepsUndo_6 : decode cX12_keepsUndo 6 = .ok (.if_icmp .ne 40, 3) := by decide +kernel
theorem dX12_keepsUndo_9 : decode cX12_keepsUndo 9 = .ok (.bipush 50, 2) := by decide +kernel
theorem dX12_keepsUndo_11 : decode cX12_keepsUndo 11 = .ok (.istore_n 1, 1) := by decide +kernel
theorem dX12_keepsUndo_12 : decode cX12_keepsUndo 12 = .ok (.iload_n 1, 1) := by decide +kernel
theorem dX12_keepsUndo_13 : decode cX12_keepsUndo 13 = .ok (.sipush 500, 3) := by decide +kernel
theorem dX12_keepsUndo_16 : decode cX12_keepsUndo 16 = .ok (.if_icmp .ge 24, 3) := by decide +kernel
theorem dX12_keepsUndo_19 : decode cX12_keepsUndo 19 = .ok (.aload_n 0, 1) := by decide +kernel
theorem dX12_keepsUndo_20 : decode cX12_keepsUndo 20 = .ok (.getfield 22, 3) := by decide +kernel
theorem dX12_keepsUndo_23 : decode cX12_keepsUndo 23 = .ok (.iload_n 1, 1) := by decide +kernel
theorem dX12_keepsUndo_24 : decode cX12_keepsUndo 24 = .ok (.bipush 50, 2) := by decide +kernel
theorem dX12_keepsUndo_26 : decode cX12_keepsUndo 26 = .ok (.isub, 1) := by decide +kernel
theorem dX12_keepsUndo_27 : decode cX12_keepsUndo 27 = .ok (.aload_n 0, 1) := by decide +kernel
theorem dX12_keepsUndo_28 : decode cX12_keepsUndo 28 = .ok (.getfield 22, 3) := by decide +kernel
theorem dX12_keepsUndo_31 : decode cX12_keepsUndo 31 = .ok (.iload_n 1, 1) := by decide +kernel
theorem dX12_keepsUndo_32 : decode cX12_keepsUndo 32 = .ok (.iaload, 1) := by decide +kernel
theorem dX12_keepsUndo_33 : decode cX12_keepsUndo 33 = .ok (.iastore, 1) := by decide +kernel
theorem dX12_keepsUndo_34 : decode cX12_keepsUndo 34 = .ok (.iinc 1 1, 3) := by decide +kernel
theorem dX12_keepsUndo_37 : decode cX12_keepsUndo 37 = .ok (.goto (-25), 3) := by decide +kernel
theorem dX12_keepsUndo_40 : decode cX12_keepsUndo 40 = .ok (.aload_n 0, 1) := by decide +kernel
theorem dX12_keepsUndo_41 : decode cX12_keepsUndo 41 = .ok (.bipush 9, 2) := by decide +kernel
theorem dX12_keepsUndo_43 : decode cX12_keepsUndo 43 = .ok (.putfield 96, 3) := by decide +kernel
theorem dX12_keepsUndo_46 : decode cX12_keepsUndo 46 = .ok (.iconst 0, 1) := by decide +kernel
theorem dX12_keepsUndo_47 : decode cX12_keepsUndo 47 = .ok (.istore_n 1, 1) := by decide +kernel
theorem dX12_keepsUndo_48 : decode cX12_keepsUndo 48 = .ok (.iload_n 1, 1) := by decide +kernel
theorem dX12_keepsUndo_49 : decode cX12_keepsUndo 49 = .ok (.bipush 50, 2) := by decide +kernel
theorem dX12_keepsUndo_51 : decode cX12_keepsUndo 51 = .ok (.if_icmp .ge 29, 3) := by decide +kernel
theorem dX12_keepsUndo_54 : decode cX12_keepsUndo 54 = .ok (.aload_n 0, 1) := by decide +kernel
theorem dX12_keepsUndo_55 : decode cX12_keepsUndo 55 = .ok (.getfield 22, 3) := by decide +kernel
theorem dX12_keepsUndo_58 : decode cX12_keepsUndo 58 = .ok (.bipush 50, 2) := by decide +kernel
theorem dX12_keepsUndo_60 : decode cX12_keepsUndo 60 = .ok (.aload_n 0, 1) := by decide +kernel
theorem dX12_keepsUndo_61 : decode cX12_keepsUndo 61 = .ok (.getfield 96, 3) := by decide +kernel
theorem dX12_keepsUndo_64 : decode cX12_keepsUndo 64 = .ok (.imul, 1) := by decide +kernel
theorem dX12_keepsUndo_65 : decode cX12_keepsUndo 65 = .ok (.iload_n 1, 1) := by decide +kernel
theorem dX12_keepsUndo_66 : decode cX12_keepsUndo 66 = .ok (.iadd, 1) := by decide +kernel
theorem dX12_keepsUndo_67 : decode cX12_keepsUndo 67 = .ok (.aload_n 0, 1) := by decide +kernel
theorem dX12_keepsUndo_68 : decode cX12_keepsUndo 68 = .ok (.getfield 19, 3) := by decide +kernel
theorem dX12_keepsUndo_71 : decode cX12_keepsUndo 71 = .ok (.iload_n 1, 1) := by decide +kernel
theorem dX12_keepsUndo_72 : decode cX12_keepsUndo 72 = .ok (.iaload, 1) := by decide +kernel
theorem dX12_keepsUndo_73 : decode cX12_keepsUndo 73 = .ok (.iastore, 1) := by decide +kernel
theorem dX12_keepsUndo_74 : decode cX12_keepsUndo 74 = .ok (.iinc 1 1, 3) := by decide +kernel
theorem dX12_keepsUndo_77 : decode cX12_keepsUndo 77 = .ok (.goto (-29), 3) := by decide +kernel
theorem dX12_keepsUndo_80 : decode cX12_keepsUndo 80 = .ok (.aload_n 0, 1) := by decide +kernel
theorem dX12_keepsUndo_81 : decode cX12_keepsUndo 81 = .ok (.dup, 1) := by decide +kernel
theorem dX12_keepsUndo_82 : decode cX12_keepsUndo 82 = .ok (.getfield 96, 3) := by decide +kernel
theorem dX12_keepsUndo_85 : decode cX12_keepsUndo 85 = .ok (.iconst 1, 1) := by decide +kernel
theorem dX12_keepsUndo_86 : decode cX12_keepsUndo 86 = .ok (.iadd, 1) := by decide +kernel
theorem dX12_keepsUndo_87 : decode cX12_keepsUndo 87 = .ok (.putfield 96, 3) := by decide +kernel
theorem dX12_keepsUndo_90 : decode cX12_keepsUndo 90 = .ok (.return_, 1) := by decide +kernel
set_option maxRecDepth 20000 in
theorem ggX12_lays_X12_isPerson : GoodIn wsX12_lays wsX12_isPerson := goodIn_r _ [6, 7, 8, 9, 5, 10, 21, 22, 23, 24, 25, 26, 27, 28, 29, 30, 31, 32, 33, 34, 35, 36, 37, 38] (by decide +kernel) (by decide +kernel)
set_option maxRecDepth 20000 in
theorem gX12_lays_X12_isPerson : GoodIn wsX12_lays (wsV RX12 112 RX12 yX12_isPerson wsX12_isPerson) := goodIn_app (goodIn_of _ (by decide +kernel)) ggX12_lays_X12_isPerson
set_option maxRecDepth 20000 in
theorem ggX12_lays_X12_isPillow : GoodIn wsX12_lays wsX12_isPillow := goodIn_r _ [14, 7, 8, 9, 5, 10, 21, 22, 23, 24, 25, 26, 27, 28, 29, 30, 31, 32, 33, 34, 35, 36, 37, 38] (by decide +kernel) (by decide +kernel)
set_option maxRecDepth 20000 in
theorem gX12_lays_X12_isPillow : GoodIn wsX12_lays (wsV RX12 123 RX12 yX12_isPillow wsX12_isPillow) := goodIn_app (goodIn_of _ (by decide +kernel)) ggX12_lays_X12_isPillow
set_option maxRecDepth 20000 in
theorem ggX12_lays_X12_keepsUndo : GoodIn wsX12_lays wsX12_keepsUndo := goodIn_r _ [18, 19, 20, 1, 21, 22, 23, 24, 25, 26, 27, 28, 29, 30, 31, 32, 33, 34, 35, 36, 37, 38] (by decide +kernel) (by decide +kernel)
set_option maxRecDepth 20000 in
theorem gX12_lays_X12_keepsUndo : GoodIn wsX12_lays (wsV RX12 144 RX12 yX12_keepsUndo wsX12_keepsUndo) := goodIn_app (goodIn_of _ (by decide +kernel)) ggX12_lays_X12_keepsUndo
theorem dX12_lays_0 : decode cX12_lays 0 = .ok (.aload_n 0, 1) := by decide +kernel
theorem dX12_lays_1 : decode cX12_lays 1 = .ok (.iload_n 1, 1) := by decide +kernel
theorem dX12_lays_2 : decode cX12_lays 2 = .ok (.invokevirtual 112, 3) := by decide +kernel
theorem dX12_lays_5 : decode cX12_lays 5 = .ok (.ifCond .eq 16, 3) := by decide +kernel
theorem dX12_lays_8 : decode cX12_lays 8 = .ok (.iload_n 2, 1) := by decide +kernel
theorem dX12_lays_9 : decode cX12_lays 9 = .ok (.iconst (-1), 1) := by decide +kernel
theorem dX12_lays_10 : decode cX12_lays 10 = .ok (.if_icmp .eq 13, 3) := by decide +kernel
theorem dX12_lays_13 : decode cX12_lays 13 = .ok (.aload_n 0, 1) := by decide +kernel
theorem dX12_lays_14 : decode cX12_lays 14 = .ok (.iload_n 2, 1) := by decide +kernel
theorem dX12_lays_15 : decode cX12_lays 15 = .ok (.invokevirtual 123, 3) := by decide +kernel
theorem dX12_lays_18 : decode cX12_lays 18 = .ok (.ifCond .ne 5, 3) := by decide +kernel
theorem dX12_lays_21 : decode cX12_lays 21 = .ok (.iconst (-1), 1) := by decide +kernel
theorem dX12_lays_22 : decode cX12_lays 22 = .ok (.ireturn, 1) := by decide +kernel
theorem dX12_lays_23 : decode cX12_lays 23 = .ok (.aload_n 0, 1) := by decide +kernel
theorem dX12_lays_24 : decode cX12_lays 24 = .ok (.invokevirtual 144, 3) := by decide +kernel
theorem dX12_lays_27 : decode cX12_lays 27 = .ok (.aload_n 0, 1) := by decide +kernel
theorem dX12_lays_28 : decode cX12_lays 28 = .ok (.getfield 19, 3) := by decide +kernel
theorem dX12_lays_31 : decode cX12_lays 31 = .ok (.iconst 2, 1) := by decide +kernel
theorem dX12_lays_32 : decode cX12_lays 32 = .ok (.iload_n 1, 1) := by decide +kernel
theorem dX12_lays_33 : decode cX12_lays 33 = .ok (.iadd, 1) := by decide +kernel
theorem dX12_lays_34 : decode cX12_lays 34 = .ok (.iaload, 1) := by decide +kernel
theorem dX12_lays_35 : decode cX12_lays 35 = .ok (.istore_n 3, 1) := by decide +kernel
theorem dX12_lays_36 : decode cX12_lays 36 = .ok (.aload_n 0, 1) := by decide +kernel
theorem dX12_lays_37 : decode cX12_lays 37 = .ok (.getfield 19, 3) := by decide +kernel
theorem dX12_lays_40 : decode cX12_lays 40 = .ok (.iconst 2, 1) := by decide +kernel
theorem dX12_lays_41 : decode cX12_lays 41 = .ok (.iload_n 1, 1) := by decide +kernel
theorem dX12_lays_42 : decode cX12_lays 42 = .ok (.iadd, 1) := by decide +kernel
theorem dX12_lays_43 : decode cX12_lays 43 = .ok (.iload_n 2, 1) := by decide +kernel
theorem dX12_lays_44 : decode cX12_lays 44 = .ok (.iconst (-1), 1) := by decide +kernel
theorem dX12_lays_45 : decode cX12_lays 45 = .ok (.if_icmp .ne 8, 3) := by decide +kernel
theorem dX12_lays_48 : decode cX12_lays 48 = .ok (.bipush (-9), 2) := by decide +kernel
theorem dX12_lays_50 : decode cX12_lays 50 = .ok (.goto 4, 3) := by decide +kernel
theorem dX12_lays_53 : decode cX12_lays 53 = .ok (.iload_n 2, 1) := by decide +kernel
theorem dX12_lays_54 : decode cX12_lays 54 = .ok (.iastore, 1) := by decide +kernel
theorem dX12_lays_55 : decode cX12_lays 55 = .ok (.iload_n 3, 1) := by decide +kernel
theorem dX12_lays_56 : decode cX12_lays 56 = .ok (.ireturn, 1) := by decide +kernel
set_option maxRecDepth 20000 in
theorem ggX12_says_X12_knows : GoodIn wsX12_says wsX12_knows := goodIn_r _ [12, 7, 16, 17, 18, 19, 20, 21, 22, 23, 24, 25, 26, 27, 28, 29, 30, 31, 32, 33] (by decide +kernel) (by decide +kernel)
set_option maxRecDepth 20000 in
theorem gX12_says_X12_knows : GoodIn wsX12_says (wsV RX12 109 RX12 yX12_knows wsX12_knows) := goodIn_app (goodIn_of _ (by decide +kernel)) ggX12_says_X12_knows
set_option maxRecDepth 20000 in
theorem ggX12_says_X12_many : GoodIn wsX12_says wsX12_many := goodIn_r _ [15] (by decide +kernel) (by decide +kernel)
set_option maxRecDepth 20000 in
theorem gX12_says_X12_many : GoodIn wsX12_says (va_wsS RX12 134 yX12_many wsX12_many) := goodIn_app (goodIn_of _ (by decide +kernel)) ggX12_says_X12_many
theorem dX12_says_0 : decode cX12_says 0 = .ok (.ldc2_w 147, 3) := by decide +kernel
theorem dX12_says_3 : decode cX12_says 3 = .ok (.iload_n 2, 1) := by decide +kernel
theorem dX12_says_4 : decode cX12_says 4 = .ok (.i2l, 1) := by decide +kernel
theorem dX12_says_5 : decode cX12_says 5 = .ok (.lmul, 1) := by decide +kernel
theorem dX12_says_6 : decode cX12_says 6 = .ok (.ldc2_w 149, 3) := by decide +kernel
theorem dX12_says_9 : decode cX12_says 9 = .ok (.iload_n 1, 1) := by decide +kernel
theorem dX12_says_10 : decode cX12_says 10 = .ok (.i2l, 1) := by decide +kernel
theorem dX12_says_11 : decode cX12_says 11 = .ok (.lmul, 1) := by decide +kernel
theorem dX12_says_12 : decode cX12_says 12 = .ok (.ladd, 1) := by decide +kernel
theorem dX12_says_13 : decode cX12_says 13 = .ok (.ldc2_w 151, 3) := by decide +kernel
theorem dX12_says_16 : decode cX12_says 16 = .ok (.aload_n 0, 1) := by decide +kernel
theorem dX12_says_17 : decode cX12_says 17 = .ok (.getfield 19, 3) := by decide +kernel
theorem dX12_says_20 : decode cX12_says 20 = .ok (.iconst 0, 1) := by decide +kernel
theorem dX12_says_21 : decode cX12_says 21 = .ok (.iaload, 1) := by decide +kernel
theorem dX12_says_22 : decode cX12_says 22 = .ok (.i2l, 1) := by decide +kernel
theorem dX12_says_23 : decode cX12_says 23 = .ok (.lmul, 1) := by decide +kernel
theorem dX12_says_24 : decode cX12_says 24 = .ok (.ladd, 1) := by decide +kernel
theorem dX12_says_25 : decode cX12_says 25 = .ok (.lconst 1, 1) := by decide +kernel
theorem dX12_says_26 : decode cX12_says 26 = .ok (.ladd, 1) := by decide +kernel
theorem dX12_says_27 : decode cX12_says 27 = .ok (.lstore_n 3, 1) := by decide +kernel
theorem dX12_says_28 : decode cX12_says 28 = .ok (.lload_n 3, 1) := by decide +kernel
theorem dX12_says_29 : decode cX12_says 29 = .ok (.lload_n 3, 1) := by decide +kernel
theorem dX12_says_30 : decode cX12_says 30 = .ok (.lmul, 1) := by decide +kernel
theorem dX12_says_31 : decode cX12_says 31 = .ok (.ldc2_w 153, 3) := by decide +kernel
theorem dX12_says_34 : decode cX12_says 34 = .ok (.lrem, 1) := by decide +kernel
theorem dX12_says_35 : decode cX12_says 35 = .ok (.ldc2_w 155, 3) := by decide +kernel
theorem dX12_says_38 : decode cX12_says 38 = .ok (.ldiv, 1) := by decide +kernel
theorem dX12_says_39 : decode cX12_says 39 = .ok (.l2i, 1) := by decide +kernel
theorem dX12_says_40 : decode cX12_says 40 = .ok (.istore 5, 2) := by decide +kernel
theorem dX12_says_42 : decode cX12_says 42 = .ok (.aload_n 0, 1) := by decide +kernel
theorem dX12_says_43 : decode cX12_says 43 = .ok (.iload_n 1, 1) := by decide +kernel
theorem dX12_says_44 : decode cX12_says 44 = .ok (.invokevirtual 109, 3) := by decide +kernel
theorem dX12_says_47 : decode cX12_says 47 = .ok (.invokestatic 134, 3) := by decide +kernel
theorem dX12_says_50 : decode cX12_says 50 = .ok (.istore 6, 2) := by decide +kernel
theorem dX12_says_52 : decode cX12_says 52 = .ok (.iload 5, 2) := by decide +kernel
theorem dX12_says_54 : decode cX12_says 54 = .ok (.bipush 10, 2) := by decide +kernel
theorem dX12_says_56 : decode cX12_says 56 = .ok (.irem, 1) := by decide +kernel
theorem dX12_says_57 : decode cX12_says 57 = .ok (.aload_n 0, 1) := by decide +kernel
theorem dX12_says_58 : decode cX12_says 58 = .ok (.getfield 16, 3) := by decide +kernel
theorem dX12_says_61 : decode cX12_says 61 = .ok (.iconst 2, 1) := by decide +kernel
theorem dX12_says_62 : decode cX12_says 62 = .ok (.iconst 2, 1) := by decide +kernel
theorem dX12_says_63 : decode cX12_says 63 = .ok (.iload_n 1, 1) := by decide +kernel
theorem dX12_says_64 : decode cX12_says 64 = .ok (.imul, 1) := by decide +kernel
theorem dX12_says_65 : decode cX12_says 65 = .ok (.iadd, 1) := by decide +kernel
theorem dX12_says_66 : decode cX12_says 66 = .ok (.iconst 1, 1) := by decide +kernel
theorem dX12_says_67 : decode cX12_says 67 = .ok (.iadd, 1) := by decide +kernel
theorem dX12_says_68 : decode cX12_says 68 = .ok (.iaload, 1) := by decide +kernel
theorem dX12_says_69 : decode cX12_says 69 = .ok (.if_icmp .ge 8, 3) := by decide +kernel
theorem dX12_says_72 : decode cX12_says 72 = .ok (.iload 6, 2) := by decide +kernel
theorem dX12_says_74 : decode cX12_says 74 = .ok (.ifCond .ne 6, 3) := by decide +kernel
theorem dX12_says_77 : decode cX12_says 77 = .ok (.bipush (-9), 2) := by decide +kernel
theorem dX12_says_79 : decode cX12_says 79 = .ok (.ireturn, 1) := by decide +kernel
theorem dX12_says_80 : decode cX12_says 80 = .ok (.aload_n 0, 1) := by decide +kernel
theorem dX12_says_81 : decode cX12_says 81 = .ok (.iload_n 1, 1) := by decide +kernel
theorem dX12_says_82 : decode cX12_says 82 = .ok (.invokevirtual 109, 3) := by decide +kernel
theorem dX12_says_85 : decode cX12_says 85 = .ok (.istore 7, 2) := by decide +kernel
theorem dX12_says_87 : decode cX12_says 87 = .ok (.iload 5, 2) := by decide +kernel
theorem dX12_says_89 : decode cX12_says 89 = .ok (.bipush 10, 2) := by decide +kernel
theorem dX12_says_91 : decode cX12_says 91 = .ok (.idiv, 1) := by decide +kernel
theorem dX12_says_92 : decode cX12_says 92 = .ok (.iload 6, 2) := by decide +kernel
theorem dX12_says_94 : decode cX12_says 94 = .ok (.irem, 1) := by decide +kernel
theorem dX12_says_95 : decode cX12_says 95 = .ok (.istore 8, 2) := by decide +kernel
theorem dX12_says_97 : decode cX12_says 97 = .ok (.iload 8, 2) := by decide +kernel
theorem dX12_says_99 : decode cX12_says 99 = .ok (.ifCond .le 18, 3) := by decide +kernel
theorem dX12_says_102 : decode cX12_says 102 = .ok (.iload 7, 2) := by decide +kernel
theorem dX12_says_104 : decode cX12_says 104 = .ok (.iload 7, 2) := by decide +kernel
theorem dX12_says_106 : decode cX12_says 106 = .ok (.iconst 1, 1) := by decide +kernel
theorem dX12_says_107 : decode cX12_says 107 = .ok (.isub, 1) := by decide +kernel
theorem dX12_says_108 : decode cX12_says 108 = .ok (.iand, 1) := by decide +kernel
theorem dX12_says_109 : decode cX12_says 109 = .ok (.istore 7, 2) := by decide +kernel
theorem dX12_says_111 : decode cX12_says 111 = .ok (.iinc 8 (-1), 3) := by decide +kernel
theorem dX12_says_114 : decode cX12_says 114 = .ok (.goto (-17), 3) := by decide +kernel
theorem dX12_says_117 : decode cX12_says 117 = .ok (.iconst 0, 1) := by decide +kernel
theorem dX12_says_118 : decode cX12_says 118 = .ok (.istore 8, 2) := by decide +kernel
theorem dX12_says_120 : decode cX12_says 120 = .ok (.iload 7, 2) := by decide +kernel
theorem dX12_says_122 : decode cX12_says 122 = .ok (.iload 8, 2) := by decide +kernel
theorem dX12_says_124 : decode cX12_says 124 = .ok (.ishr, 1) := by decide +kernel
theorem dX12_says_125 : decode cX12_says 125 = .ok (.iconst 1, 1) := by decide +kernel
theorem dX12_says_126 : decode cX12_says 126 = .ok (.iand, 1) := by decide +kernel
theorem dX12_says_127 : decode cX12_says 127 = .ok (.ifCond .ne 9, 3) := by decide +kernel
theorem dX12_says_130 : decode cX12_says 130 = .ok (.iinc 8 1, 3) := by decide +kernel
theorem dX12_says_133 : decode cX12_says 133 = .ok (.goto (-13), 3) := by decide +kernel
theorem dX12_says_136 : decode cX12_says 136 = .ok (.iload 8, 2) := by decide +kernel
theorem dX12_says_138 : decode cX12_says 138 = .ok (.ireturn, 1) := by decide +kernel
set_option maxRecDepth 20000 in
theorem ggX12_goesBy_X12_says : GoodIn wsX12_goesBy wsX12_says := goodIn_r _ [7, 8, 9, 10, 2, 11, 12, 1, 13, 14, 15, 6, 16, 17, 18, 19, 20, 21, 22, 23, 24, 25, 26, 27, 28, 29, 30, 31, 32, 33, 34, 35, 36, 37] (by decide +kernel) (by decide +kernel)
set_option maxRecDepth 20000 in
theorem gX12_goesBy_X12_says : GoodIn wsX12_goesBy (wsV RX12 157 RX12 yX12_says wsX12_says) := goodIn_app (goodIn_of _ (by decide +kernel)) ggX12_goesBy_X12_says
theorem dX12_goesBy_0 : decode cX12_goesBy 0 = .ok (.iconst 0, 1) := by decide +kernel
theorem dX12_goesBy_1 : decode cX12_goesBy 1 = .ok (.istore_n 2, 1) := by decide +kernel
theorem dX12_goesBy_2 : decode cX12_goesBy 2 = .ok (.iconst 0, 1) := by decide +kernel
theorem dX12_goesBy_3 : decode cX12_goesBy 3 = .ok (.istore_n 3, 1) := by decide +kernel
theorem dX12_goesBy_4 : decode cX12_goesBy 4 = .ok (.iload_n 3, 1) := by decide +kernel
theorem dX12_goesBy_5 : decode cX12_goesBy 5 = .ok (.aload_n 0, 1) := by decide +kernel
theorem dX12_goesBy_6 : decode cX12_goesBy 6 = .ok (.getfield 16, 3) := by decide +kernel
theorem dX12_goesBy_9 : decode cX12_goesBy 9 = .ok (.iconst 0, 1) := by decide +kernel
theorem dX12_goesBy_10 : decode cX12_goesBy 10 = .ok (.iaload, 1) := by decide +kernel
theorem dX12_goesBy_11 : decode cX12_goesBy 11 = .ok (.if_icmp .ge 98, 3) := by decide +kernel
theorem dX12_goesBy_14 : decode cX12_goesBy 14 = .ok (.aload_n 0, 1) := by decide +kernel
theorem dX12_goesBy_15 : decode cX12_goesBy 15 = .ok (.iload_n 3, 1) := by decide +kernel
theorem dX12_goesBy_16 : decode cX12_goesBy 16 = .ok (.iload_n 1, 1) := by decide +kernel
theorem dX12_goesBy_17 : decode cX12_goesBy 17 = .ok (.invokevirtual 157, 3) := by decide +kernel
theorem dX12_goesBy_20 : decode cX12_goesBy 20 = .ok (.istore 4, 2) := by decide +kernel
theorem dX12_goesBy_22 : decode cX12_goesBy 22 = .ok (.iload_n 2, 1) := by decide +kernel
theorem dX12_goesBy_23 : decode cX12_goesBy 23 = .ok (.iload 4, 2) := by decide +kernel
theorem dX12_goesBy_25 : decode cX12_goesBy 25 = .ok (.bipush (-9), 2) := by decide +kernel
theorem dX12_goesBy_27 : decode cX12_goesBy 27 = .ok (.if_icmp .ne 7, 3) := by decide +kernel
theorem dX12_goesBy_30 : decode cX12_goesBy 30 = .ok (.iconst 0, 1) := by decide +kernel
theorem dX12_goesBy_31 : decode cX12_goesBy 31 = .ok (.goto 4, 3) := by decide +kernel
theorem dX12_goesBy_34 : decode cX12_goesBy 34 = .ok (.iconst 1, 1) := by decide +kernel
theorem dX12_goesBy_35 : decode cX12_goesBy 35 = .ok (.iadd, 1) := by decide +kernel
theorem dX12_goesBy_36 : decode cX12_goesBy 36 = .ok (.istore_n 2, 1) := by decide +kernel
theorem dX12_goesBy_37 : decode cX12_goesBy 37 = .ok (.iload 4, 2) := by decide +kernel
theorem dX12_goesBy_39 : decode cX12_goesBy 39 = .ok (.bipush (-9), 2) := by decide +kernel
theorem dX12_goesBy_41 : decode cX12_goesBy 41 = .ok (.if_icmp .eq 62, 3) := by decide +kernel
theorem dX12_goesBy_44 : decode cX12_goesBy 44 = .ok (.aload_n 0, 1) := by decide +kernel
theorem dX12_goesBy_45 : decode cX12_goesBy 45 = .ok (.getfield 19, 3) := by decide +kernel
theorem dX12_goesBy_48 : decode cX12_goesBy 48 = .ok (.iconst 2, 1) := by decide +kernel
theorem dX12_goesBy_49 : decode cX12_goesBy 49 = .ok (.iload_n 3, 1) := by decide +kernel
theorem dX12_goesBy_50 : decode cX12_goesBy 50 = .ok (.iadd, 1) := by decide +kernel
theorem dX12_goesBy_51 : decode cX12_goesBy 51 = .ok (.iaload, 1) := by decide +kernel
theorem dX12_goesBy_52 : decode cX12_goesBy 52 = .ok (.bipush (-9), 2) := by decide +kernel
theorem dX12_goesBy_54 : decode cX12_goesBy 54 = .ok (.if_icmp .eq 49, 3) := by decide +kernel
theorem dX12_goesBy_57 : decode cX12_goesBy 57 = .ok (.bipush 8, 2) := by decide +kernel
theorem dX12_goesBy_59 : decode cX12_goesBy 59 = .ok (.bipush 7, 2) := by decide +kernel
theorem dX12_goesBy_61 : decode cX12_goesBy 61 = .ok (.aload_n 0, 1) := by decide +kernel
theorem dX12_goesBy_62 : decode cX12_goesBy 62 = .ok (.getfield 19, 3) := by decide +kernel
theorem dX12_goesBy_65 : decode cX12_goesBy 65 = .ok (.iconst 2, 1) := by decide +kernel
theorem dX12_goesBy_66 : decode cX12_goesBy 66 = .ok (.iload_n 3, 1) := by decide +kernel
theorem dX12_goesBy_67 : decode cX12_goesBy 67 = .ok (.iadd, 1) := by decide +kernel
theorem dX12_goesBy_68 : decode cX12_goesBy 68 = .ok (.iaload, 1) := by decide +kernel
theorem dX12_goesBy_69 : decode cX12_goesBy 69 = .ok (.imul, 1) := by decide +kernel
theorem dX12_goesBy_70 : decode cX12_goesBy 70 = .ok (.iadd, 1) := by decide +kernel
theorem dX12_goesBy_71 : decode cX12_goesBy 71 = .ok (.iload 4, 2) := by decide +kernel
theorem dX12_goesBy_73 : decode cX12_goesBy 73 = .ok (.iadd, 1) := by decide +kernel
theorem dX12_goesBy_74 : decode cX12_goesBy 74 = .ok (.istore 5, 2) := by decide +kernel
theorem dX12_goesBy_76 : decode cX12_goesBy 76 = .ok (.aload_n 0, 1) := by decide +kernel
theorem dX12_goesBy_77 : decode cX12_goesBy 77 = .ok (.getfield 19, 3) := by decide +kernel
theorem dX12_goesBy_80 : decode cX12_goesBy 80 = .ok (.iload 5, 2) := by decide +kernel
theorem dX12_goesBy_82 : decode cX12_goesBy 82 = .ok (.dup2, 1) := by decide +kernel
theorem dX12_goesBy_83 : decode cX12_goesBy 83 = .ok (.iaload, 1) := by decide +kernel
theorem dX12_goesBy_84 : decode cX12_goesBy 84 = .ok (.aload_n 0, 1) := by decide +kernel
theorem dX12_goesBy_85 : decode cX12_goesBy 85 = .ok (.getfield 19, 3) := by decide +kernel
theorem dX12_goesBy_88 : decode cX12_goesBy 88 = .ok (.iload 5, 2) := by decide +kernel
theorem dX12_goesBy_90 : decode cX12_goesBy 90 = .ok (.iaload, 1) := by decide +kernel
theorem dX12_goesBy_91 : decode cX12_goesBy 91 = .ok (.bipush 99, 2) := by decide +kernel
theorem dX12_goesBy_93 : decode cX12_goesBy 93 = .ok (.if_icmp .ge 7, 3) := by decide +kernel
theorem dX12_goesBy_96 : decode cX12_goesBy 96 = .ok (.iconst 1, 1) := by decide +kernel
theorem dX12_goesBy_97 : decode cX12_goesBy 97 = .ok (.goto 4, 3) := by decide +kernel
theorem dX12_goesBy_100 : decode cX12_goesBy 100 = .ok (.iconst 0, 1) := by decide +kernel
theorem dX12_goesBy_101 : decode cX12_goesBy 101 = .ok (.iadd, 1) := by decide +kernel
theorem dX12_goesBy_102 : decode cX12_goesBy 102 = .ok (.iastore, 1) := by decide +kernel
theorem dX12_goesBy_103 : decode cX12_goesBy 103 = .ok (.iinc 3 1, 3) := by decide +kernel
theorem dX12_goesBy_106 : decode cX12_goesBy 106 = .ok (.goto (-102), 3) := by decide +kernel
theorem dX12_goesBy_109 : decode cX12_goesBy 109 = .ok (.aload_n 0, 1) := by decide +kernel
theorem dX12_goesBy_110 : decode cX12_goesBy 110 = .ok (.getfield 19, 3) := by decide +kernel
theorem dX12_goesBy_113 : decode cX12_goesBy 113 = .ok (.iconst 0, 1) := by decide +kernel
theorem dX12_goesBy_114 : decode cX12_goesBy 114 = .ok (.dup2, 1) := by decide +kernel
theorem dX12_goesBy_115 : decode cX12_goesBy 115 = .ok (.iaload, 1) := by decide +kernel
theorem dX12_goesBy_116 : decode cX12_goesBy 116 = .ok (.iconst 1, 1) := by decide +kernel
theorem dX12_goesBy_117 : decode cX12_goesBy 117 = .ok (.iadd, 1) := by decide +kernel
theorem dX12_goesBy_118 : decode cX12_goesBy 118 = .ok (.iastore, 1) := by decide +kernel
theorem dX12_goesBy_119 : decode cX12_goesBy 119 = .ok (.iload_n 2, 1) := by decide +kernel
theorem dX12_goesBy_120 : decode cX12_goesBy 120 = .ok (.ireturn, 1) := by decide +kernel
set_option maxRecDepth 20000 in
theorem ggX12_night_X12_in : GoodIn wsX12_night wsX12_in := goodIn_r _ [6] (by decide +kernel) (by decide +kernel)
set_option maxRecDepth 20000 in
theorem gX12_night_X12_in : GoodIn wsX12_night (va_wsS RX12 48 yX12_in wsX12_in) := goodIn_app (goodIn_of _ (by decide +kernel)) ggX12_night_X12_in
set_option maxRecDepth 20000 in
theorem ggX12_night_X12_keepsUndo : GoodIn wsX12_night wsX12_keepsUndo := goodIn_r _ [10, 11, 12, 2, 34, 35, 36, 37, 38, 39, 40, 41, 42, 43, 44, 45, 46, 47, 48, 49, 50, 51] (by decide +kernel) (by decide +kernel)
set_option maxRecDepth 20000 in
theorem gX12_night_X12_keepsUndo : GoodIn wsX12_night (wsV RX12 144 RX12 yX12_keepsUndo wsX12_keepsUndo) := goodIn_app (goodIn_of _ (by decide +kernel)) ggX12_night_X12_keepsUndo
set_option maxRecDepth 20000 in
theorem ggX12_night_X12_goesBy : GoodIn wsX12_night wsX12_goesBy := goodIn_r _ [16, 17, 2, 18, 19, 20, 5, 21, 22, 23, 24, 25, 26, 27, 28, 29, 30, 31, 32, 33, 34, 35, 36, 37, 38, 39, 40, 41, 42, 43, 44, 45, 46, 47, 48, 49, 50, 51] (by decide +kernel) (by decide +kernel)
set_option maxRecDepth 20000 in
theorem gX12_night_X12_goesBy : GoodIn wsX12_night (wsV RX12 162 RX12 yX12_goesBy wsX12_goesBy) := goodIn_app (goodIn_of _ (by decide +kernel)) ggX12_night_X12_goesBy
theorem dX12_night_0 : decode cX12_night 0 = .ok (.iload_n 1, 1) := by decide +kernel
theorem dX12_night_1 : decode cX12_night 1 = .ok (.i2l, 1) := by decide +kernel
theorem dX12_night_2 : decode cX12_night 2 = .ok (.lconst 0, 1) := by decide +kernel
theorem dX12_night_3 : decode cX12_night 3 = .ok (.ldc2_w 160, 3) := by decide +kernel
theorem dX12_night_6 : decode cX12_night 6 = .ok (.invokestatic 48, 3) := by decide +kernel
theorem dX12_night_9 : decode cX12_night 9 = .ok (.ifCond .ne 5, 3) := by decide +kernel
theorem dX12_night_12 : decode cX12_night 12 = .ok (.iconst (-1), 1) := by decide +kernel
theorem dX12_night_13 : decode cX12_night 13 = .ok (.ireturn, 1) := by decide +kernel
theorem dX12_night_14 : decode cX12_night 14 = .ok (.aload_n 0, 1) := by decide +kernel
theorem dX12_night_15 : decode cX12_night 15 = .ok (.getfield 19, 3) := by decide +kernel
theorem dX12_night_18 : decode cX12_night 18 = .ok (.iconst 0, 1) := by decide +kernel
theorem dX12_night_19 : decode cX12_night 19 = .ok (.iaload, 1) := by decide +kernel
theorem dX12_night_20 : decode cX12_night 20 = .ok (.sipush 999, 3) := by decide +kernel
theorem dX12_night_23 : decode cX12_night 23 = .ok (.if_icmp .ne 6, 3) := by decide +kernel
theorem dX12_night_26 : decode cX12_night 26 = .ok (.bipush (-2), 2) := by decide +kernel
theorem dX12_night_28 : decode cX12_night 28 = .ok (.ireturn, 1) := by decide +kernel
theorem dX12_night_29 : decode cX12_night 29 = .ok (.aload_n 0, 1) := by decide +kernel
theorem dX12_night_30 : decode cX12_night 30 = .ok (.invokevirtual 144, 3) := by decide +kernel
theorem dX12_night_33 : decode cX12_night 33 = .ok (.aload_n 0, 1) := by decide +kernel
theorem dX12_night_34 : decode cX12_night 34 = .ok (.iload_n 1, 1) := by decide +kernel
theorem dX12_night_35 : decode cX12_night 35 = .ok (.invokevirtual 162, 3) := by decide +kernel
theorem dX12_night_38 : decode cX12_night 38 = .ok (.ireturn, 1) := by decide +kernel
set_option maxRecDepth 20000 in
theorem ggX12_slips_X12_isPillow : GoodIn wsX12_slips wsX12_isPillow := goodIn_r _ [6, 7, 8, 9, 5, 10, 28, 29, 30, 31, 32, 33, 34, 35, 36, 37, 38, 39, 40, 41, 42, 43, 44, 45] (by decide +kernel) (by decide +kernel)
set_option maxRecDepth 20000 in
theorem gX12_slips_X12_isPillow : GoodIn wsX12_slips (wsV RX12 123 RX12 yX12_isPillow wsX12_isPillow) := goodIn_app (goodIn_of _ (by decide +kernel)) ggX12_slips_X12_isPillow
set_option maxRecDepth 20000 in
theorem ggX12_slips_X12_keepsUndo : GoodIn wsX12_slips wsX12_keepsUndo := goodIn_r _ [14, 15, 16, 1, 28, 29, 30, 31, 32, 33, 34, 35, 36, 37, 38, 39, 40, 41, 42, 43, 44, 45] (by decide +kernel) (by decide +kernel)
set_option maxRecDepth 20000 in
theorem gX12_slips_X12_keepsUndo : GoodIn wsX12_slips (wsV RX12 144 RX12 yX12_keepsUndo wsX12_keepsUndo) := goodIn_app (goodIn_of _ (by decide +kernel)) ggX12_slips_X12_keepsUndo
set_option maxRecDepth 20000 in
theorem ggX12_slips_X12_hears : GoodIn wsX12_slips wsX12_hears := goodIn_r _ [20, 21, 22, 23, 5, 24, 1, 28, 29, 30, 31, 32, 33, 34, 35, 36, 37, 38, 39, 40, 41, 42, 43, 44, 45] (by decide +kernel) (by decide +kernel)
set_option maxRecDepth 20000 in
theorem gX12_slips_X12_hears : GoodIn wsX12_slips (wsV RX12 105 RX12 yX12_hears wsX12_hears) := goodIn_app (goodIn_of _ (by decide +kernel)) ggX12_slips_X12_hears
set_option maxRecDepth 20000 in
theorem ggX12_slips_X12_many : GoodIn wsX12_slips wsX12_many := goodIn_r _ [27] (by decide +kernel) (by decide +kernel)
set_option maxRecDepth 20000 in
theorem gX12_slips_X12_many : GoodIn wsX12_slips (va_wsS RX12 134 yX12_many wsX12_many) := goodIn_app (goodIn_of _ (by decide +kernel)) ggX12_slips_X12_many
theorem dX12_slips_0 : decode cX12_slips 0 = .ok (.aload_n 0, 1) := by decide +kernel
theorem dX12_slips_1 : decode cX12_slips 1 = .ok (.iload_n 1, 1) := by decide +kernel
theorem dX12_slips_2 : decode cX12_slips 2 = .ok (.invokevirtual 123, 3) := by decide +kernel
theorem dX12_slips_5 : decode cX12_slips 5 = .ok (.ifCond .ne 5, 3) := by decide +kernel
theorem dX12_slips_8 : decode cX12_slips 8 = .ok (.iconst (-1), 1) := by decide +kernel
theorem dX12_slips_9 : decode cX12_slips 9 = .ok (.ireturn, 1) := by decide +kernel
theorem dX12_slips_10 : decode cX12_slips 10 = .ok (.aload_n 0, 1) := by decide +kernel
theorem dX12_slips_11 : decode cX12_slips 11 = .ok (.invokevirtual 144, 3) := by decide +kernel
theorem dX12_slips_14 : decode cX12_slips 14 = .ok (.aload_n 0, 1) := by decide +kernel
theorem dX12_slips_15 : decode cX12_slips 15 = .ok (.iload_n 1, 1) := by decide +kernel
theorem dX12_slips_16 : decode cX12_slips 16 = .ok (.invokevirtual 105, 3) := by decide +kernel
theorem dX12_slips_19 : decode cX12_slips 19 = .ok (.invokestatic 134, 3) := by decide +kernel
theorem dX12_slips_22 : decode cX12_slips 22 = .ok (.istore_n 2, 1) := by decide +kernel
theorem dX12_slips_23 : decode cX12_slips 23 = .ok (.iconst 0, 1) := by decide +kernel
theorem dX12_slips_24 : decode cX12_slips 24 = .ok (.istore_n 3, 1) := by decide +kernel
theorem dX12_slips_25 : decode cX12_slips 25 = .ok (.iload_n 3, 1) := by decide +kernel
theorem dX12_slips_26 : decode cX12_slips 26 = .ok (.bipush 7, 2) := by decide +kernel
theorem dX12_slips_28 : decode cX12_slips 28 = .ok (.if_icmp .ge 24, 3) := by decide +kernel
theorem dX12_slips_31 : decode cX12_slips 31 = .ok (.aload_n 0, 1) := by decide +kernel
theorem dX12_slips_32 : decode cX12_slips 32 = .ok (.getfield 19, 3) := by decide +kernel
theorem dX12_slips_35 : decode cX12_slips 35 = .ok (.bipush 8, 2) := by decide +kernel
theorem dX12_slips_37 : decode cX12_slips 37 = .ok (.bipush 7, 2) := by decide +kernel
theorem dX12_slips_39 : decode cX12_slips 39 = .ok (.iload_n 1, 1) := by decide +kernel
theorem dX12_slips_40 : decode cX12_slips 40 = .ok (.imul, 1) := by decide +kernel
theorem dX12_slips_41 : decode cX12_slips 41 = .ok (.iadd, 1) := by decide +kernel
theorem dX12_slips_42 : decode cX12_slips 42 = .ok (.iload_n 3, 1) := by decide +kernel
theorem dX12_slips_43 : decode cX12_slips 43 = .ok (.iadd, 1) := by decide +kernel
theorem dX12_slips_44 : decode cX12_slips 44 = .ok (.iconst 0, 1) := by decide +kernel
theorem dX12_slips_45 : decode cX12_slips 45 = .ok (.iastore, 1) := by decide +kernel
theorem dX12_slips_46 : decode cX12_slips 46 = .ok (.iinc 3 1, 3) := by decide +kernel
theorem dX12_slips_49 : decode cX12_slips 49 = .ok (.goto (-24), 3) := by decide +kernel
theorem dX12_slips_52 : decode cX12_slips 52 = .ok (.aload_n 0, 1) := by decide +kernel
theorem dX12_slips_53 : decode cX12_slips 53 = .ok (.getfield 19, 3) := by decide +kernel
theorem dX12_slips_56 : decode cX12_slips 56 = .ok (.iconst 1, 1) := by decide +kernel
theorem dX12_slips_57 : decode cX12_slips 57 = .ok (.dup2, 1) := by decide +kernel
theorem dX12_slips_58 : decode cX12_slips 58 = .ok (.iaload, 1) := by decide +kernel
theorem dX12_slips_59 : decode cX12_slips 59 = .ok (.iconst 1, 1) := by decide +kernel
theorem dX12_slips_60 : decode cX12_slips 60 = .ok (.iload_n 1, 1) := by decide +kernel
theorem dX12_slips_61 : decode cX12_slips 61 = .ok (.ishl, 1) := by decide +kernel
theorem dX12_slips_62 : decode cX12_slips 62 = .ok (.iconst (-1), 1) := by decide +kernel
theorem dX12_slips_63 : decode cX12_slips 63 = .ok (.ixor, 1) := by decide +kernel
theorem dX12_slips_64 : decode cX12_slips 64 = .ok (.iand, 1) := by decide +kernel
theorem dX12_slips_65 : decode cX12_slips 65 = .ok (.iastore, 1) := by decide +kernel
theorem dX12_slips_66 : decode cX12_slips 66 = .ok (.iload_n 2, 1) := by decide +kernel
theorem dX12_slips_67 : decode cX12_slips 67 = .ok (.ireturn, 1) := by decide +kernel
set_option maxRecDepth 20000 in
theorem ggX12_mixes_X12_isPillow : GoodIn wsX12_mixes wsX12_isPillow := goodIn_r _ [6, 7, 8, 9, 5, 10, 28, 29, 30, 31, 32, 33, 34, 35, 36, 37, 38, 39, 40, 41, 42, 43, 44, 45] (by decide +kernel) (by decide +kernel)
set_option maxRecDepth 20000 in
theorem gX12_mixes_X12_isPillow : GoodIn wsX12_mixes (wsV RX12 123 RX12 yX12_isPillow wsX12_isPillow) := goodIn_app (goodIn_of _ (by decide +kernel)) ggX12_mixes_X12_isPillow
set_option maxRecDepth 20000 in
theorem ggX12_mixes_X12_keepsUndo : GoodIn wsX12_mixes wsX12_keepsUndo := goodIn_r _ [14, 15, 16, 1, 28, 29, 30, 31, 32, 33, 34, 35, 36, 37, 38, 39, 40, 41, 42, 43, 44, 45] (by decide +kernel) (by decide +kernel)
set_option maxRecDepth 20000 in
theorem gX12_mixes_X12_keepsUndo : GoodIn wsX12_mixes (wsV RX12 144 RX12 yX12_keepsUndo wsX12_keepsUndo) := goodIn_app (goodIn_of _ (by decide +kernel)) ggX12_mixes_X12_keepsUndo
set_option maxRecDepth 20000 in
theorem ggX12_mixes_X12_often : GoodIn wsX12_mixes wsX12_often := goodIn_r _ [20, 1, 28, 29, 30, 31, 32, 33, 34, 35, 36, 37, 38, 39, 40, 41, 42, 43, 44, 45] (by decide +kernel) (by decide +kernel)
set_option maxRecDepth 20000 in
theorem gX12_mixes_X12_often : GoodIn wsX12_mixes (wsV RX12 101 RX12 yX12_often wsX12_often) := goodIn_app (goodIn_of _ (by decide +kernel)) ggX12_mixes_X12_often
set_option maxRecDepth 20000 in
theorem ggX12_mixes_X12_hears : GoodIn wsX12_mixes wsX12_hears := goodIn_r _ [24, 17, 18, 19, 5, 20, 1, 28, 29, 30, 31, 32, 33, 34, 35, 36, 37, 38, 39, 40, 41, 42, 43, 44, 45] (by decide +kernel) (by decide +kernel)
set_option maxRecDepth 20000 in
theorem gX12_mixes_X12_hears : GoodIn wsX12_mixes (wsV RX12 105 RX12 yX12_hears wsX12_hears) := goodIn_app (goodIn_of _ (by decide +kernel)) ggX12_mixes_X12_hears
set_option maxRecDepth 20000 in
theorem ggX12_mixes_X12_many : GoodIn wsX12_mixes wsX12_many := goodIn_r _ [27] (by decide +kernel) (by decide +kernel)
set_option maxRecDepth 20000 in
theorem gX12_mixes_X12_many : GoodIn wsX12_mixes (va_wsS RX12 134 yX12_many wsX12_many) := goodIn_app (goodIn_of _ (by decide +kernel)) ggX12_mixes_X12_many
theorem dX12_mixes_0 : decode cX12_mixes 0 = .ok (.aload_n 0, 1) := by decide +kernel
theorem dX12_mixes_1 : decode cX12_mixes 1 = .ok (.iload_n 1, 1) := by decide +kernel
theorem dX12_mixes_2 : decode cX12_mixes 2 = .ok (.invokevirtual 123, 3) := by decide +kernel
theorem dX12_mixes_5 : decode cX12_mixes 5 = .ok (.ifCond .eq 16, 3) := by decide +kernel
theorem dX12_mixes_8 : decode cX12_mixes 8 = .ok (.aload_n 0, 1) := by decide +kernel
theorem dX12_mixes_9 : decode cX12_mixes 9 = .ok (.iload_n 2, 1) := by decide +kernel
theorem dX12_mixes_10 : decode cX12_mixes 10 = .ok (.invokevirtual 123, 3) := by decide +kernel
theorem dX12_mixes_13 : decode cX12_mixes 13 = .ok (.ifCond .eq 8, 3) := by decide +kernel
theorem dX12_mixes_16 : decode cX12_mixes 16 = .ok (.iload_n 1, 1) := by decide +kernel
theorem dX12_mixes_17 : decode cX12_mixes 17 = .ok (.iload_n 2, 1) := by decide +kernel
theorem dX12_mixes_18 : decode cX12_mixes 18 = .ok (.if_icmp .ne 5, 3) := by decide +kernel
theorem dX12_mixes_21 : decode cX12_mixes 21 = .ok (.iconst (-1), 1) := by decide +kernel
theorem dX12_mixes_22 : decode cX12_mixes 22 = .ok (.ireturn, 1) := by decide +kernel
theorem dX12_mixes_23 : decode cX12_mixes 23 = .ok (.aload_n 0, 1) := by decide +kernel
theorem dX12_mixes_24 : decode cX12_mixes 24 = .ok (.invokevirtual 144, 3) := by decide +kernel
theorem dX12_mixes_27 : decode cX12_mixes 27 = .ok (.iconst 0, 1) := by decide +kernel
theorem dX12_mixes_28 : decode cX12_mixes 28 = .ok (.istore_n 3, 1) := by decide +kernel
theorem dX12_mixes_29 : decode cX12_mixes 29 = .ok (.iload_n 3, 1) := by decide +kernel
theorem dX12_mixes_30 : decode cX12_mixes 30 = .ok (.bipush 7, 2) := by decide +kernel
theorem dX12_mixes_32 : decode cX12_mixes 32 = .ok (.if_icmp .ge 72, 3) := by decide +kernel
theorem dX12_mixes_35 : decode cX12_mixes 35 = .ok (.aload_n 0, 1) := by decide +kernel
theorem dX12_mixes_36 : decode cX12_mixes 36 = .ok (.iload_n 1, 1) := by decide +kernel
theorem dX12_mixes_37 : decode cX12_mixes 37 = .ok (.iload_n 3, 1) := by decide +kernel
theorem dX12_mixes_38 : decode cX12_mixes 38 = .ok (.invokevirtual 101, 3) := by decide +kernel
theorem dX12_mixes_41 : decode cX12_mixes 41 = .ok (.aload_n 0, 1) := by decide +kernel
theorem dX12_mixes_42 : decode cX12_mixes 42 = .ok (.iload_n 2, 1) := by decide +kernel
theorem dX12_mixes_43 : decode cX12_mixes 43 = .ok (.iload_n 3, 1) := by decide +kernel
theorem dX12_mixes_44 : decode cX12_mixes 44 = .ok (.invokevirtual 101, 3) := by decide +kernel
theorem dX12_mixes_47 : decode cX12_mixes 47 = .ok (.iadd, 1) := by decide +kernel
theorem dX12_mixes_48 : decode cX12_mixes 48 = .ok (.istore 4, 2) := by decide +kernel
theorem dX12_mixes_50 : decode cX12_mixes 50 = .ok (.iload 4, 2) := by decide +kernel
theorem dX12_mixes_52 : decode cX12_mixes 52 = .ok (.bipush 99, 2) := by decide +kernel
theorem dX12_mixes_54 : decode cX12_mixes 54 = .ok (.if_icmp .le 8, 3) := by decide +kernel
theorem dX12_mixes_57 : decode cX12_mixes 57 = .ok (.bipush 99, 2) := by decide +kernel
theorem dX12_mixes_59 : decode cX12_mixes 59 = .ok (.goto 5, 3) := by decide +kernel
theorem dX12_mixes_62 : decode cX12_mixes 62 = .ok (.iload 4, 2) := by decide +kernel
theorem dX12_mixes_64 : decode cX12_mixes 64 = .ok (.istore 4, 2) := by decide +kernel
theorem dX12_mixes_66 : decode cX12_mixes 66 = .ok (.aload_n 0, 1) := by decide +kernel
theorem dX12_mixes_67 : decode cX12_mixes 67 = .ok (.getfield 19, 3) := by decide +kernel
theorem dX12_mixes_70 : decode cX12_mixes 70 = .ok (.bipush 8, 2) := by decide +kernel
theorem dX12_mixes_72 : decode cX12_mixes 72 = .ok (.bipush 7, 2) := by decide +kernel
theorem dX12_mixes_74 : decode cX12_mixes 74 = .ok (.iload_n 1, 1) := by decide +kernel
theorem dX12_mixes_75 : decode cX12_mixes 75 = .ok (.imul, 1) := by decide +kernel
theorem dX12_mixes_76 : decode cX12_mixes 76 = .ok (.iadd, 1) := by decide +kernel
theorem dX12_mixes_77 : decode cX12_mixes 77 = .ok (.iload_n 3, 1) := by decide +kernel
theorem dX12_mixes_78 : decode cX12_mixes 78 = .ok (.iadd, 1) := by decide +kernel
theorem dX12_mixes_79 : decode cX12_mixes 79 = .ok (.iload 4, 2) := by decide +kernel
theorem dX12_mixes_81 : decode cX12_mixes 81 = .ok (.iastore, 1) := by decide +kernel
theorem dX12_mixes_82 : decode cX12_mixes 82 = .ok (.aload_n 0, 1) := by decide +kernel
theorem dX12_mixes_83 : decode cX12_mixes 83 = .ok (.getfield 19, 3) := by decide +kernel
theorem dX12_mixes_86 : decode cX12_mixes 86 = .ok (.bipush 8, 2) := by decide +kernel
theorem dX12_mixes_88 : decode cX12_mixes 88 = .ok (.bipush 7, 2) := by decide +kernel
theorem dX12_mixes_90 : decode cX12_mixes 90 = .ok (.iload_n 2, 1) := by decide +kernel
theorem dX12_mixes_91 : decode cX12_mixes 91 = .ok (.imul, 1) := by decide +kernel
theorem dX12_mixes_92 : decode cX12_mixes 92 = .ok (.iadd, 1) := by decide +kernel
theorem dX12_mixes_93 : decode cX12_mixes 93 = .ok (.iload_n 3, 1) := by decide +kernel
theorem dX12_mixes_94 : decode cX12_mixes 94 = .ok (.iadd, 1) := by decide +kernel
theorem dX12_mixes_95 : decode cX12_mixes 95 = .ok (.iload 4, 2) := by decide +kernel
theorem dX12_mixes_97 : decode cX12_mixes 97 = .ok (.iastore, 1) := by decide +kernel
theorem dX12_mixes_98 : decode cX12_mixes 98 = .ok (.iinc 3 1, 3) := by decide +kernel
theorem dX12_mixes_101 : decode cX12_mixes 101 = .ok (.goto (-72), 3) := by decide +kernel
theorem dX12_mixes_104 : decode cX12_mixes 104 = .ok (.aload_n 0, 1) := by decide +kernel
theorem dX12_mixes_105 : decode cX12_mixes 105 = .ok (.iload_n 1, 1) := by decide +kernel
theorem dX12_mixes_106 : decode cX12_mixes 106 = .ok (.invokevirtual 105, 3) := by decide +kernel
theorem dX12_mixes_109 : decode cX12_mixes 109 = .ok (.invokestatic 134, 3) := by decide +kernel
theorem dX12_mixes_112 : decode cX12_mixes 112 = .ok (.ireturn, 1) := by decide +kernel
set_option maxRecDepth 20000 in
theorem ggX12_examines_X12_isPillow : GoodIn wsX12_examines wsX12_isPillow := goodIn_r _ [6, 7, 8, 9, 5, 10, 32, 33, 34, 35, 36, 37, 38, 39, 40, 41, 42, 43, 44, 45, 46, 47, 48, 49] (by decide +kernel) (by decide +kernel)
set_option maxRecDepth 20000 in
theorem gX12_examines_X12_isPillow : GoodIn wsX12_examines (wsV RX12 123 RX12 yX12_isPillow wsX12_isPillow) := goodIn_app (goodIn_of _ (by decide +kernel)) ggX12_examines_X12_isPillow
set_option maxRecDepth 20000 in
theorem ggX12_examines_X12_keepsUndo : GoodIn wsX12_examines wsX12_keepsUndo := goodIn_r _ [14, 15, 16, 1, 32, 33, 34, 35, 36, 37, 38, 39, 40, 41, 42, 43, 44, 45, 46, 47, 48, 49] (by decide +kernel) (by decide +kernel)
set_option maxRecDepth 20000 in
theorem gX12_examines_X12_keepsUndo : GoodIn wsX12_examines (wsV RX12 144 RX12 yX12_keepsUndo wsX12_keepsUndo) := goodIn_app (goodIn_of _ (by decide +kernel)) ggX12_examines_X12_keepsUndo
set_option maxRecDepth 20000 in
theorem ggX12_examines_X12_hear : GoodIn wsX12_examines wsX12_hear := goodIn_r _ [20, 7, 21, 22, 23, 5, 24, 25, 26, 27, 28, 1, 32, 33, 34, 35, 36, 37, 38, 39, 40, 41, 42, 43, 44, 45, 46, 47, 48, 49] (by decide +kernel) (by decide +kernel)
set_option maxRecDepth 20000 in
theorem gX12_examines_X12_hear : GoodIn wsX12_examines (wsV RX12 131 RX12 yX12_hear wsX12_hear) := goodIn_app (goodIn_of _ (by decide +kernel)) ggX12_examines_X12_hear
set_option maxRecDepth 20000 in
theorem ggX12_examines_X12_hears : GoodIn wsX12_examines wsX12_hears := goodIn_r _ [24, 25, 26, 27, 5, 28, 1, 32, 33, 34, 35, 36, 37, 38, 39, 40, 41, 42, 43, 44, 45, 46, 47, 48, 49] (by decide +kernel) (by decide +kernel)
set_option maxRecDepth 20000 in
theorem gX12_examines_X12_hears : GoodIn wsX12_examines (wsV RX12 105 RX12 yX12_hears wsX12_hears) := goodIn_app (goodIn_of _ (by decide +kernel)) ggX12_examines_X12_hears
set_option maxRecDepth 20000 in
theorem ggX12_examines_X12_many : GoodIn wsX12_examines wsX12_many := goodIn_r _ [31] (by decide +kernel) (by decide +kernel)
set_option maxRecDepth 20000 in
theorem gX12_examines_X12_many : GoodIn wsX12_examines (va_wsS RX12 134 yX12_many wsX12_many) := goodIn_app (goodIn_of _ (by decide +kernel)) ggX12_examines_X12_many
theorem dX12_examines_0 : decode cX12_examines 0 = .ok (.aload_n 0, 1) := by decide +kernel
theorem dX12_examines_1 : decode cX12_examines 1 = .ok (.iload_n 1, 1) := by decide +kernel
theorem dX12_examines_2 : decode cX12_examines 2 = .ok (.invokevirtual 123, 3) := by decide +kernel
theorem dX12_examines_5 : decode cX12_examines 5 = .ok (.ifCond .ne 5, 3) := by decide +kernel
theorem dX12_examines_8 : decode cX12_examines 8 = .ok (.iconst (-1), 1) := by decide +kernel
theorem dX12_examines_9 : decode cX12_examines 9 = .ok (.ireturn, 1) := by decide +kernel
theorem dX12_examines_10 : decode cX12_examines 10 = .ok (.aload_n 0, 1) := by decide +kernel
theorem dX12_examines_11 : decode cX12_examines 11 = .ok (.getfield 19, 3) := by decide +kernel
theorem dX12_examines_14 : decode cX12_examines 14 = .ok (.iconst 1, 1) := by decide +kernel
theorem dX12_examines_15 : decode cX12_examines 15 = .ok (.iaload, 1) := by decide +kernel
theorem dX12_examines_16 : decode cX12_examines 16 = .ok (.iload_n 1, 1) := by decide +kernel
theorem dX12_examines_17 : decode cX12_examines 17 = .ok (.ishr, 1) := by decide +kernel
theorem dX12_examines_18 : decode cX12_examines 18 = .ok (.iconst 1, 1) := by decide +kernel
theorem dX12_examines_19 : decode cX12_examines 19 = .ok (.iand, 1) := by decide +kernel
theorem dX12_examines_20 : decode cX12_examines 20 = .ok (.iconst 1, 1) := by decide +kernel
theorem dX12_examines_21 : decode cX12_examines 21 = .ok (.if_icmp .ne 6, 3) := by decide +kernel
theorem dX12_examines_24 : decode cX12_examines 24 = .ok (.bipush (-2), 2) := by decide +kernel
theorem dX12_examines_26 : decode cX12_examines 26 = .ok (.ireturn, 1) := by decide +kernel
theorem dX12_examines_27 : decode cX12_examines 27 = .ok (.aload_n 0, 1) := by decide +kernel
theorem dX12_examines_28 : decode cX12_examines 28 = .ok (.invokevirtual 144, 3) := by decide +kernel
theorem dX12_examines_31 : decode cX12_examines 31 = .ok (.aload_n 0, 1) := by decide +kernel
theorem dX12_examines_32 : decode cX12_examines 32 = .ok (.aload_n 0, 1) := by decide +kernel
theorem dX12_examines_33 : decode cX12_examines 33 = .ok (.getfield 19, 3) := by decide +kernel
theorem dX12_examines_36 : decode cX12_examines 36 = .ok (.iconst 1, 1) := by decide +kernel
theorem dX12_examines_37 : decode cX12_examines 37 = .ok (.iaload, 1) := by decide +kernel
theorem dX12_examines_38 : decode cX12_examines 38 = .ok (.invokevirtual 131, 3) := by decide +kernel
theorem dX12_examines_41 : decode cX12_examines 41 = .ok (.istore_n 2, 1) := by decide +kernel
theorem dX12_examines_42 : decode cX12_examines 42 = .ok (.aload_n 0, 1) := by decide +kernel
theorem dX12_examines_43 : decode cX12_examines 43 = .ok (.getfield 19, 3) := by decide +kernel
theorem dX12_examines_46 : decode cX12_examines 46 = .ok (.iconst 1, 1) := by decide +kernel
theorem dX12_examines_47 : decode cX12_examines 47 = .ok (.dup2, 1) := by decide +kernel
theorem dX12_examines_48 : decode cX12_examines 48 = .ok (.iaload, 1) := by decide +kernel
theorem dX12_examines_49 : decode cX12_examines 49 = .ok (.iconst 1, 1) := by decide +kernel
theorem dX12_examines_50 : decode cX12_examines 50 = .ok (.iload_n 1, 1) := by decide +kernel
theorem dX12_examines_51 : decode cX12_examines 51 = .ok (.ishl, 1) := by decide +kernel
theorem dX12_examines_52 : decode cX12_examines 52 = .ok (.ior, 1) := by decide +kernel
theorem dX12_examines_53 : decode cX12_examines 53 = .ok (.iastore, 1) := by decide +kernel
theorem dX12_examines_54 : decode cX12_examines 54 = .ok (.aload_n 0, 1) := by decide +kernel
theorem dX12_examines_55 : decode cX12_examines 55 = .ok (.iload_n 1, 1) := by decide +kernel
theorem dX12_examines_56 : decode cX12_examines 56 = .ok (.invokevirtual 105, 3) := by decide +kernel
theorem dX12_examines_59 : decode cX12_examines 59 = .ok (.iload_n 2, 1) := by decide +kernel
theorem dX12_examines_60 : decode cX12_examines 60 = .ok (.iconst (-1), 1) := by decide +kernel
theorem dX12_examines_61 : decode cX12_examines 61 = .ok (.ixor, 1) := by decide +kernel
theorem dX12_examines_62 : decode cX12_examines 62 = .ok (.iand, 1) := by decide +kernel
theorem dX12_examines_63 : decode cX12_examines 63 = .ok (.invokestatic 134, 3) := by decide +kernel
theorem dX12_examines_66 : decode cX12_examines 66 = .ok (.ireturn, 1) := by decide +kernel
theorem dX12_undo_0 : decode cX12_undo 0 = .ok (.aload_n 0, 1) := by decide +kernel
theorem dX12_undo_1 : decode cX12_undo 1 = .ok (.getfield 96, 3) := by decide +kernel
theorem dX12_undo_4 : decode cX12_undo 4 = .ok (.ifCond .ne 6, 3) := by decide +kernel
theorem dX12_undo_7 : decode cX12_undo 7 = .ok (.bipush (-2), 2) := by decide +kernel
theorem dX12_undo_9 : decode cX12_undo 9 = .ok (.ireturn, 1) := by decide +kernel
theorem dX12_undo_10 : decode cX12_undo 10 = .ok (.aload_n 0, 1) := by decide +kernel
theorem dX12_undo_11 : decode cX12_undo 11 = .ok (.dup, 1) := by decide +kernel
theorem dX12_undo_12 : decode cX12_undo 12 = .ok (.getfield 96, 3) := by decide +kernel
theorem dX12_undo_15 : decode cX12_undo 15 = .ok (.iconst 1, 1) := by decide +kernel
theorem dX12_undo_16 : decode cX12_undo 16 = .ok (.isub, 1) := by decide +kernel
theorem dX12_undo_17 : decode cX12_undo 17 = .ok (.putfield 96, 3) := by decide +kernel
theorem dX12_undo_20 : decode cX12_undo 20 = .ok (.iconst 0, 1) := by decide +kernel
theorem dX12_undo_21 : decode cX12_undo 21 = .ok (.istore_n 1, 1) := by decide +kernel
theorem dX12_undo_22 : decode cX12_undo 22 = .ok (.iload_n 1, 1) := by decide +kernel
theorem dX12_undo_23 : decode cX12_undo 23 = .ok (.bipush 50, 2) := by decide +kernel
theorem dX12_undo_25 : decode cX12_undo 25 = .ok (.if_icmp .ge 29, 3) := by decide +kernel
theorem dX12_undo_28 : decode cX12_undo 28 = .ok (.aload_n 0, 1) := by decide +kernel
theorem dX12_undo_29 : decode cX12_undo 29 = .ok (.getfield 19, 3) := by decide +kernel
theorem dX12_undo_32 : decode cX12_undo 32 = .ok (.iload_n 1, 1) := by decide +kernel
theorem dX12_undo_33 : decode cX12_undo 33 = .ok (.aload_n 0, 1) := by decide +kernel
theorem dX12_undo_34 : decode cX12_undo 34 = .ok (.getfield 22, 3) := by decide +kernel
theorem dX12_undo_37 : decode cX12_undo 37 = .ok (.bipush 50, 2) := by decide +kernel
theorem dX12_undo_39 : decode cX12_undo 39 = .ok (.aload_n 0, 1) := by decide +kernel
theorem dX12_undo_40 : decode cX12_undo 40 = .ok (.getfield 96, 3) := by decide +kernel
theorem dX12_undo_43 : decode cX12_undo 43 = .ok (.imul, 1) := by decide +kernel
theorem dX12_undo_44 : decode cX12_undo 44 = .ok (.iload_n 1, 1) := by decide +kernel
theorem dX12_undo_45 : decode cX12_undo 45 = .ok (.iadd, 1) := by decide +kernel
theorem dX12_undo_46 : decode cX12_undo 46 = .ok (.iaload, 1) := by decide +kernel
theorem dX12_undo_47 : decode cX12_undo 47 = .ok (.iastore, 1) := by decide +kernel
theorem dX12_undo_48 : decode cX12_undo 48 = .ok (.iinc 1 1, 3) := by decide +kernel
theorem dX12_undo_51 : decode cX12_undo 51 = .ok (.goto (-29), 3) := by decide +kernel
theorem dX12_undo_54 : decode cX12_undo 54 = .ok (.aload_n 0, 1) := by decide +kernel
theorem dX12_undo_55 : decode cX12_undo 55 = .ok (.getfield 96, 3) := by decide +kernel
theorem dX12_undo_58 : decode cX12_undo 58 = .ok (.ireturn, 1) := by decide +kernel
set_option maxRecDepth 20000 in
theorem ggX12_whose_X12_isPillow : GoodIn wsX12_whose wsX12_isPillow := goodIn_r _ [6, 1, 7, 8, 5, 9, 26, 27, 28, 29, 30, 31, 32, 33, 34, 35, 36, 37, 38, 39, 40, 41, 42, 43] (by decide +kernel) (by decide +kernel)
set_option maxRecDepth 20000 in
theorem gX12_whose_X12_isPillow : GoodIn wsX12_whose (wsV RX12 123 RX12 yX12_isPillow wsX12_isPillow) := goodIn_app (goodIn_of _ (by decide +kernel)) ggX12_whose_X12_isPillow
set_option maxRecDepth 20000 in
theorem ggX12_whose_X12_in : GoodIn wsX12_whose wsX12_in := goodIn_r _ [9] (by decide +kernel) (by decide +kernel)
set_option maxRecDepth 20000 in
theorem gX12_whose_X12_in : GoodIn wsX12_whose (va_wsS RX12 48 yX12_in wsX12_in) := goodIn_app (goodIn_of _ (by decide +kernel)) ggX12_whose_X12_in
set_option maxRecDepth 20000 in
theorem ggX12_whose_X12_hears : GoodIn wsX12_whose wsX12_hears := goodIn_r _ [13, 14, 15, 16, 5, 17, 18, 26, 27, 28, 29, 30, 31, 32, 33, 34, 35, 36, 37, 38, 39, 40, 41, 42, 43] (by decide +kernel) (by decide +kernel)
set_option maxRecDepth 20000 in
theorem gX12_whose_X12_hears : GoodIn wsX12_whose (wsV RX12 105 RX12 yX12_hears wsX12_hears) := goodIn_app (goodIn_of _ (by decide +kernel)) ggX12_whose_X12_hears
set_option maxRecDepth 20000 in
theorem ggX12_whose_X12_knows : GoodIn wsX12_whose wsX12_knows := goodIn_r _ [22, 1, 26, 27, 28, 29, 30, 31, 32, 33, 34, 35, 36, 37, 38, 39, 40, 41, 42, 43] (by decide +kernel) (by decide +kernel)
set_option maxRecDepth 20000 in
theorem gX12_whose_X12_knows : GoodIn wsX12_whose (wsV RX12 109 RX12 yX12_knows wsX12_knows) := goodIn_app (goodIn_of _ (by decide +kernel)) ggX12_whose_X12_knows
set_option maxRecDepth 20000 in
theorem ggX12_whose_X12_many : GoodIn wsX12_whose wsX12_many := goodIn_r _ [25] (by decide +kernel) (by decide +kernel)
set_option maxRecDepth 20000 in
theorem gX12_whose_X12_many : GoodIn wsX12_whose (va_wsS RX12 134 yX12_many wsX12_many) := goodIn_app (goodIn_of _ (by decide +kernel)) ggX12_whose_X12_many
theorem dX12_whose_0 : decode cX12_whose 0 = .ok (.aload_n 0, 1) := by decide +kernel
theorem dX12_whose_1 : decode cX12_whose 1 = .ok (.iload_n 1, 1) := by decide +kernel
theorem dX12_whose_2 : decode cX12_whose 2 = .ok (.invokevirtual 123, 3) := by decide +kernel
theorem dX12_whose_5 : decode cX12_whose 5 = .ok (.ifCond .eq 13, 3) := by decide +kernel
theorem dX12_whose_8 : decode cX12_whose 8 = .ok (.iload_n 2, 1) := by decide +kernel
theorem dX12_whose_9 : decode cX12_whose 9 = .ok (.i2l, 1) := by decide +kernel
theorem dX12_whose_10 : decode cX12_whose 10 = .ok (.lconst 0, 1) := by decide +kernel
theorem dX12_whose_11 : decode cX12_whose 11 = .ok (.lconst 1, 1) := by decide +kernel
theorem dX12_whose_12 : decode cX12_whose 12 = .ok (.invokestatic 48, 3) := by decide +kernel
theorem dX12_whose_15 : decode cX12_whose 15 = .ok (.ifCond .ne 5, 3) := by decide +kernel
theorem dX12_whose_18 : decode cX12_whose 18 = .ok (.iconst (-1), 1) := by decide +kernel
theorem dX12_whose_19 : decode cX12_whose 19 = .ok (.ireturn, 1) := by decide +kernel
theorem dX12_whose_20 : decode cX12_whose 20 = .ok (.aload_n 0, 1) := by decide +kernel
theorem dX12_whose_21 : decode cX12_whose 21 = .ok (.iload_n 1, 1) := by decide +kernel
theorem dX12_whose_22 : decode cX12_whose 22 = .ok (.invokevirtual 105, 3) := by decide +kernel
theorem dX12_whose_25 : decode cX12_whose 25 = .ok (.istore_n 3, 1) := by decide +kernel
theorem dX12_whose_26 : decode cX12_whose 26 = .ok (.iconst 0, 1) := by decide +kernel
theorem dX12_whose_27 : decode cX12_whose 27 = .ok (.istore 4, 2) := by decide +kernel
theorem dX12_whose_29 : decode cX12_whose 29 = .ok (.bipush (-9), 2) := by decide +kernel
theorem dX12_whose_31 : decode cX12_whose 31 = .ok (.istore 5, 2) := by decide +kernel
theorem dX12_whose_33 : decode cX12_whose 33 = .ok (.iconst 0, 1) := by decide +kernel
theorem dX12_whose_34 : decode cX12_whose 34 = .ok (.istore 6, 2) := by decide +kernel
theorem dX12_whose_36 : decode cX12_whose 36 = .ok (.iload 6, 2) := by decide +kernel
theorem dX12_whose_38 : decode cX12_whose 38 = .ok (.iconst 1, 1) := by decide +kernel
theorem dX12_whose_39 : decode cX12_whose 39 = .ok (.aload_n 0, 1) := by decide +kernel
theorem dX12_whose_40 : decode cX12_whose 40 = .ok (.getfield 16, 3) := by decide +kernel
theorem dX12_whose_43 : decode cX12_whose 43 = .ok (.iconst 0, 1) := by decide +kernel
theorem dX12_whose_44 : decode cX12_whose 44 = .ok (.iaload, 1) := by decide +kernel
theorem dX12_whose_45 : decode cX12_whose 45 = .ok (.ishl, 1) := by decide +kernel
theorem dX12_whose_46 : decode cX12_whose 46 = .ok (.if_icmp .ge 99, 3) := by decide +kernel
theorem dX12_whose_49 : decode cX12_whose 49 = .ok (.iconst 0, 1) := by decide +kernel
theorem dX12_whose_50 : decode cX12_whose 50 = .ok (.istore 7, 2) := by decide +kernel
theorem dX12_whose_52 : decode cX12_whose 52 = .ok (.iconst 0, 1) := by decide +kernel
theorem dX12_whose_53 : decode cX12_whose 53 = .ok (.istore 8, 2) := by decide +kernel
theorem dX12_whose_55 : decode cX12_whose 55 = .ok (.iload 8, 2) := by decide +kernel
theorem dX12_whose_57 : decode cX12_whose 57 = .ok (.aload_n 0, 1) := by decide +kernel
theorem dX12_whose_58 : decode cX12_whose 58 = .ok (.getfield 16, 3) := by decide +kernel
theorem dX12_whose_61 : decode cX12_whose 61 = .ok (.iconst 0, 1) := by decide +kernel
theorem dX12_whose_62 : decode cX12_whose 62 = .ok (.iaload, 1) := by decide +kernel
theorem dX12_whose_63 : decode cX12_whose 63 = .ok (.if_icmp .ge 35, 3) := by decide +kernel
theorem dX12_whose_66 : decode cX12_whose 66 = .ok (.iload 7, 2) := by decide +kernel
theorem dX12_whose_68 : decode cX12_whose 68 = .ok (.iload 6, 2) := by decide +kernel
theorem dX12_whose_70 : decode cX12_whose 70 = .ok (.iload 8, 2) := by decide +kernel
theorem dX12_whose_72 : decode cX12_whose 72 = .ok (.ishr, 1) := by decide +kernel
theorem dX12_whose_73 : decode cX12_whose 73 = .ok (.iconst 1, 1) := by decide +kernel
theorem dX12_whose_74 : decode cX12_whose 74 = .ok (.iand, 1) := by decide +kernel
theorem dX12_whose_75 : decode cX12_whose 75 = .ok (.iconst 1, 1) := by decide +kernel
theorem dX12_whose_76 : decode cX12_whose 76 = .ok (.if_icmp .ne 12, 3) := by decide +kernel
theorem dX12_whose_79 : decode cX12_whose 79 = .ok (.aload_n 0, 1) := by decide +kernel
theorem dX12_whose_80 : decode cX12_whose 80 = .ok (.iload 8, 2) := by decide +kernel
theorem dX12_whose_82 : decode cX12_whose 82 = .ok (.invokevirtual 109, 3) := by decide +kernel
theorem dX12_whose_85 : decode cX12_whose 85 = .ok (.goto 4, 3) := by decide +kernel
theorem dX12_whose_88 : decode cX12_whose 88 = .ok (.iconst 0, 1) := by decide +kernel
theorem dX12_whose_89 : decode cX12_whose 89 = .ok (.ior, 1) := by decide +kernel
theorem dX12_whose_90 : decode cX12_whose 90 = .ok (.istore 7, 2) := by decide +kernel
theorem dX12_whose_92 : decode cX12_whose 92 = .ok (.iinc 8 1, 3) := by decide +kernel
theorem dX12_whose_95 : decode cX12_whose 95 = .ok (.goto (-40), 3) := by decide +kernel
theorem dX12_whose_98 : decode cX12_whose 98 = .ok (.iload_n 3, 1) := by decide +kernel
theorem dX12_whose_99 : decode cX12_whose 99 = .ok (.iload 7, 2) := by decide +kernel
theorem dX12_whose_101 : decode cX12_whose 101 = .ok (.iconst (-1), 1) := by decide +kernel
theorem dX12_whose_102 : decode cX12_whose 102 = .ok (.ixor, 1) := by decide +kernel
theorem dX12_whose_103 : decode cX12_whose 103 = .ok (.iand, 1) := by decide +kernel
theorem dX12_whose_104 : decode cX12_whose 104 = .ok (.ifCond .ne 35, 3) := by decide +kernel
theorem dX12_whose_107 : decode cX12_whose 107 = .ok (.iinc 4 1, 3) := by decide +kernel
theorem dX12_whose_110 : decode cX12_whose 110 = .ok (.iload 5, 2) := by decide +kernel
theorem dX12_whose_112 : decode cX12_whose 112 = .ok (.bipush (-9), 2) := by decide +kernel
theorem dX12_whose_114 : decode cX12_whose 114 = .ok (.if_icmp .eq 16, 3) := by decide +kernel
theorem dX12_whose_117 : decode cX12_whose 117 = .ok (.iload 6, 2) := by decide +kernel
theorem dX12_whose_119 : decode cX12_whose 119 = .ok (.invokestatic 134, 3) := by decide +kernel
theorem dX12_whose_122 : decode cX12_whose 122 = .ok (.iload 5, 2) := by decide +kernel
theorem dX12_whose_124 : decode cX12_whose 124 = .ok (.invokestatic 134, 3) := by decide +kernel
theorem dX12_whose_127 : decode cX12_whose 127 = .ok (.if_icmp .ge 8, 3) := by decide +kernel
theorem dX12_whose_130 : decode cX12_whose 130 = .ok (.iload 6, 2) := by decide +kernel
theorem dX12_whose_132 : decode cX12_whose 132 = .ok (.goto 5, 3) := by decide +kernel
theorem dX12_whose_135 : decode cX12_whose 135 = .ok (.iload 5, 2) := by decide +kernel
theorem dX12_whose_137 : decode cX12_whose 137 = .ok (.istore 5, 2) := by decide +kernel
theorem dX12_whose_139 : decode cX12_whose 139 = .ok (.iinc 6 1, 3) := by decide +kernel
theorem dX12_whose_142 : decode cX12_whose 142 = .ok (.goto (-106), 3) := by decide +kernel
theorem dX12_whose_145 : decode cX12_whose 145 = .ok (.iload_n 2, 1) := by decide +kernel
theorem dX12_whose_146 : decode cX12_whose 146 = .ok (.ifCond .ne 8, 3) := by decide +kernel
theorem dX12_whose_149 : decode cX12_whose 149 = .ok (.iload 4, 2) := by decide +kernel
theorem dX12_whose_151 : decode cX12_whose 151 = .ok (.goto 5, 3) := by decide +kernel
theorem dX12_whose_154 : decode cX12_whose 154 = .ok (.iload 5, 2) := by decide +kernel
theorem dX12_whose_156 : decode cX12_whose 156 = .ok (.ireturn, 1) := by decide +kernel
set_option maxRecDepth 20000 in
theorem ggX12_so_X12_in : GoodIn wsX12_so wsX12_in := goodIn_r _ [5] (by decide +kernel) (by decide +kernel)
set_option maxRecDepth 20000 in
theorem gX12_so_X12_in : GoodIn wsX12_so (va_wsS RX12 48 yX12_in wsX12_in) := goodIn_app (goodIn_of _ (by decide +kernel)) ggX12_so_X12_in
set_option maxRecDepth 20000 in
theorem ggX12_so_X12_often : GoodIn wsX12_so wsX12_often := goodIn_r _ [9, 10, 11, 12, 13, 14, 15, 16, 17, 18, 19, 20, 21, 22, 23, 24, 25, 26, 27, 28] (by decide +kernel) (by decide +kernel)
set_option maxRecDepth 20000 in
theorem gX12_so_X12_often : GoodIn wsX12_so (wsV RX12 101 RX12 yX12_often wsX12_often) := goodIn_app (goodIn_of _ (by decide +kernel)) ggX12_so_X12_often
theorem dX12_so_0 : decode cX12_so 0 = .ok (.iload_n 1, 1) := by decide +kernel
theorem dX12_so_1 : decode cX12_so 1 = .ok (.i2l, 1) := by decide +kernel
theorem dX12_so_2 : decode cX12_so 2 = .ok (.lconst 0, 1) := by decide +kernel
theorem dX12_so_3 : decode cX12_so 3 = .ok (.lconst 1, 1) := by decide +kernel
theorem dX12_so_4 : decode cX12_so 4 = .ok (.invokestatic 48, 3) := by decide +kernel
theorem dX12_so_7 : decode cX12_so 7 = .ok (.ifCond .ne 5, 3) := by decide +kernel
theorem dX12_so_10 : decode cX12_so 10 = .ok (.iconst (-1), 1) := by decide +kernel
theorem dX12_so_11 : decode cX12_so 11 = .ok (.ireturn, 1) := by decide +kernel
theorem dX12_so_12 : decode cX12_so 12 = .ok (.iconst 0, 1) := by decide +kernel
theorem dX12_so_13 : decode cX12_so 13 = .ok (.istore_n 2, 1) := by decide +kernel
theorem dX12_so_14 : decode cX12_so 14 = .ok (.iconst (-1), 1) := by decide +kernel
theorem dX12_so_15 : decode cX12_so 15 = .ok (.istore_n 3, 1) := by decide +kernel
theorem dX12_so_16 : decode cX12_so 16 = .ok (.iconst 0, 1) := by decide +kernel
theorem dX12_so_17 : decode cX12_so 17 = .ok (.istore 4, 2) := by decide +kernel
theorem dX12_so_19 : decode cX12_so 19 = .ok (.iload 4, 2) := by decide +kernel
theorem dX12_so_21 : decode cX12_so 21 = .ok (.sipush 128, 3) := by decide +kernel
theorem dX12_so_24 : decode cX12_so 24 = .ok (.if_icmp .ge 150, 3) := by decide +kernel
theorem dX12_so_27 : decode cX12_so 27 = .ok (.iconst 0, 1) := by decide +kernel
theorem dX12_so_28 : decode cX12_so 28 = .ok (.istore 5, 2) := by decide +kernel
theorem dX12_so_30 : decode cX12_so 30 = .ok (.iconst 0, 1) := by decide +kernel
theorem dX12_so_31 : decode cX12_so 31 = .ok (.istore 6, 2) := by decide +kernel
theorem dX12_so_33 : decode cX12_so 33 = .ok (.iconst 0, 1) := by decide +kernel
theorem dX12_so_34 : decode cX12_so 34 = .ok (.istore 7, 2) := by decide +kernel
theorem dX12_so_36 : decode cX12_so 36 = .ok (.iload 7, 2) := by decide +kernel
theorem dX12_so_38 : decode cX12_so 38 = .ok (.bipush 7, 2) := by decide +kernel
theorem dX12_so_40 : decode cX12_so 40 = .ok (.if_icmp .ge 83, 3) := by decide +kernel
theorem dX12_so_43 : decode cX12_so 43 = .ok (.iload 5, 2) := by decide +kernel
theorem dX12_so_45 : decode cX12_so 45 = .ok (.iload 4, 2) := by decide +kernel
theorem dX12_so_47 : decode cX12_so 47 = .ok (.iload 7, 2) := by decide +kernel
theorem dX12_so_49 : decode cX12_so 49 = .ok (.ishr, 1) := by decide +kernel
theorem dX12_so_50 : decode cX12_so 50 = .ok (.iconst 1, 1) := by decide +kernel
theorem dX12_so_51 : decode cX12_so 51 = .ok (.iand, 1) := by decide +kernel
theorem dX12_so_52 : decode cX12_so 52 = .ok (.iconst 1, 1) := by decide +kernel
theorem dX12_so_53 : decode cX12_so 53 = .ok (.if_icmp .ne 16, 3) := by decide +kernel
theorem dX12_so_56 : decode cX12_so 56 = .ok (.aload_n 0, 1) := by decide +kernel
theorem dX12_so_57 : decode cX12_so 57 = .ok (.getfield 16, 3) := by decide +kernel
theorem dX12_so_60 : decode cX12_so 60 = .ok (.bipush 14, 2) := by decide +kernel
theorem dX12_so_62 : decode cX12_so 62 = .ok (.iload 7, 2) := by decide +kernel
theorem dX12_so_64 : decode cX12_so 64 = .ok (.iadd, 1) := by decide +kernel
theorem dX12_so_65 : decode cX12_so 65 = .ok (.iaload, 1) := by decide +kernel
theorem dX12_so_66 : decode cX12_so 66 = .ok (.goto 4, 3) := by decide +kernel
theorem dX12_so_69 : decode cX12_so 69 = .ok (.iconst 0, 1) := by decide +kernel
theorem dX12_so_70 : decode cX12_so 70 = .ok (.ior, 1) := by decide +kernel
theorem dX12_so_71 : decode cX12_so 71 = .ok (.istore 5, 2) := by decide +kernel
theorem dX12_so_73 : decode cX12_so 73 = .ok (.iconst 0, 1) := by decide +kernel
theorem dX12_so_74 : decode cX12_so 74 = .ok (.istore 8, 2) := by decide +kernel
theorem dX12_so_76 : decode cX12_so 76 = .ok (.iload 8, 2) := by decide +kernel
theorem dX12_so_78 : decode cX12_so 78 = .ok (.aload_n 0, 1) := by decide +kernel
theorem dX12_so_79 : decode cX12_so 79 = .ok (.getfield 16, 3) := by decide +kernel
theorem dX12_so_82 : decode cX12_so 82 = .ok (.iconst 1, 1) := by decide +kernel
theorem dX12_so_83 : decode cX12_so 83 = .ok (.iaload, 1) := by decide +kernel
theorem dX12_so_84 : decode cX12_so 84 = .ok (.if_icmp .ge 33, 3) := by decide +kernel
theorem dX12_so_87 : decode cX12_so 87 = .ok (.iload 4, 2) := by decide +kernel
theorem dX12_so_89 : decode cX12_so 89 = .ok (.iload 7, 2) := by decide +kernel
theorem dX12_so_91 : decode cX12_so 91 = .ok (.ishr, 1) := by decide +kernel
theorem dX12_so_92 : decode cX12_so 92 = .ok (.iconst 1, 1) := by decide +kernel
theorem dX12_so_93 : decode cX12_so 93 = .ok (.iand, 1) := by decide +kernel
theorem dX12_so_94 : decode cX12_so 94 = .ok (.iconst 1, 1) := by decide +kernel
theorem dX12_so_95 : decode cX12_so 95 = .ok (.if_icmp .ne 22, 3) := by decide +kernel
theorem dX12_so_98 : decode cX12_so 98 = .ok (.iload 6, 2) := by decide +kernel
theorem dX12_so_100 : decode cX12_so 100 = .ok (.aload_n 0, 1) := by decide +kernel
theorem dX12_so_101 : decode cX12_so 101 = .ok (.iload 8, 2) := by decide +kernel
theorem dX12_so_103 : decode cX12_so 103 = .ok (.iload 7, 2) := by decide +kernel
theorem dX12_so_105 : decode cX12_so 105 = .ok (.invokevirtual 101, 3) := by decide +kernel
theorem dX12_so_108 : decode cX12_so 108 = .ok (.iadd, 1) := by decide +kernel
theorem dX12_so_109 : decode cX12_so 109 = .ok (.istore 6, 2) := by decide +kernel
theorem dX12_so_111 : decode cX12_so 111 = .ok (.iinc 8 1, 3) := by decide +kernel
theorem dX12_so_114 : decode cX12_so 114 = .ok (.goto (-38), 3) := by decide +kernel
theorem dX12_so_117 : decode cX12_so 117 = .ok (.iinc 7 1, 3) := by decide +kernel
theorem dX12_so_120 : decode cX12_so 120 = .ok (.goto (-84), 3) := by decide +kernel
theorem dX12_so_123 : decode cX12_so 123 = .ok (.iload 5, 2) := by decide +kernel
theorem dX12_so_125 : decode cX12_so 125 = .ok (.iload 4, 2) := by decide +kernel
theorem dX12_so_127 : decode cX12_so 127 = .ok (.iand, 1) := by decide +kernel
theorem dX12_so_128 : decode cX12_so 128 = .ok (.ifCond .ne 13, 3) := by decide +kernel
theorem dX12_so_131 : decode cX12_so 131 = .ok (.iload 6, 2) := by decide +kernel
theorem dX12_so_133 : decode cX12_so 133 = .ok (.iload_n 3, 1) := by decide +kernel
theorem dX12_so_134 : decode cX12_so 134 = .ok (.if_icmp .le 7, 3) := by decide +kernel
theorem dX12_so_137 : decode cX12_so 137 = .ok (.iconst 1, 1) := by decide +kernel
theorem dX12_so_138 : decode cX12_so 138 = .ok (.goto 4, 3) := by decide +kernel
theorem dX12_so_141 : decode cX12_so 141 = .ok (.iconst 0, 1) := by decide +kernel
theorem dX12_so_142 : decode cX12_so 142 = .ok (.istore 7, 2) := by decide +kernel
theorem dX12_so_144 : decode cX12_so 144 = .ok (.iload 7, 2) := by decide +kernel
theorem dX12_so_146 : decode cX12_so 146 = .ok (.ifCond .eq 8, 3) := by decide +kernel
theorem dX12_so_149 : decode cX12_so 149 = .ok (.iload 4, 2) := by decide +kernel
theorem dX12_so_151 : decode cX12_so 151 = .ok (.goto 4, 3) := by decide +kernel
theorem dX12_so_154 : decode cX12_so 154 = .ok (.iload_n 2, 1) := by decide +kernel
theorem dX12_so_155 : decode cX12_so 155 = .ok (.istore_n 2, 1) := by decide +kernel
theorem dX12_so_156 : decode cX12_so 156 = .ok (.iload 7, 2) := by decide +kernel
theorem dX12_so_158 : decode cX12_so 158 = .ok (.ifCond .eq 8, 3) := by decide +kernel
theorem dX12_so_161 : decode cX12_so 161 = .ok (.iload 6, 2) := by decide +kernel
theorem dX12_so_163 : decode cX12_so 163 = .ok (.goto 4, 3) := by decide +kernel
theorem dX12_so_166 : decode cX12_so 166 = .ok (.iload_n 3, 1) := by decide +kernel
theorem dX12_so_167 : decode cX12_so 167 = .ok (.istore_n 3, 1) := by decide +kernel
theorem dX12_so_168 : decode cX12_so 168 = .ok (.iinc 4 1, 3) := by decide +kernel
theorem dX12_so_171 : decode cX12_so 171 = .ok (.goto (-152), 3) := by decide +kernel
theorem dX12_so_174 : decode cX12_so 174 = .ok (.iload_n 1, 1) := by decide +kernel
theorem dX12_so_175 : decode cX12_so 175 = .ok (.ifCond .ne 7, 3) := by decide +kernel
theorem dX12_so_178 : decode cX12_so 178 = .ok (.iload_n 2, 1) := by decide +kernel
theorem dX12_so_179 : decode cX12_so 179 = .ok (.goto 4, 3) := by decide +kernel
theorem dX12_so_182 : decode cX12_so 182 = .ok (.iload_n 3, 1) := by decide +kernel
theorem dX12_so_183 : decode cX12_so 183 = .ok (.ireturn, 1) := by decide +kernel
set_option maxRecDepth 20000 in
theorem ggX12_tally_X12_isPillow : GoodIn wsX12_tally wsX12_isPillow := goodIn_r _ [5, 6, 7, 8, 4, 9, 22, 23, 24, 25, 26, 27, 28, 29, 30, 31, 32, 33, 34, 35, 36, 37, 38, 39] (by decide +kernel) (by decide +kernel)
set_option maxRecDepth 20000 in
theorem gX12_tally_X12_isPillow : GoodIn wsX12_tally (wsV RX12 123 RX12 yX12_isPillow wsX12_isPillow) := goodIn_app (goodIn_of _ (by decide +kernel)) ggX12_tally_X12_isPillow
set_option maxRecDepth 20000 in
theorem ggX12_tally_X12_hears : GoodIn wsX12_tally wsX12_hears := goodIn_r _ [13, 14, 15, 16, 4, 17, 18, 22, 23, 24, 25, 26, 27, 28, 29, 30, 31, 32, 33, 34, 35, 36, 37, 38, 39] (by decide +kernel) (by decide +kernel)
set_option maxRecDepth 20000 in
theorem gX12_tally_X12_hears : GoodIn wsX12_tally (wsV RX12 105 RX12 yX12_hears wsX12_hears) := goodIn_app (goodIn_of _ (by decide +kernel)) ggX12_tally_X12_hears
set_option maxRecDepth 20000 in
theorem ggX12_tally_X12_many : GoodIn wsX12_tally wsX12_many := goodIn_r _ [21] (by decide +kernel) (by decide +kernel)
set_option maxRecDepth 20000 in
theorem gX12_tally_X12_many : GoodIn wsX12_tally (va_wsS RX12 134 yX12_many wsX12_many) := goodIn_app (goodIn_of _ (by decide +kernel)) ggX12_tally_X12_many
end
section
theorem dX12_tally_0 : decode cX12_tally 0 = .ok (.aload_n 0, 1) := by decide +kernel
theorem dX12_tally_1 : decode cX12_tally 1 = .ok (.iload_n 1, 1) := by decide +kernel
theorem dX12_tally_2 : decode cX12_tally 2 = .ok (.invokevirtual 123, 3) := by decide +kernel
theorem dX12_tally_5 : decode cX12_tally 5 = .ok (.ifCond .eq 33, 3) := by decide +kernel
theorem dX12_tally_8 : decode cX12_tally 8 = .ok (.aload_n 0, 1) := by decide +kernel
theorem dX12_tally_9 : decode cX12_tally 9 = .ok (.iload_n 2, 1) := by decide +kernel
theorem dX12_tally_10 : decode cX12_tally 10 = .ok (.invokevirtual 123, 3) := by decide +kernel
theorem dX12_tally_13 : decode cX12_tally 13 = .ok (.ifCond .eq 25, 3) := by decide +kernel
theorem dX12_tally_16 : decode cX12_tally 16 = .ok (.iload_n 1, 1) := by decide +kernel
theorem dX12_tally_17 : decode cX12_tally 17 = .ok (.iload_n 2, 1) := by decide +kernel
theorem dX12_tally_18 : decode cX12_tally 18 = .ok (.if_icmp .eq 20, 3) := by decide +kernel
theorem dX12_tally_21 : decode cX12_tally 21 = .ok (.aload_n 0, 1) := by decide +kernel
theorem dX12_tally_22 : decode cX12_tally 22 = .ok (.iload_n 1, 1) := by decide +kernel
theorem dX12_tally_23 : decode cX12_tally 23 = .ok (.invokevirtual 105, 3) := by decide +kernel
theorem dX12_tally_26 : decode cX12_tally 26 = .ok (.aload_n 0, 1) := by decide +kernel
theorem dX12_tally_27 : decode cX12_tally 27 = .ok (.iload_n 2, 1) := by decide +kernel
theorem dX12_tally_28 : decode cX12_tally 28 = .ok (.invokevirtual 105, 3) := by decide +kernel
theorem dX12_tally_31 : decode cX12_tally 31 = .ok (.ixor, 1) := by decide +kernel
theorem dX12_tally_32 : decode cX12_tally 32 = .ok (.invokestatic 134, 3) := by decide +kernel
theorem dX12_tally_35 : decode cX12_tally 35 = .ok (.goto 4, 3) := by decide +kernel
theorem dX12_tally_38 : decode cX12_tally 38 = .ok (.iconst (-1), 1) := by decide +kernel
theorem dX12_tally_39 : decode cX12_tally 39 = .ok (.ireturn, 1) := by decide +kernel
set_option maxRecDepth 20000 in
theorem ggX12_explains_X12_knows : GoodIn wsX12_explains wsX12_knows := goodIn_r _ [5, 6, 12, 13, 14, 15, 16, 17, 18, 19, 20, 21, 22, 23, 24, 25, 26, 27, 28, 29] (by decide +kernel) (by decide +kernel)
set_option maxRecDepth 20000 in
theorem gX12_explains_X12_knows : GoodIn wsX12_explains (wsV RX12 109 RX12 yX12_knows wsX12_knows) := goodIn_app (goodIn_of _ (by decide +kernel)) ggX12_explains_X12_knows
set_option maxRecDepth 20000 in
theorem ggX12_explains_X12_often : GoodIn wsX12_explains wsX12_often := goodIn_r _ [10, 11, 12, 13, 14, 15, 16, 17, 18, 19, 20, 21, 22, 23, 24, 25, 26, 27, 28, 29] (by decide +kernel) (by decide +kernel)
set_option maxRecDepth 20000 in
theorem gX12_explains_X12_often : GoodIn wsX12_explains (wsV RX12 101 RX12 yX12_often wsX12_often) := goodIn_app (goodIn_of _ (by decide +kernel)) ggX12_explains_X12_often
theorem dX12_explains_0 : decode cX12_explains 0 = .ok (.iconst 0, 1) := by decide +kernel
theorem dX12_explains_1 : decode cX12_explains 1 = .ok (.istore_n 3, 1) := by decide +kernel
theorem dX12_explains_2 : decode cX12_explains 2 = .ok (.iconst 0, 1) := by decide +kernel
theorem dX12_explains_3 : decode cX12_explains 3 = .ok (.istore 4, 2) := by decide +kernel
theorem dX12_explains_5 : decode cX12_explains 5 = .ok (.iload 4, 2) := by decide +kernel
theorem dX12_explains_7 : decode cX12_explains 7 = .ok (.bipush 7, 2) := by decide +kernel
theorem dX12_explains_9 : decode cX12_explains 9 = .ok (.if_icmp .ge 37, 3) := by decide +kernel
theorem dX12_explains_12 : decode cX12_explains 12 = .ok (.iload_n 3, 1) := by decide +kernel
theorem dX12_explains_13 : decode cX12_explains 13 = .ok (.aload_n 0, 1) := by decide +kernel
theorem dX12_explains_14 : decode cX12_explains 14 = .ok (.iload_n 1, 1) := by decide +kernel
theorem dX12_explains_15 : decode cX12_explains 15 = .ok (.invokevirtual 109, 3) := by decide +kernel
theorem dX12_explains_18 : decode cX12_explains 18 = .ok (.iload 4, 2) := by decide +kernel
theorem dX12_explains_20 : decode cX12_explains 20 = .ok (.ishr, 1) := by decide +kernel
theorem dX12_explains_21 : decode cX12_explains 21 = .ok (.iconst 1, 1) := by decide +kernel
theorem dX12_explains_22 : decode cX12_explains 22 = .ok (.iand, 1) := by decide +kernel
theorem dX12_explains_23 : decode cX12_explains 23 = .ok (.iconst 1, 1) := by decide +kernel
theorem dX12_explains_24 : decode cX12_explains 24 = .ok (.if_icmp .ne 13, 3) := by decide +kernel
theorem dX12_explains_27 : decode cX12_explains 27 = .ok (.aload_n 0, 1) := by decide +kernel
theorem dX12_explains_28 : decode cX12_explains 28 = .ok (.iload_n 2, 1) := by decide +kernel
theorem dX12_explains_29 : decode cX12_explains 29 = .ok (.iload 4, 2) := by decide +kernel
theorem dX12_explains_31 : decode cX12_explains 31 = .ok (.invokevirtual 101, 3) := by decide +kernel
theorem dX12_explains_34 : decode cX12_explains 34 = .ok (.goto 4, 3) := by decide +kernel
theorem dX12_explains_37 : decode cX12_explains 37 = .ok (.iconst 0, 1) := by decide +kernel
theorem dX12_explains_38 : decode cX12_explains 38 = .ok (.iadd, 1) := by decide +kernel
theorem dX12_explains_39 : decode cX12_explains 39 = .ok (.istore_n 3, 1) := by decide +kernel
theorem dX12_explains_40 : decode cX12_explains 40 = .ok (.iinc 4 1, 3) := by decide +kernel
theorem dX12_explains_43 : decode cX12_explains 43 = .ok (.goto (-38), 3) := by decide +kernel
theorem dX12_explains_46 : decode cX12_explains 46 = .ok (.iload_n 3, 1) := by decide +kernel
theorem dX12_explains_47 : decode cX12_explains 47 = .ok (.ireturn, 1) := by decide +kernel
set_option maxRecDepth 20000 in
theorem ggX12_works_X12_explains : GoodIn wsX12_works wsX12_explains := goodIn_r _ [7, 8, 9, 10, 6, 11, 2, 12, 13, 14, 15, 16, 17, 18, 19, 20, 21, 22, 23, 24, 25, 26, 27, 28, 29, 30, 31, 32, 33, 34] (by decide +kernel) (by decide +kernel)
set_option maxRecDepth 20000 in
theorem gX12_works_X12_explains : GoodIn wsX12_works (wsV RX12 165 RX12 yX12_explains wsX12_explains) := goodIn_app (goodIn_of _ (by decide +kernel)) ggX12_works_X12_explains
theorem dX12_works_0 : decode cX12_works 0 = .ok (.iconst 0, 1) := by decide +kernel
theorem dX12_works_1 : decode cX12_works 1 = .ok (.istore_n 1, 1) := by decide +kernel
theorem dX12_works_2 : decode cX12_works 2 = .ok (.iload_n 1, 1) := by decide +kernel
theorem dX12_works_3 : decode cX12_works 3 = .ok (.bipush 64, 2) := by decide +kernel
theorem dX12_works_5 : decode cX12_works 5 = .ok (.if_icmp .ge 26, 3) := by decide +kernel
theorem dX12_works_8 : decode cX12_works 8 = .ok (.aload_n 0, 1) := by decide +kernel
theorem dX12_works_9 : decode cX12_works 9 = .ok (.getfield 25, 3) := by decide +kernel
theorem dX12_works_12 : decode cX12_works 12 = .ok (.bipush 64, 2) := by decide +kernel
theorem dX12_works_14 : decode cX12_works 14 = .ok (.aload_n 0, 1) := by decide +kernel
theorem dX12_works_15 : decode cX12_works 15 = .ok (.getfield 16, 3) := by decide +kernel
theorem dX12_works_18 : decode cX12_works 18 = .ok (.iconst 0, 1) := by decide +kernel
theorem dX12_works_19 : decode cX12_works 19 = .ok (.iaload, 1) := by decide +kernel
theorem dX12_works_20 : decode cX12_works 20 = .ok (.imul, 1) := by decide +kernel
theorem dX12_works_21 : decode cX12_works 21 = .ok (.iload_n 1, 1) := by decide +kernel
theorem dX12_works_22 : decode cX12_works 22 = .ok (.iadd, 1) := by decide +kernel
theorem dX12_works_23 : decode cX12_works 23 = .ok (.iconst 0, 1) := by decide +kernel
theorem dX12_works_24 : decode cX12_works 24 = .ok (.iastore, 1) := by decide +kernel
theorem dX12_works_25 : decode cX12_works 25 = .ok (.iinc 1 1, 3) := by decide +kernel
theorem dX12_works_28 : decode cX12_works 28 = .ok (.goto (-26), 3) := by decide +kernel
theorem dX12_works_31 : decode cX12_works 31 = .ok (.aload_n 0, 1) := by decide +kernel
theorem dX12_works_32 : decode cX12_works 32 = .ok (.getfield 16, 3) := by decide +kernel
theorem dX12_works_35 : decode cX12_works 35 = .ok (.iconst 0, 1) := by decide +kernel
theorem dX12_works_36 : decode cX12_works 36 = .ok (.iaload, 1) := by decide +kernel
theorem dX12_works_37 : decode cX12_works 37 = .ok (.iconst 1, 1) := by decide +kernel
theorem dX12_works_38 : decode cX12_works 38 = .ok (.isub, 1) := by decide +kernel
theorem dX12_works_39 : decode cX12_works 39 = .ok (.istore_n 1, 1) := by decide +kernel
theorem dX12_works_40 : decode cX12_works 40 = .ok (.iload_n 1, 1) := by decide +kernel
theorem dX12_works_41 : decode cX12_works 41 = .ok (.ifCond .lt 123, 3) := by decide +kernel
theorem dX12_works_44 : decode cX12_works 44 = .ok (.iconst 0, 1) := by decide +kernel
theorem dX12_works_45 : decode cX12_works 45 = .ok (.istore_n 2, 1) := by decide +kernel
theorem dX12_works_46 : decode cX12_works 46 = .ok (.iload_n 2, 1) := by decide +kernel
theorem dX12_works_47 : decode cX12_works 47 = .ok (.bipush 64, 2) := by decide +kernel
theorem dX12_works_49 : decode cX12_works 49 = .ok (.if_icmp .ge 109, 3) := by decide +kernel
theorem dX12_works_52 : decode cX12_works 52 = .ok (.aload_n 0, 1) := by decide +kernel
theorem dX12_works_53 : decode cX12_works 53 = .ok (.getfield 25, 3) := by decide +kernel
theorem dX12_works_56 : decode cX12_works 56 = .ok (.bipush 64, 2) := by decide +kernel
theorem dX12_works_58 : decode cX12_works 58 = .ok (.iload_n 1, 1) := by decide +kernel
theorem dX12_works_59 : decode cX12_works 59 = .ok (.iconst 1, 1) := by decide +kernel
theorem dX12_works_60 : decode cX12_works 60 = .ok (.iadd, 1) := by decide +kernel
theorem dX12_works_61 : decode cX12_works 61 = .ok (.imul, 1) := by decide +kernel
theorem dX12_works_62 : decode cX12_works 62 = .ok (.iload_n 2, 1) := by decide +kernel
theorem dX12_works_63 : decode cX12_works 63 = .ok (.iadd, 1) := by decide +kernel
theorem dX12_works_64 : decode cX12_works 64 = .ok (.iaload, 1) := by decide +kernel
theorem dX12_works_65 : decode cX12_works 65 = .ok (.istore_n 3, 1) := by decide +kernel
theorem dX12_works_66 : decode cX12_works 66 = .ok (.iconst 0, 1) := by decide +kernel
theorem dX12_works_67 : decode cX12_works 67 = .ok (.istore 4, 2) := by decide +kernel
theorem dX12_works_69 : decode cX12_works 69 = .ok (.iload 4, 2) := by decide +kernel
theorem dX12_works_71 : decode cX12_works 71 = .ok (.aload_n 0, 1) := by decide +kernel
theorem dX12_works_72 : decode cX12_works 72 = .ok (.getfield 16, 3) := by decide +kernel
theorem dX12_works_75 : decode cX12_works 75 = .ok (.iconst 1, 1) := by decide +kernel
theorem dX12_works_76 : decode cX12_works 76 = .ok (.iaload, 1) := by decide +kernel
theorem dX12_works_77 : decode cX12_works 77 = .ok (.if_icmp .ge 63, 3) := by decide +kernel
theorem dX12_works_80 : decode cX12_works 80 = .ok (.iload_n 2, 1) := by decide +kernel
theorem dX12_works_81 : decode cX12_works 81 = .ok (.iload 4, 2) := by decide +kernel
theorem dX12_works_83 : decode cX12_works 83 = .ok (.ishr, 1) := by decide +kernel
theorem dX12_works_84 : decode cX12_works 84 = .ok (.iconst 1, 1) := by decide +kernel
theorem dX12_works_85 : decode cX12_works 85 = .ok (.iand, 1) := by decide +kernel
theorem dX12_works_86 : decode cX12_works 86 = .ok (.ifCond .ne 7, 3) := by decide +kernel
theorem dX12_works_89 : decode cX12_works 89 = .ok (.iconst 0, 1) := by decide +kernel
theorem dX12_works_90 : decode cX12_works 90 = .ok (.goto 29, 3) := by decide +kernel
theorem dX12_works_93 : decode cX12_works 93 = .ok (.aload_n 0, 1) := by decide +kernel
theorem dX12_works_94 : decode cX12_works 94 = .ok (.iload_n 1, 1) := by decide +kernel
theorem dX12_works_95 : decode cX12_works 95 = .ok (.iload 4, 2) := by decide +kernel
theorem dX12_works_97 : decode cX12_works 97 = .ok (.invokevirtual 165, 3) := by decide +kernel
theorem dX12_works_100 : decode cX12_works 100 = .ok (.aload_n 0, 1) := by decide +kernel
theorem dX12_works_101 : decode cX12_works 101 = .ok (.getfield 25, 3) := by decide +kernel
theorem dX12_works_104 : decode cX12_works 104 = .ok (.bipush 64, 2) := by decide +kernel
theorem dX12_works_106 : decode cX12_works 106 = .ok (.iload_n 1, 1) := by decide +kernel
theorem dX12_works_107 : decode cX12_works 107 = .ok (.iconst 1, 1) := by decide +kernel
theorem dX12_works_108 : decode cX12_works 108 = .ok (.iadd, 1) := by decide +kernel
theorem dX12_works_109 : decode cX12_works 109 = .ok (.imul, 1) := by decide +kernel
theorem dX12_works_110 : decode cX12_works 110 = .ok (.iload_n 2, 1) := by decide +kernel
theorem dX12_works_111 : decode cX12_works 111 = .ok (.iadd, 1) := by decide +kernel
theorem dX12_works_112 : decode cX12_works 112 = .ok (.iconst 1, 1) := by decide +kernel
theorem dX12_works_113 : decode cX12_works 113 = .ok (.iload 4, 2) := by decide +kernel
theorem dX12_works_115 : decode cX12_works 115 = .ok (.ishl, 1) := by decide +kernel
theorem dX12_works_116 : decode cX12_works 116 = .ok (.isub, 1) := by decide +kernel
theorem dX12_works_117 : decode cX12_works 117 = .ok (.iaload, 1) := by decide +kernel
theorem dX12_works_118 : decode cX12_works 118 = .ok (.iadd, 1) := by decide +kernel
theorem dX12_works_119 : decode cX12_works 119 = .ok (.istore 5, 2) := by decide +kernel
theorem dX12_works_121 : decode cX12_works 121 = .ok (.iload 5, 2) := by decide +kernel
theorem dX12_works_123 : decode cX12_works 123 = .ok (.iload_n 3, 1) := by decide +kernel
theorem dX12_works_124 : decode cX12_works 124 = .ok (.if_icmp .le 8, 3) := by decide +kernel
theorem dX12_works_127 : decode cX12_works 127 = .ok (.iload 5, 2) := by decide +kernel
theorem dX12_works_129 : decode cX12_works 129 = .ok (.goto 4, 3) := by decide +kernel
theorem dX12_works_132 : decode cX12_works 132 = .ok (.iload_n 3, 1) := by decide +kernel
theorem dX12_works_133 : decode cX12_works 133 = .ok (.istore_n 3, 1) := by decide +kernel
theorem dX12_works_134 : decode cX12_works 134 = .ok (.iinc 4 1, 3) := by decide +kernel
theorem dX12_works_137 : decode cX12_works 137 = .ok (.goto (-68), 3) := by decide +kernel
theorem dX12_works_140 : decode cX12_works 140 = .ok (.aload_n 0, 1) := by decide +kernel
theorem dX12_works_141 : decode cX12_works 141 = .ok (.getfield 25, 3) := by decide +kernel
theorem dX12_works_144 : decode cX12_works 144 = .ok (.bipush 64, 2) := by decide +kernel
theorem dX12_works_146 : decode cX12_works 146 = .ok (.iload_n 1, 1) := by decide +kernel
theorem dX12_works_147 : decode cX12_works 147 = .ok (.imul, 1) := by decide +kernel
theorem dX12_works_148 : decode cX12_works 148 = .ok (.iload_n 2, 1) := by decide +kernel
theorem dX12_works_149 : decode cX12_works 149 = .ok (.iadd, 1) := by decide +kernel
theorem dX12_works_150 : decode cX12_works 150 = .ok (.iload_n 3, 1) := by decide +kernel
theorem dX12_works_151 : decode cX12_works 151 = .ok (.iastore, 1) := by decide +kernel
theorem dX12_works_152 : decode cX12_works 152 = .ok (.iinc 2 1, 3) := by decide +kernel
theorem dX12_works_155 : decode cX12_works 155 = .ok (.goto (-109), 3) := by decide +kernel
theorem dX12_works_158 : decode cX12_works 158 = .ok (.iinc 1 (-1), 3) := by decide +kernel
theorem dX12_works_161 : decode cX12_works 161 = .ok (.goto (-121), 3) := by decide +kernel
theorem dX12_works_164 : decode cX12_works 164 = .ok (.return_, 1) := by decide +kernel
set_option maxRecDepth 20000 in
theorem ggX12_fit_X12_isPerson : GoodIn wsX12_fit wsX12_isPerson := goodIn_r _ [7, 1, 8, 9, 6, 10, 28, 29, 30, 31, 32, 33, 34, 35, 36, 37, 38, 39, 40, 41, 42, 43, 44, 45] (by decide +kernel) (by decide +kernel)
set_option maxRecDepth 20000 in
theorem gX12_fit_X12_isPerson : GoodIn wsX12_fit (wsV RX12 112 RX12 yX12_isPerson wsX12_isPerson) := goodIn_app (goodIn_of _ (by decide +kernel)) ggX12_fit_X12_isPerson
set_option maxRecDepth 20000 in
theorem ggX12_fit_X12_works : GoodIn wsX12_fit wsX12_works := goodIn_r _ [14, 2, 1, 15, 16, 17, 6, 18, 19, 20, 21, 22, 23, 24, 25, 26, 27, 28, 29, 30, 31, 32, 33, 34, 35, 36, 37, 38, 39, 40, 41, 42, 43, 44, 45] (by decide +kernel) (by decide +kernel)
set_option maxRecDepth 20000 in
theorem gX12_fit_X12_works : GoodIn wsX12_fit (wsV RX12 168 RX12 yX12_works wsX12_works) := goodIn_app (goodIn_of _ (by decide +kernel)) ggX12_fit_X12_works
set_option maxRecDepth 20000 in
theorem ggX12_fit_X12_explains : GoodIn wsX12_fit wsX12_explains := goodIn_r _ [18, 19, 20, 21, 6, 22, 1, 23, 24, 25, 26, 27, 28, 29, 30, 31, 32, 33, 34, 35, 36, 37, 38, 39, 40, 41, 42, 43, 44, 45] (by decide +kernel) (by decide +kernel)
set_option maxRecDepth 20000 in
theorem gX12_fit_X12_explains : GoodIn wsX12_fit (wsV RX12 165 RX12 yX12_explains wsX12_explains) := goodIn_app (goodIn_of _ (by decide +kernel)) ggX12_fit_X12_explains
theorem dX12_fit_0 : decode cX12_fit 0 = .ok (.iload_n 1, 1) := by decide +kernel
theorem dX12_fit_1 : decode cX12_fit 1 = .ok (.iconst (-1), 1) := by decide +kernel
theorem dX12_fit_2 : decode cX12_fit 2 = .ok (.if_icmp .eq 13, 3) := by decide +kernel
theorem dX12_fit_5 : decode cX12_fit 5 = .ok (.aload_n 0, 1) := by decide +kernel
theorem dX12_fit_6 : decode cX12_fit 6 = .ok (.iload_n 1, 1) := by decide +kernel
theorem dX12_fit_7 : decode cX12_fit 7 = .ok (.invokevirtual 112, 3) := by decide +kernel
theorem dX12_fit_10 : decode cX12_fit 10 = .ok (.ifCond .ne 5, 3) := by decide +kernel
theorem dX12_fit_13 : decode cX12_fit 13 = .ok (.iconst (-1), 1) := by decide +kernel
theorem dX12_fit_14 : decode cX12_fit 14 = .ok (.ireturn, 1) := by decide +kernel
theorem dX12_fit_15 : decode cX12_fit 15 = .ok (.aload_n 0, 1) := by decide +kernel
theorem dX12_fit_16 : decode cX12_fit 16 = .ok (.invokevirtual 168, 3) := by decide +kernel
theorem dX12_fit_19 : decode cX12_fit 19 = .ok (.iconst 1, 1) := by decide +kernel
theorem dX12_fit_20 : decode cX12_fit 20 = .ok (.aload_n 0, 1) := by decide +kernel
theorem dX12_fit_21 : decode cX12_fit 21 = .ok (.getfield 16, 3) := by decide +kernel
theorem dX12_fit_24 : decode cX12_fit 24 = .ok (.iconst 1, 1) := by decide +kernel
theorem dX12_fit_25 : decode cX12_fit 25 = .ok (.iaload, 1) := by decide +kernel
theorem dX12_fit_26 : decode cX12_fit 26 = .ok (.ishl, 1) := by decide +kernel
theorem dX12_fit_27 : decode cX12_fit 27 = .ok (.iconst 1, 1) := by decide +kernel
theorem dX12_fit_28 : decode cX12_fit 28 = .ok (.isub, 1) := by decide +kernel
theorem dX12_fit_29 : decode cX12_fit 29 = .ok (.istore_n 2, 1) := by decide +kernel
theorem dX12_fit_30 : decode cX12_fit 30 = .ok (.iload_n 1, 1) := by decide +kernel
theorem dX12_fit_31 : decode cX12_fit 31 = .ok (.iconst (-1), 1) := by decide +kernel
theorem dX12_fit_32 : decode cX12_fit 32 = .ok (.if_icmp .ne 10, 3) := by decide +kernel
theorem dX12_fit_35 : decode cX12_fit 35 = .ok (.aload_n 0, 1) := by decide +kernel
theorem dX12_fit_36 : decode cX12_fit 36 = .ok (.getfield 25, 3) := by decide +kernel
theorem dX12_fit_39 : decode cX12_fit 39 = .ok (.iload_n 2, 1) := by decide +kernel
theorem dX12_fit_40 : decode cX12_fit 40 = .ok (.iaload, 1) := by decide +kernel
theorem dX12_fit_41 : decode cX12_fit 41 = .ok (.ireturn, 1) := by decide +kernel
theorem dX12_fit_42 : decode cX12_fit 42 = .ok (.bipush (-9), 2) := by decide +kernel
theorem dX12_fit_44 : decode cX12_fit 44 = .ok (.istore_n 3, 1) := by decide +kernel
theorem dX12_fit_45 : decode cX12_fit 45 = .ok (.iconst 0, 1) := by decide +kernel
theorem dX12_fit_46 : decode cX12_fit 46 = .ok (.istore 4, 2) := by decide +kernel
theorem dX12_fit_48 : decode cX12_fit 48 = .ok (.iload 4, 2) := by decide +kernel
theorem dX12_fit_50 : decode cX12_fit 50 = .ok (.iload_n 1, 1) := by decide +kernel
theorem dX12_fit_51 : decode cX12_fit 51 = .ok (.if_icmp .gt 144, 3) := by decide +kernel
theorem dX12_fit_54 : decode cX12_fit 54 = .ok (.aload_n 0, 1) := by decide +kernel
theorem dX12_fit_55 : decode cX12_fit 55 = .ok (.getfield 25, 3) := by decide +kernel
theorem dX12_fit_58 : decode cX12_fit 58 = .ok (.bipush 64, 2) := by decide +kernel
theorem dX12_fit_60 : decode cX12_fit 60 = .ok (.iload 4, 2) := by decide +kernel
theorem dX12_fit_62 : decode cX12_fit 62 = .ok (.imul, 1) := by decide +kernel
theorem dX12_fit_63 : decode cX12_fit 63 = .ok (.iload_n 2, 1) := by decide +kernel
theorem dX12_fit_64 : decode cX12_fit 64 = .ok (.iadd, 1) := by decide +kernel
theorem dX12_fit_65 : decode cX12_fit 65 = .ok (.iaload, 1) := by decide +kernel
theorem dX12_fit_66 : decode cX12_fit 66 = .ok (.istore 5, 2) := by decide +kernel
theorem dX12_fit_68 : decode cX12_fit 68 = .ok (.bipush (-9), 2) := by decide +kernel
theorem dX12_fit_70 : decode cX12_fit 70 = .ok (.istore_n 3, 1) := by decide +kernel
theorem dX12_fit_71 : decode cX12_fit 71 = .ok (.aload_n 0, 1) := by decide +kernel
theorem dX12_fit_72 : decode cX12_fit 72 = .ok (.getfield 16, 3) := by decide +kernel
theorem dX12_fit_75 : decode cX12_fit 75 = .ok (.iconst 1, 1) := by decide +kernel
theorem dX12_fit_76 : decode cX12_fit 76 = .ok (.iaload, 1) := by decide +kernel
theorem dX12_fit_77 : decode cX12_fit 77 = .ok (.iconst 1, 1) := by decide +kernel
theorem dX12_fit_78 : decode cX12_fit 78 = .ok (.isub, 1) := by decide +kernel
theorem dX12_fit_79 : decode cX12_fit 79 = .ok (.istore 6, 2) := by decide +kernel
theorem dX12_fit_81 : decode cX12_fit 81 = .ok (.iload 6, 2) := by decide +kernel
theorem dX12_fit_83 : decode cX12_fit 83 = .ok (.ifCond .lt 90, 3) := by decide +kernel
theorem dX12_fit_86 : decode cX12_fit 86 = .ok (.aload_n 0, 1) := by decide +kernel
theorem dX12_fit_87 : decode cX12_fit 87 = .ok (.getfield 25, 3) := by decide +kernel
theorem dX12_fit_90 : decode cX12_fit 90 = .ok (.bipush 64, 2) := by decide +kernel
theorem dX12_fit_92 : decode cX12_fit 92 = .ok (.iload 4, 2) := by decide +kernel
theorem dX12_fit_94 : decode cX12_fit 94 = .ok (.iconst 1, 1) := by decide +kernel
theorem dX12_fit_95 : decode cX12_fit 95 = .ok (.iadd, 1) := by decide +kernel
theorem dX12_fit_96 : decode cX12_fit 96 = .ok (.imul, 1) := by decide +kernel
theorem dX12_fit_97 : decode cX12_fit 97 = .ok (.iload_n 2, 1) := by decide +kernel
theorem dX12_fit_98 : decode cX12_fit 98 = .ok (.iadd, 1) := by decide +kernel
theorem dX12_fit_99 : decode cX12_fit 99 = .ok (.iaload, 1) := by decide +kernel
theorem dX12_fit_100 : decode cX12_fit 100 = .ok (.iload 5, 2) := by decide +kernel
theorem dX12_fit_102 : decode cX12_fit 102 = .ok (.if_icmp .eq 71, 3) := by decide +kernel
theorem dX12_fit_105 : decode cX12_fit 105 = .ok (.iload_n 2, 1) := by decide +kernel
theorem dX12_fit_106 : decode cX12_fit 106 = .ok (.iload 6, 2) := by decide +kernel
theorem dX12_fit_108 : decode cX12_fit 108 = .ok (.ishr, 1) := by decide +kernel
theorem dX12_fit_109 : decode cX12_fit 109 = .ok (.iconst 1, 1) := by decide +kernel
theorem dX12_fit_110 : decode cX12_fit 110 = .ok (.iand, 1) := by decide +kernel
theorem dX12_fit_111 : decode cX12_fit 111 = .ok (.iconst 1, 1) := by decide +kernel
theorem dX12_fit_112 : decode cX12_fit 112 = .ok (.if_icmp .ne 40, 3) := by decide +kernel
theorem dX12_fit_115 : decode cX12_fit 115 = .ok (.aload_n 0, 1) := by decide +kernel
theorem dX12_fit_116 : decode cX12_fit 116 = .ok (.iload 4, 2) := by decide +kernel
theorem dX12_fit_118 : decode cX12_fit 118 = .ok (.iload 6, 2) := by decide +kernel
theorem dX12_fit_120 : decode cX12_fit 120 = .ok (.invokevirtual 165, 3) := by decide +kernel
theorem dX12_fit_123 : decode cX12_fit 123 = .ok (.aload_n 0, 1) := by decide +kernel
theorem dX12_fit_124 : decode cX12_fit 124 = .ok (.getfield 25, 3) := by decide +kernel
theorem dX12_fit_127 : decode cX12_fit 127 = .ok (.bipush 64, 2) := by decide +kernel
theorem dX12_fit_129 : decode cX12_fit 129 = .ok (.iload 4, 2) := by decide +kernel
theorem dX12_fit_131 : decode cX12_fit 131 = .ok (.iconst 1, 1) := by decide +kernel
theorem dX12_fit_132 : decode cX12_fit 132 = .ok (.iadd, 1) := by decide +kernel
theorem dX12_fit_133 : decode cX12_fit 133 = .ok (.imul, 1) := by decide +kernel
theorem dX12_fit_134 : decode cX12_fit 134 = .ok (.iload_n 2, 1) := by decide +kernel
theorem dX12_fit_135 : decode cX12_fit 135 = .ok (.iadd, 1) := by decide +kernel
theorem dX12_fit_136 : decode cX12_fit 136 = .ok (.iconst 1, 1) := by decide +kernel
theorem dX12_fit_137 : decode cX12_fit 137 = .ok (.iload 6, 2) := by decide +kernel
theorem dX12_fit_139 : decode cX12_fit 139 = .ok (.ishl, 1) := by decide +kernel
theorem dX12_fit_140 : decode cX12_fit 140 = .ok (.isub, 1) := by decide +kernel
theorem dX12_fit_141 : decode cX12_fit 141 = .ok (.iaload, 1) := by decide +kernel
theorem dX12_fit_142 : decode cX12_fit 142 = .ok (.iadd, 1) := by decide +kernel
theorem dX12_fit_143 : decode cX12_fit 143 = .ok (.iload 5, 2) := by decide +kernel
theorem dX12_fit_145 : decode cX12_fit 145 = .ok (.if_icmp .ne 7, 3) := by decide +kernel
theorem dX12_fit_148 : decode cX12_fit 148 = .ok (.iconst 1, 1) := by decide +kernel
theorem dX12_fit_149 : decode cX12_fit 149 = .ok (.goto 4, 3) := by decide +kernel
theorem dX12_fit_152 : decode cX12_fit 152 = .ok (.iconst 0, 1) := by decide +kernel
theorem dX12_fit_153 : decode cX12_fit 153 = .ok (.istore 7, 2) := by decide +kernel
theorem dX12_fit_155 : decode cX12_fit 155 = .ok (.iload 7, 2) := by decide +kernel
theorem dX12_fit_157 : decode cX12_fit 157 = .ok (.ifCond .eq 8, 3) := by decide +kernel
theorem dX12_fit_160 : decode cX12_fit 160 = .ok (.iload 6, 2) := by decide +kernel
theorem dX12_fit_162 : decode cX12_fit 162 = .ok (.goto 4, 3) := by decide +kernel
theorem dX12_fit_165 : decode cX12_fit 165 = .ok (.iload_n 3, 1) := by decide +kernel
theorem dX12_fit_166 : decode cX12_fit 166 = .ok (.istore_n 3, 1) := by decide +kernel
theorem dX12_fit_167 : decode cX12_fit 167 = .ok (.iinc 6 (-1), 3) := by decide +kernel
theorem dX12_fit_170 : decode cX12_fit 170 = .ok (.goto (-89), 3) := by decide +kernel
theorem dX12_fit_173 : decode cX12_fit 173 = .ok (.iload_n 2, 1) := by decide +kernel
theorem dX12_fit_174 : decode cX12_fit 174 = .ok (.iload_n 3, 1) := by decide +kernel
theorem dX12_fit_175 : decode cX12_fit 175 = .ok (.bipush (-9), 2) := by decide +kernel
theorem dX12_fit_177 : decode cX12_fit 177 = .ok (.if_icmp .ne 7, 3) := by decide +kernel
theorem dX12_fit_180 : decode cX12_fit 180 = .ok (.iconst 0, 1) := by decide +kernel
theorem dX12_fit_181 : decode cX12_fit 181 = .ok (.goto 6, 3) := by decide +kernel
theorem dX12_fit_184 : decode cX12_fit 184 = .ok (.iconst 1, 1) := by decide +kernel
theorem dX12_fit_185 : decode cX12_fit 185 = .ok (.iload_n 3, 1) := by decide +kernel
theorem dX12_fit_186 : decode cX12_fit 186 = .ok (.ishl, 1) := by decide +kernel
theorem dX12_fit_187 : decode cX12_fit 187 = .ok (.isub, 1) := by decide +kernel
theorem dX12_fit_188 : decode cX12_fit 188 = .ok (.istore_n 2, 1) := by decide +kernel
theorem dX12_fit_189 : decode cX12_fit 189 = .ok (.iinc 4 1, 3) := by decide +kernel
theorem dX12_fit_192 : decode cX12_fit 192 = .ok (.goto (-144), 3) := by decide +kernel
theorem dX12_fit_195 : decode cX12_fit 195 = .ok (.iload_n 3, 1) := by decide +kernel
theorem dX12_fit_196 : decode cX12_fit 196 = .ok (.ireturn, 1) := by decide +kernel
set_option maxRecDepth 20000 in
theorem ggX12_looks_X12_hear : GoodIn wsX12_looks wsX12_hear := goodIn_r _ [7, 1, 8, 9, 10, 6, 11, 12, 13, 14, 15, 2, 19, 20, 21, 22, 23, 24, 25, 26, 27, 28, 29, 30, 31, 32, 33, 34, 35, 36] (by decide +kernel) (by decide +kernel)
set_option maxRecDepth 20000 in
theorem gX12_looks_X12_hear : GoodIn wsX12_looks (wsV RX12 131 RX12 yX12_hear wsX12_hear) := goodIn_app (goodIn_of _ (by decide +kernel)) ggX12_looks_X12_hear
set_option maxRecDepth 20000 in
theorem ggX12_looks_X12_many : GoodIn wsX12_looks wsX12_many := goodIn_r _ [18] (by decide +kernel) (by decide +kernel)
set_option maxRecDepth 20000 in
theorem gX12_looks_X12_many : GoodIn wsX12_looks (va_wsS RX12 134 yX12_many wsX12_many) := goodIn_app (goodIn_of _ (by decide +kernel)) ggX12_looks_X12_many
theorem dX12_looks_0 : decode cX12_looks 0 = .ok (.aload_n 0, 1) := by decide +kernel
theorem dX12_looks_1 : decode cX12_looks 1 = .ok (.bipush 63, 2) := by decide +kernel
theorem dX12_looks_3 : decode cX12_looks 3 = .ok (.invokevirtual 131, 3) := by decide +kernel
theorem dX12_looks_6 : decode cX12_looks 6 = .ok (.istore_n 1, 1) := by decide +kernel
theorem dX12_looks_7 : decode cX12_looks 7 = .ok (.bipush (-9), 2) := by decide +kernel
theorem dX12_looks_9 : decode cX12_looks 9 = .ok (.istore_n 2, 1) := by decide +kernel
theorem dX12_looks_10 : decode cX12_looks 10 = .ok (.iconst 0, 1) := by decide +kernel
theorem dX12_looks_11 : decode cX12_looks 11 = .ok (.istore_n 3, 1) := by decide +kernel
theorem dX12_looks_12 : decode cX12_looks 12 = .ok (.iload_n 3, 1) := by decide +kernel
theorem dX12_looks_13 : decode cX12_looks 13 = .ok (.iconst 1, 1) := by decide +kernel
theorem dX12_looks_14 : decode cX12_looks 14 = .ok (.aload_n 0, 1) := by decide +kernel
theorem dX12_looks_15 : decode cX12_looks 15 = .ok (.getfield 16, 3) := by decide +kernel
theorem dX12_looks_18 : decode cX12_looks 18 = .ok (.iconst 1, 1) := by decide +kernel
theorem dX12_looks_19 : decode cX12_looks 19 = .ok (.iaload, 1) := by decide +kernel
theorem dX12_looks_20 : decode cX12_looks 20 = .ok (.ishl, 1) := by decide +kernel
theorem dX12_looks_21 : decode cX12_looks 21 = .ok (.if_icmp .ge 63, 3) := by decide +kernel
theorem dX12_looks_24 : decode cX12_looks 24 = .ok (.iload_n 1, 1) := by decide +kernel
theorem dX12_looks_25 : decode cX12_looks 25 = .ok (.aload_n 0, 1) := by decide +kernel
theorem dX12_looks_26 : decode cX12_looks 26 = .ok (.iload_n 3, 1) := by decide +kernel
theorem dX12_looks_27 : decode cX12_looks 27 = .ok (.aload_n 0, 1) := by decide +kernel
theorem dX12_looks_28 : decode cX12_looks 28 = .ok (.getfield 19, 3) := by decide +kernel
theorem dX12_looks_31 : decode cX12_looks 31 = .ok (.iconst 1, 1) := by decide +kernel
theorem dX12_looks_32 : decode cX12_looks 32 = .ok (.iaload, 1) := by decide +kernel
theorem dX12_looks_33 : decode cX12_looks 33 = .ok (.ior, 1) := by decide +kernel
theorem dX12_looks_34 : decode cX12_looks 34 = .ok (.invokevirtual 131, 3) := by decide +kernel
theorem dX12_looks_37 : decode cX12_looks 37 = .ok (.iconst (-1), 1) := by decide +kernel
theorem dX12_looks_38 : decode cX12_looks 38 = .ok (.ixor, 1) := by decide +kernel
theorem dX12_looks_39 : decode cX12_looks 39 = .ok (.iand, 1) := by decide +kernel
theorem dX12_looks_40 : decode cX12_looks 40 = .ok (.ifCond .ne 7, 3) := by decide +kernel
theorem dX12_looks_43 : decode cX12_looks 43 = .ok (.iconst 1, 1) := by decide +kernel
theorem dX12_looks_44 : decode cX12_looks 44 = .ok (.goto 4, 3) := by decide +kernel
theorem dX12_looks_47 : decode cX12_looks 47 = .ok (.iconst 0, 1) := by decide +kernel
theorem dX12_looks_48 : decode cX12_looks 48 = .ok (.istore 4, 2) := by decide +kernel
theorem dX12_looks_50 : decode cX12_looks 50 = .ok (.iload 4, 2) := by decide +kernel
theorem dX12_looks_52 : decode cX12_looks 52 = .ok (.ifCond .eq 24, 3) := by decide +kernel
theorem dX12_looks_55 : decode cX12_looks 55 = .ok (.iload_n 2, 1) := by decide +kernel
theorem dX12_looks_56 : decode cX12_looks 56 = .ok (.bipush (-9), 2) := by decide +kernel
theorem dX12_looks_58 : decode cX12_looks 58 = .ok (.if_icmp .eq 14, 3) := by decide +kernel
theorem dX12_looks_61 : decode cX12_looks 61 = .ok (.iload_n 3, 1) := by decide +kernel
theorem dX12_looks_62 : decode cX12_looks 62 = .ok (.invokestatic 134, 3) := by decide +kernel
theorem dX12_looks_65 : decode cX12_looks 65 = .ok (.iload_n 2, 1) := by decide +kernel
theorem dX12_looks_66 : decode cX12_looks 66 = .ok (.invokestatic 134, 3) := by decide +kernel
theorem dX12_looks_69 : decode cX12_looks 69 = .ok (.if_icmp .ge 7, 3) := by decide +kernel
theorem dX12_looks_72 : decode cX12_looks 72 = .ok (.iload_n 3, 1) := by decide +kernel
theorem dX12_looks_73 : decode cX12_looks 73 = .ok (.goto 4, 3) := by decide +kernel
theorem dX12_looks_76 : decode cX12_looks 76 = .ok (.iload_n 2, 1) := by decide +kernel
theorem dX12_looks_77 : decode cX12_looks 77 = .ok (.istore_n 2, 1) := by decide +kernel
theorem dX12_looks_78 : decode cX12_looks 78 = .ok (.iinc 3 1, 3) := by decide +kernel
theorem dX12_looks_81 : decode cX12_looks 81 = .ok (.goto (-69), 3) := by decide +kernel
theorem dX12_looks_84 : decode cX12_looks 84 = .ok (.iload_n 2, 1) := by decide +kernel
theorem dX12_looks_85 : decode cX12_looks 85 = .ok (.ireturn, 1) := by decide +kernel
set_option maxRecDepth 20000 in
theorem ggX12_next_X12_hear : GoodIn wsX12_next wsX12_hear := goodIn_r _ [7, 2, 8, 9, 10, 6, 11, 12, 13, 14, 15, 1, 19, 20, 21, 22, 23, 24, 25, 26, 27, 28, 29, 30, 31, 32, 33, 34, 35, 36] (by decide +kernel) (by decide +kernel)
set_option maxRecDepth 20000 in
theorem gX12_next_X12_hear : GoodIn wsX12_next (wsV RX12 131 RX12 yX12_hear wsX12_hear) := goodIn_app (goodIn_of _ (by decide +kernel)) ggX12_next_X12_hear
set_option maxRecDepth 20000 in
theorem ggX12_next_X12_hears : GoodIn wsX12_next wsX12_hears := goodIn_r _ [11, 12, 13, 14, 6, 15, 1, 19, 20, 21, 22, 23, 24, 25, 26, 27, 28, 29, 30, 31, 32, 33, 34, 35, 36] (by decide +kernel) (by decide +kernel)
set_option maxRecDepth 20000 in
theorem gX12_next_X12_hears : GoodIn wsX12_next (wsV RX12 105 RX12 yX12_hears wsX12_hears) := goodIn_app (goodIn_of _ (by decide +kernel)) ggX12_next_X12_hears
set_option maxRecDepth 20000 in
theorem ggX12_next_X12_many : GoodIn wsX12_next wsX12_many := goodIn_r _ [18] (by decide +kernel) (by decide +kernel)
set_option maxRecDepth 20000 in
theorem gX12_next_X12_many : GoodIn wsX12_next (va_wsS RX12 134 yX12_many wsX12_many) := goodIn_app (goodIn_of _ (by decide +kernel)) ggX12_next_X12_many
theorem dX12_next_0 : decode cX12_next 0 = .ok (.aload_n 0, 1) := by decide +kernel
theorem dX12_next_1 : decode cX12_next 1 = .ok (.aload_n 0, 1) := by decide +kernel
theorem dX12_next_2 : decode cX12_next 2 = .ok (.getfield 19, 3) := by decide +kernel
theorem dX12_next_5 : decode cX12_next 5 = .ok (.iconst 1, 1) := by decide +kernel
theorem dX12_next_6 : decode cX12_next 6 = .ok (.iaload, 1) := by decide +kernel
theorem dX12_next_7 : decode cX12_next 7 = .ok (.invokevirtual 131, 3) := by decide +kernel
theorem dX12_next_10 : decode cX12_next 10 = .ok (.istore_n 1, 1) := by decide +kernel
theorem dX12_next_11 : decode cX12_next 11 = .ok (.bipush (-9), 2) := by decide +kernel
theorem dX12_next_13 : decode cX12_next 13 = .ok (.istore_n 2, 1) := by decide +kernel
theorem dX12_next_14 : decode cX12_next 14 = .ok (.iconst (-1), 1) := by decide +kernel
theorem dX12_next_15 : decode cX12_next 15 = .ok (.istore_n 3, 1) := by decide +kernel
theorem dX12_next_16 : decode cX12_next 16 = .ok (.iconst 0, 1) := by decide +kernel
theorem dX12_next_17 : decode cX12_next 17 = .ok (.istore 4, 2) := by decide +kernel
theorem dX12_next_19 : decode cX12_next 19 = .ok (.iload 4, 2) := by decide +kernel
theorem dX12_next_21 : decode cX12_next 21 = .ok (.aload_n 0, 1) := by decide +kernel
theorem dX12_next_22 : decode cX12_next 22 = .ok (.getfield 16, 3) := by decide +kernel
theorem dX12_next_25 : decode cX12_next 25 = .ok (.iconst 1, 1) := by decide +kernel
theorem dX12_next_26 : decode cX12_next 26 = .ok (.iaload, 1) := by decide +kernel
theorem dX12_next_27 : decode cX12_next 27 = .ok (.if_icmp .ge 69, 3) := by decide +kernel
theorem dX12_next_30 : decode cX12_next 30 = .ok (.aload_n 0, 1) := by decide +kernel
theorem dX12_next_31 : decode cX12_next 31 = .ok (.getfield 19, 3) := by decide +kernel
theorem dX12_next_34 : decode cX12_next 34 = .ok (.iconst 1, 1) := by decide +kernel
theorem dX12_next_35 : decode cX12_next 35 = .ok (.iaload, 1) := by decide +kernel
theorem dX12_next_36 : decode cX12_next 36 = .ok (.iload 4, 2) := by decide +kernel
theorem dX12_next_38 : decode cX12_next 38 = .ok (.ishr, 1) := by decide +kernel
theorem dX12_next_39 : decode cX12_next 39 = .ok (.iconst 1, 1) := by decide +kernel
theorem dX12_next_40 : decode cX12_next 40 = .ok (.iand, 1) := by decide +kernel
theorem dX12_next_41 : decode cX12_next 41 = .ok (.iconst 1, 1) := by decide +kernel
theorem dX12_next_42 : decode cX12_next 42 = .ok (.if_icmp .ne 7, 3) := by decide +kernel
theorem dX12_next_45 : decode cX12_next 45 = .ok (.iconst (-1), 1) := by decide +kernel
theorem dX12_next_46 : decode cX12_next 46 = .ok (.goto 16, 3) := by decide +kernel
theorem dX12_next_49 : decode cX12_next 49 = .ok (.aload_n 0, 1) := by decide +kernel
theorem dX12_next_50 : decode cX12_next 50 = .ok (.iload 4, 2) := by decide +kernel
theorem dX12_next_52 : decode cX12_next 52 = .ok (.invokevirtual 105, 3) := by decide +kernel
theorem dX12_next_55 : decode cX12_next 55 = .ok (.iload_n 1, 1) := by decide +kernel
theorem dX12_next_56 : decode cX12_next 56 = .ok (.iconst (-1), 1) := by decide +kernel
theorem dX12_next_57 : decode cX12_next 57 = .ok (.ixor, 1) := by decide +kernel
theorem dX12_next_58 : decode cX12_next 58 = .ok (.iand, 1) := by decide +kernel
theorem dX12_next_59 : decode cX12_next 59 = .ok (.invokestatic 134, 3) := by decide +kernel
theorem dX12_next_62 : decode cX12_next 62 = .ok (.istore 5, 2) := by decide +kernel
theorem dX12_next_64 : decode cX12_next 64 = .ok (.iload 5, 2) := by decide +kernel
theorem dX12_next_66 : decode cX12_next 66 = .ok (.iload_n 3, 1) := by decide +kernel
theorem dX12_next_67 : decode cX12_next 67 = .ok (.if_icmp .le 8, 3) := by decide +kernel
theorem dX12_next_70 : decode cX12_next 70 = .ok (.iload 4, 2) := by decide +kernel
theorem dX12_next_72 : decode cX12_next 72 = .ok (.goto 4, 3) := by decide +kernel
theorem dX12_next_75 : decode cX12_next 75 = .ok (.iload_n 2, 1) := by decide +kernel
theorem dX12_next_76 : decode cX12_next 76 = .ok (.istore_n 2, 1) := by decide +kernel
theorem dX12_next_77 : decode cX12_next 77 = .ok (.iload 5, 2) := by decide +kernel
theorem dX12_next_79 : decode cX12_next 79 = .ok (.iload_n 3, 1) := by decide +kernel
theorem dX12_next_80 : decode cX12_next 80 = .ok (.if_icmp .le 8, 3) := by decide +kernel
theorem dX12_next_83 : decode cX12_next 83 = .ok (.iload 5, 2) := by decide +kernel
theorem dX12_next_85 : decode cX12_next 85 = .ok (.goto 4, 3) := by decide +kernel
theorem dX12_next_88 : decode cX12_next 88 = .ok (.iload_n 3, 1) := by decide +kernel
theorem dX12_next_89 : decode cX12_next 89 = .ok (.istore_n 3, 1) := by decide +kernel
theorem dX12_next_90 : decode cX12_next 90 = .ok (.iinc 4 1, 3) := by decide +kernel
theorem dX12_next_93 : decode cX12_next 93 = .ok (.goto (-74), 3) := by decide +kernel
theorem dX12_next_96 : decode cX12_next 96 = .ok (.iload_n 2, 1) := by decide +kernel
theorem dX12_next_97 : decode cX12_next 97 = .ok (.ireturn, 1) := by decide +kernel
theorem dX12_asides_0 : decode cX12_asides 0 = .ok (.iconst 0, 1) := by decide +kernel
theorem dX12_asides_1 : decode cX12_asides 1 = .ok (.istore_n 1, 1) := by decide +kernel
theorem dX12_asides_2 : decode cX12_asides 2 = .ok (.iload_n 1, 1) := by decide +kernel
theorem dX12_asides_3 : decode cX12_asides 3 = .ok (.bipush 50, 2) := by decide +kernel
theorem dX12_asides_5 : decode cX12_asides 5 = .ok (.if_icmp .ge 21, 3) := by decide +kernel
theorem dX12_asides_8 : decode cX12_asides 8 = .ok (.aload_n 0, 1) := by decide +kernel
theorem dX12_asides_9 : decode cX12_asides 9 = .ok (.getfield 28, 3) := by decide +kernel
theorem dX12_asides_12 : decode cX12_asides 12 = .ok (.iload_n 1, 1) := by decide +kernel
theorem dX12_asides_13 : decode cX12_asides 13 = .ok (.aload_n 0, 1) := by decide +kernel
theorem dX12_asides_14 : decode cX12_asides 14 = .ok (.getfield 19, 3) := by decide +kernel
theorem dX12_asides_17 : decode cX12_asides 17 = .ok (.iload_n 1, 1) := by decide +kernel
theorem dX12_asides_18 : decode cX12_asides 18 = .ok (.iaload, 1) := by decide +kernel
theorem dX12_asides_19 : decode cX12_asides 19 = .ok (.iastore, 1) := by decide +kernel
theorem dX12_asides_20 : decode cX12_asides 20 = .ok (.iinc 1 1, 3) := by decide +kernel
theorem dX12_asides_23 : decode cX12_asides 23 = .ok (.goto (-21), 3) := by decide +kernel
theorem dX12_asides_26 : decode cX12_asides 26 = .ok (.return_, 1) := by decide +kernel
theorem dX12_backs_0 : decode cX12_backs 0 = .ok (.iconst 0, 1) := by decide +kernel
theorem dX12_backs_1 : decode cX12_backs 1 = .ok (.istore_n 1, 1) := by decide +kernel
theorem dX12_backs_2 : decode cX12_backs 2 = .ok (.iload_n 1, 1) := by decide +kernel
theorem dX12_backs_3 : decode cX12_backs 3 = .ok (.bipush 50, 2) := by decide +kernel
theorem dX12_backs_5 : decode cX12_backs 5 = .ok (.if_icmp .ge 21, 3) := by decide +kernel
theorem dX12_backs_8 : decode cX12_backs 8 = .ok (.aload_n 0, 1) := by decide +kernel
theorem dX12_backs_9 : decode cX12_backs 9 = .ok (.getfield 19, 3) := by decide +kernel
theorem dX12_backs_12 : decode cX12_backs 12 = .ok (.iload_n 1, 1) := by decide +kernel
theorem dX12_backs_13 : decode cX12_backs 13 = .ok (.aload_n 0, 1) := by decide +kernel
theorem dX12_backs_14 : decode cX12_backs 14 = .ok (.getfield 28, 3) := by decide +kernel
theorem dX12_backs_17 : decode cX12_backs 17 = .ok (.iload_n 1, 1) := by decide +kernel
theorem dX12_backs_18 : decode cX12_backs 18 = .ok (.iaload, 1) := by decide +kernel
theorem dX12_backs_19 : decode cX12_backs 19 = .ok (.iastore, 1) := by decide +kernel
theorem dX12_backs_20 : decode cX12_backs 20 = .ok (.iinc 1 1, 3) := by decide +kernel
theorem dX12_backs_23 : decode cX12_backs 23 = .ok (.goto (-21), 3) := by decide +kernel
theorem dX12_backs_26 : decode cX12_backs 26 = .ok (.return_, 1) := by decide +kernel
set_option maxRecDepth 20000 in
theorem ggX12_inNights_X12_in : GoodIn wsX12_inNights wsX12_in := goodIn_r _ [6] (by decide +kernel) (by decide +kernel)
set_option maxRecDepth 20000 in
theorem gX12_inNights_X12_in : GoodIn wsX12_inNights (va_wsS RX12 48 yX12_in wsX12_in) := goodIn_app (goodIn_of _ (by decide +kernel)) ggX12_inNights_X12_in
set_option maxRecDepth 20000 in
theorem ggX12_inNights_X12_isPillow : GoodIn wsX12_inNights wsX12_isPillow := goodIn_r _ [10, 11, 3, 4, 5, 6, 50, 51, 52, 53, 54, 55, 56, 57, 58, 59, 60, 61, 62, 63, 64, 65, 66, 67] (by decide +kernel) (by decide +kernel)
set_option maxRecDepth 20000 in
theorem gX12_inNights_X12_isPillow : GoodIn wsX12_inNights (wsV RX12 123 RX12 yX12_isPillow wsX12_isPillow) := goodIn_app (goodIn_of _ (by decide +kernel)) ggX12_inNights_X12_isPillow
set_option maxRecDepth 20000 in
theorem ggX12_inNights_X12_asides : GoodIn wsX12_inNights wsX12_asides := goodIn_r _ [15, 16, 17, 50, 51, 52, 53, 54, 55, 56, 57, 58, 59, 60, 61, 62, 63, 64, 65, 66, 67] (by decide +kernel) (by decide +kernel)
set_option maxRecDepth 20000 in
theorem gX12_inNights_X12_asides : GoodIn wsX12_inNights (wsV RX12 173 RX12 yX12_asides wsX12_asides) := goodIn_app (goodIn_of _ (by decide +kernel)) ggX12_inNights_X12_asides
set_option maxRecDepth 20000 in
theorem ggX12_inNights_X12_goesBy : GoodIn wsX12_inNights wsX12_goesBy := goodIn_r _ [21, 11, 17, 22, 23, 24, 5, 25, 26, 27, 28, 29, 30, 31, 32, 33, 34, 35, 36, 37, 50, 51, 52, 53, 54, 55, 56, 57, 58, 59, 60, 61, 62, 63, 64, 65, 66, 67] (by decide +kernel) (by decide +kernel)
set_option maxRecDepth 20000 in
theorem gX12_inNights_X12_goesBy : GoodIn wsX12_inNights (wsV RX12 162 RX12 yX12_goesBy wsX12_goesBy) := goodIn_app (goodIn_of _ (by decide +kernel)) ggX12_inNights_X12_goesBy
set_option maxRecDepth 20000 in
theorem ggX12_inNights_X12_hears : GoodIn wsX12_inNights wsX12_hears := goodIn_r _ [41, 42, 43, 44, 5, 45, 17, 50, 51, 52, 53, 54, 55, 56, 57, 58, 59, 60, 61, 62, 63, 64, 65, 66, 67] (by decide +kernel) (by decide +kernel)
set_option maxRecDepth 20000 in
theorem gX12_inNights_X12_hears : GoodIn wsX12_inNights (wsV RX12 105 RX12 yX12_hears wsX12_hears) := goodIn_app (goodIn_of _ (by decide +kernel)) ggX12_inNights_X12_hears
set_option maxRecDepth 20000 in
theorem ggX12_inNights_X12_backs : GoodIn wsX12_inNights wsX12_backs := goodIn_r _ [49, 17, 16, 50, 51, 52, 53, 54, 55, 56, 57, 58, 59, 60, 61, 62, 63, 64, 65, 66, 67] (by decide +kernel) (by decide +kernel)
set_option maxRecDepth 20000 in
theorem gX12_inNights_X12_backs : GoodIn wsX12_inNights (wsV RX12 176 RX12 yX12_backs wsX12_backs) := goodIn_app (goodIn_of _ (by decide +kernel)) ggX12_inNights_X12_backs
theorem dX12_inNights_0 : decode cX12_inNights 0 = .ok (.iload_n 1, 1) := by decide +kernel
theorem dX12_inNights_1 : decode cX12_inNights 1 = .ok (.i2l, 1) := by decide +kernel
theorem dX12_inNights_2 : decode cX12_inNights 2 = .ok (.lconst 0, 1) := by decide +kernel
theorem dX12_inNights_3 : decode cX12_inNights 3 = .ok (.ldc2_w 160, 3) := by decide +kernel
theorem dX12_inNights_6 : decode cX12_inNights 6 = .ok (.invokestatic 48, 3) := by decide +kernel
theorem dX12_inNights_9 : decode cX12_inNights 9 = .ok (.ifCond .eq 23, 3) := by decide +kernel
theorem dX12_inNights_12 : decode cX12_inNights 12 = .ok (.iload_n 2, 1) := by decide +kernel
theorem dX12_inNights_13 : decode cX12_inNights 13 = .ok (.i2l, 1) := by decide +kernel
theorem dX12_inNights_14 : decode cX12_inNights 14 = .ok (.lconst 0, 1) := by decide +kernel
theorem dX12_inNights_15 : decode cX12_inNights 15 = .ok (.ldc2_w 171, 3) := by decide +kernel
theorem dX12_inNights_18 : decode cX12_inNights 18 = .ok (.invokestatic 48, 3) := by decide +kernel
theorem dX12_inNights_21 : decode cX12_inNights 21 = .ok (.ifCond .eq 11, 3) := by decide +kernel
theorem dX12_inNights_24 : decode cX12_inNights 24 = .ok (.aload_n 0, 1) := by decide +kernel
theorem dX12_inNights_25 : decode cX12_inNights 25 = .ok (.iload_n 3, 1) := by decide +kernel
theorem dX12_inNights_26 : decode cX12_inNights 26 = .ok (.invokevirtual 123, 3) := by decide +kernel
theorem dX12_inNights_29 : decode cX12_inNights 29 = .ok (.ifCond .ne 5, 3) := by decide +kernel
theorem dX12_inNights_32 : decode cX12_inNights 32 = .ok (.iconst (-1), 1) := by decide +kernel
theorem dX12_inNights_33 : decode cX12_inNights 33 = .ok (.ireturn, 1) := by decide +kernel
theorem dX12_inNights_34 : decode cX12_inNights 34 = .ok (.aload_n 0, 1) := by decide +kernel
theorem dX12_inNights_35 : decode cX12_inNights 35 = .ok (.invokevirtual 173, 3) := by decide +kernel
theorem dX12_inNights_38 : decode cX12_inNights 38 = .ok (.iconst 0, 1) := by decide +kernel
theorem dX12_inNights_39 : decode cX12_inNights 39 = .ok (.istore 4, 2) := by decide +kernel
theorem dX12_inNights_41 : decode cX12_inNights 41 = .ok (.iload 4, 2) := by decide +kernel
theorem dX12_inNights_43 : decode cX12_inNights 43 = .ok (.iload_n 2, 1) := by decide +kernel
theorem dX12_inNights_44 : decode cX12_inNights 44 = .ok (.if_icmp .ge 22, 3) := by decide +kernel
theorem dX12_inNights_47 : decode cX12_inNights 47 = .ok (.aload_n 0, 1) := by decide +kernel
theorem dX12_inNights_48 : decode cX12_inNights 48 = .ok (.iload_n 1, 1) := by decide +kernel
theorem dX12_inNights_49 : decode cX12_inNights 49 = .ok (.iload 4, 2) := by decide +kernel
theorem dX12_inNights_51 : decode cX12_inNights 51 = .ok (.iadd, 1) := by decide +kernel
theorem dX12_inNights_52 : decode cX12_inNights 52 = .ok (.sipush 10000, 3) := by decide +kernel
theorem dX12_inNights_55 : decode cX12_inNights 55 = .ok (.irem, 1) := by decide +kernel
theorem dX12_inNights_56 : decode cX12_inNights 56 = .ok (.invokevirtual 162, 3) := by decide +kernel
theorem dX12_inNights_59 : decode cX12_inNights 59 = .ok (.pop, 1) := by decide +kernel
theorem dX12_inNights_60 : decode cX12_inNights 60 = .ok (.iinc 4 1, 3) := by decide +kernel
theorem dX12_inNights_63 : decode cX12_inNights 63 = .ok (.goto (-22), 3) := by decide +kernel
theorem dX12_inNights_66 : decode cX12_inNights 66 = .ok (.aload_n 0, 1) := by decide +kernel
theorem dX12_inNights_67 : decode cX12_inNights 67 = .ok (.iload_n 3, 1) := by decide +kernel
theorem dX12_inNights_68 : decode cX12_inNights 68 = .ok (.invokevirtual 105, 3) := by decide +kernel
theorem dX12_inNights_71 : decode cX12_inNights 71 = .ok (.istore 4, 2) := by decide +kernel
theorem dX12_inNights_73 : decode cX12_inNights 73 = .ok (.aload_n 0, 1) := by decide +kernel
theorem dX12_inNights_74 : decode cX12_inNights 74 = .ok (.invokevirtual 176, 3) := by decide +kernel
theorem dX12_inNights_77 : decode cX12_inNights 77 = .ok (.iload 4, 2) := by decide +kernel
theorem dX12_inNights_79 : decode cX12_inNights 79 = .ok (.ireturn, 1) := by decide +kernel
set_option maxRecDepth 20000 in
theorem ggX12_notes_X12_isPillow : GoodIn wsX12_notes wsX12_isPillow := goodIn_r _ [7, 8, 9, 10, 6, 11, 16, 17, 18, 19, 20, 21, 22, 23, 24, 25, 26, 27, 28, 29, 30, 31, 32, 33] (by decide +kernel) (by decide +kernel)
set_option maxRecDepth 20000 in
theorem gX12_notes_X12_isPillow : GoodIn wsX12_notes (wsV RX12 123 RX12 yX12_isPillow wsX12_isPillow) := goodIn_app (goodIn_of _ (by decide +kernel)) ggX12_notes_X12_isPillow
set_option maxRecDepth 20000 in
theorem ggX12_notes_X12_isThing : GoodIn wsX12_notes wsX12_isThing := goodIn_r _ [14, 15, 9, 10, 6, 11] (by decide +kernel) (by decide +kernel)
set_option maxRecDepth 20000 in
theorem gX12_notes_X12_isThing : GoodIn wsX12_notes (va_wsS RX12 120 yX12_isThing wsX12_isThing) := goodIn_app (goodIn_of _ (by decide +kernel)) ggX12_notes_X12_isThing
set_option maxRecDepth 20000 in
theorem ggX12_notes_X12_in : GoodIn wsX12_notes wsX12_in := goodIn_r _ [11] (by decide +kernel) (by decide +kernel)
set_option maxRecDepth 20000 in
theorem gX12_notes_X12_in : GoodIn wsX12_notes (va_wsS RX12 48 yX12_in wsX12_in) := goodIn_app (goodIn_of _ (by decide +kernel)) ggX12_notes_X12_in
theorem dX12_notes_0 : decode cX12_notes 0 = .ok (.aload_n 0, 1) := by decide +kernel
theorem dX12_notes_1 : decode cX12_notes 1 = .ok (.iload_n 1, 1) := by decide +kernel
theorem dX12_notes_2 : decode cX12_notes 2 = .ok (.invokevirtual 123, 3) := by decide +kernel
theorem dX12_notes_5 : decode cX12_notes 5 = .ok (.ifCond .eq 20, 3) := by decide +kernel
theorem dX12_notes_8 : decode cX12_notes 8 = .ok (.iload_n 2, 1) := by decide +kernel
theorem dX12_notes_9 : decode cX12_notes 9 = .ok (.invokestatic 120, 3) := by decide +kernel
theorem dX12_notes_12 : decode cX12_notes 12 = .ok (.ifCond .eq 13, 3) := by decide +kernel
theorem dX12_notes_15 : decode cX12_notes 15 = .ok (.iload_n 3, 1) := by decide +kernel
theorem dX12_notes_16 : decode cX12_notes 16 = .ok (.i2l, 1) := by decide +kernel
theorem dX12_notes_17 : decode cX12_notes 17 = .ok (.lconst 0, 1) := by decide +kernel
theorem dX12_notes_18 : decode cX12_notes 18 = .ok (.lconst 1, 1) := by decide +kernel
theorem dX12_notes_19 : decode cX12_notes 19 = .ok (.invokestatic 48, 3) := by decide +kernel
theorem dX12_notes_22 : decode cX12_notes 22 = .ok (.ifCond .ne 5, 3) := by decide +kernel
theorem dX12_notes_25 : decode cX12_notes 25 = .ok (.iconst (-1), 1) := by decide +kernel
theorem dX12_notes_26 : decode cX12_notes 26 = .ok (.ireturn, 1) := by decide +kernel
theorem dX12_notes_27 : decode cX12_notes 27 = .ok (.aload_n 0, 1) := by decide +kernel
theorem dX12_notes_28 : decode cX12_notes 28 = .ok (.getfield 93, 3) := by decide +kernel
theorem dX12_notes_31 : decode cX12_notes 31 = .ok (.iconst 5, 1) := by decide +kernel
theorem dX12_notes_32 : decode cX12_notes 32 = .ok (.if_icmp .ne 6, 3) := by decide +kernel
theorem dX12_notes_35 : decode cX12_notes 35 = .ok (.bipush (-3), 2) := by decide +kernel
theorem dX12_notes_37 : decode cX12_notes 37 = .ok (.ireturn, 1) := by decide +kernel
theorem dX12_notes_38 : decode cX12_notes 38 = .ok (.aload_n 0, 1) := by decide +kernel
theorem dX12_notes_39 : decode cX12_notes 39 = .ok (.getfield 31, 3) := by decide +kernel
theorem dX12_notes_42 : decode cX12_notes 42 = .ok (.iconst 3, 1) := by decide +kernel
theorem dX12_notes_43 : decode cX12_notes 43 = .ok (.aload_n 0, 1) := by decide +kernel
theorem dX12_notes_44 : decode cX12_notes 44 = .ok (.getfield 93, 3) := by decide +kernel
theorem dX12_notes_47 : decode cX12_notes 47 = .ok (.imul, 1) := by decide +kernel
theorem dX12_notes_48 : decode cX12_notes 48 = .ok (.iload_n 1, 1) := by decide +kernel
theorem dX12_notes_49 : decode cX12_notes 49 = .ok (.iastore, 1) := by decide +kernel
theorem dX12_notes_50 : decode cX12_notes 50 = .ok (.aload_n 0, 1) := by decide +kernel
theorem dX12_notes_51 : decode cX12_notes 51 = .ok (.getfield 31, 3) := by decide +kernel
theorem dX12_notes_54 : decode cX12_notes 54 = .ok (.iconst 3, 1) := by decide +kernel
theorem dX12_notes_55 : decode cX12_notes 55 = .ok (.aload_n 0, 1) := by decide +kernel
theorem dX12_notes_56 : decode cX12_notes 56 = .ok (.getfield 93, 3) := by decide +kernel
theorem dX12_notes_59 : decode cX12_notes 59 = .ok (.imul, 1) := by decide +kernel
theorem dX12_notes_60 : decode cX12_notes 60 = .ok (.iconst 1, 1) := by decide +kernel
theorem dX12_notes_61 : decode cX12_notes 61 = .ok (.iadd, 1) := by decide +kernel
theorem dX12_notes_62 : decode cX12_notes 62 = .ok (.iload_n 2, 1) := by decide +kernel
theorem dX12_notes_63 : decode cX12_notes 63 = .ok (.iastore, 1) := by decide +kernel
theorem dX12_notes_64 : decode cX12_notes 64 = .ok (.aload_n 0, 1) := by decide +kernel
theorem dX12_notes_65 : decode cX12_notes 65 = .ok (.getfield 31, 3) := by decide +kernel
theorem dX12_notes_68 : decode cX12_notes 68 = .ok (.iconst 3, 1) := by decide +kernel
theorem dX12_notes_69 : decode cX12_notes 69 = .ok (.aload_n 0, 1) := by decide +kernel
theorem dX12_notes_70 : decode cX12_notes 70 = .ok (.getfield 93, 3) := by decide +kernel
theorem dX12_notes_73 : decode cX12_notes 73 = .ok (.imul, 1) := by decide +kernel
theorem dX12_notes_74 : decode cX12_notes 74 = .ok (.iconst 2, 1) := by decide +kernel
theorem dX12_notes_75 : decode cX12_notes 75 = .ok (.iadd, 1) := by decide +kernel
theorem dX12_notes_76 : decode cX12_notes 76 = .ok (.iload_n 3, 1) := by decide +kernel
theorem dX12_notes_77 : decode cX12_notes 77 = .ok (.iastore, 1) := by decide +kernel
theorem dX12_notes_78 : decode cX12_notes 78 = .ok (.aload_n 0, 1) := by decide +kernel
theorem dX12_notes_79 : decode cX12_notes 79 = .ok (.dup, 1) := by decide +kernel
theorem dX12_notes_80 : decode cX12_notes 80 = .ok (.getfield 93, 3) := by decide +kernel
theorem dX12_notes_83 : decode cX12_notes 83 = .ok (.iconst 1, 1) := by decide +kernel
theorem dX12_notes_84 : decode cX12_notes 84 = .ok (.iadd, 1) := by decide +kernel
theorem dX12_notes_85 : decode cX12_notes 85 = .ok (.putfield 93, 3) := by decide +kernel
theorem dX12_notes_88 : decode cX12_notes 88 = .ok (.aload_n 0, 1) := by decide +kernel
theorem dX12_notes_89 : decode cX12_notes 89 = .ok (.getfield 93, 3) := by decide +kernel
theorem dX12_notes_92 : decode cX12_notes 92 = .ok (.ireturn, 1) := by decide +kernel
theorem dX12_forget_0 : decode cX12_forget 0 = .ok (.aload_n 0, 1) := by decide +kernel
theorem dX12_forget_1 : decode cX12_forget 1 = .ok (.getfield 93, 3) := by decide +kernel
theorem dX12_forget_4 : decode cX12_forget 4 = .ok (.istore_n 1, 1) := by decide +kernel
theorem dX12_forget_5 : decode cX12_forget 5 = .ok (.aload_n 0, 1) := by decide +kernel
theorem dX12_forget_6 : decode cX12_forget 6 = .ok (.iconst 0, 1) := by decide +kernel
theorem dX12_forget_7 : decode cX12_forget 7 = .ok (.putfield 93, 3) := by decide +kernel
theorem dX12_forget_10 : decode cX12_forget 10 = .ok (.iload_n 1, 1) := by decide +kernel
theorem dX12_forget_11 : decode cX12_forget 11 = .ok (.ireturn, 1) := by decide +kernel
set_option maxRecDepth 20000 in
theorem ggX12_isSo_X12_says : GoodIn wsX12_isSo wsX12_says := goodIn_r _ [10, 11, 12, 13, 3, 14, 15, 2, 16, 17, 18, 9, 19, 20, 21, 22, 23, 24, 25, 26, 27, 28, 29, 30, 31, 32, 33, 34, 35, 36, 37, 38, 39, 40] (by decide +kernel) (by decide +kernel)
set_option maxRecDepth 20000 in
theorem gX12_isSo_X12_says : GoodIn wsX12_isSo (wsV RX12 157 RX12 yX12_says wsX12_says) := goodIn_app (goodIn_of _ (by decide +kernel)) ggX12_isSo_X12_says
theorem dX12_isSo_0 : decode cX12_isSo 0 = .ok (.iconst 0, 1) := by decide +kernel
theorem dX12_isSo_1 : decode cX12_isSo 1 = .ok (.istore_n 2, 1) := by decide +kernel
theorem dX12_isSo_2 : decode cX12_isSo 2 = .ok (.iload_n 2, 1) := by decide +kernel
theorem dX12_isSo_3 : decode cX12_isSo 3 = .ok (.bipush 6, 2) := by decide +kernel
theorem dX12_isSo_5 : decode cX12_isSo 5 = .ok (.if_icmp .ge 16, 3) := by decide +kernel
theorem dX12_isSo_8 : decode cX12_isSo 8 = .ok (.aload_n 0, 1) := by decide +kernel
theorem dX12_isSo_9 : decode cX12_isSo 9 = .ok (.getfield 34, 3) := by decide +kernel
theorem dX12_isSo_12 : decode cX12_isSo 12 = .ok (.iload_n 2, 1) := by decide +kernel
theorem dX12_isSo_13 : decode cX12_isSo 13 = .ok (.iconst 0, 1) := by decide +kernel
theorem dX12_isSo_14 : decode cX12_isSo 14 = .ok (.iastore, 1) := by decide +kernel
theorem dX12_isSo_15 : decode cX12_isSo 15 = .ok (.iinc 2 1, 3) := by decide +kernel
theorem dX12_isSo_18 : decode cX12_isSo 18 = .ok (.goto (-16), 3) := by decide +kernel
theorem dX12_isSo_21 : decode cX12_isSo 21 = .ok (.iconst 0, 1) := by decide +kernel
theorem dX12_isSo_22 : decode cX12_isSo 22 = .ok (.istore_n 2, 1) := by decide +kernel
theorem dX12_isSo_23 : decode cX12_isSo 23 = .ok (.iload_n 2, 1) := by decide +kernel
theorem dX12_isSo_24 : decode cX12_isSo 24 = .ok (.aload_n 0, 1) := by decide +kernel
theorem dX12_isSo_25 : decode cX12_isSo 25 = .ok (.getfield 16, 3) := by decide +kernel
theorem dX12_isSo_28 : decode cX12_isSo 28 = .ok (.iconst 0, 1) := by decide +kernel
theorem dX12_isSo_29 : decode cX12_isSo 29 = .ok (.iaload, 1) := by decide +kernel
theorem dX12_isSo_30 : decode cX12_isSo 30 = .ok (.if_icmp .ge 59, 3) := by decide +kernel
theorem dX12_isSo_33 : decode cX12_isSo 33 = .ok (.aload_n 0, 1) := by decide +kernel
theorem dX12_isSo_34 : decode cX12_isSo 34 = .ok (.getfield 19, 3) := by decide +kernel
theorem dX12_isSo_37 : decode cX12_isSo 37 = .ok (.iconst 2, 1) := by decide +kernel
theorem dX12_isSo_38 : decode cX12_isSo 38 = .ok (.iload_n 2, 1) := by decide +kernel
theorem dX12_isSo_39 : decode cX12_isSo 39 = .ok (.iadd, 1) := by decide +kernel
theorem dX12_isSo_40 : decode cX12_isSo 40 = .ok (.iaload, 1) := by decide +kernel
theorem dX12_isSo_41 : decode cX12_isSo 41 = .ok (.bipush (-9), 2) := by decide +kernel
theorem dX12_isSo_43 : decode cX12_isSo 43 = .ok (.if_icmp .ne 8, 3) := by decide +kernel
theorem dX12_isSo_46 : decode cX12_isSo 46 = .ok (.bipush (-9), 2) := by decide +kernel
theorem dX12_isSo_48 : decode cX12_isSo 48 = .ok (.goto 9, 3) := by decide +kernel
theorem dX12_isSo_51 : decode cX12_isSo 51 = .ok (.aload_n 0, 1) := by decide +kernel
theorem dX12_isSo_52 : decode cX12_isSo 52 = .ok (.iload_n 2, 1) := by decide +kernel
theorem dX12_isSo_53 : decode cX12_isSo 53 = .ok (.iload_n 1, 1) := by decide +kernel
theorem dX12_isSo_54 : decode cX12_isSo 54 = .ok (.invokevirtual 157, 3) := by decide +kernel
theorem dX12_isSo_57 : decode cX12_isSo 57 = .ok (.istore_n 3, 1) := by decide +kernel
theorem dX12_isSo_58 : decode cX12_isSo 58 = .ok (.iload_n 3, 1) := by decide +kernel
theorem dX12_isSo_59 : decode cX12_isSo 59 = .ok (.bipush (-9), 2) := by decide +kernel
theorem dX12_isSo_61 : decode cX12_isSo 61 = .ok (.if_icmp .eq 22, 3) := by decide +kernel
theorem dX12_isSo_64 : decode cX12_isSo 64 = .ok (.aload_n 0, 1) := by decide +kernel
theorem dX12_isSo_65 : decode cX12_isSo 65 = .ok (.getfield 34, 3) := by decide +kernel
theorem dX12_isSo_68 : decode cX12_isSo 68 = .ok (.aload_n 0, 1) := by decide +kernel
theorem dX12_isSo_69 : decode cX12_isSo 69 = .ok (.getfield 19, 3) := by decide +kernel
theorem dX12_isSo_72 : decode cX12_isSo 72 = .ok (.iconst 2, 1) := by decide +kernel
theorem dX12_isSo_73 : decode cX12_isSo 73 = .ok (.iload_n 2, 1) := by decide +kernel
theorem dX12_isSo_74 : decode cX12_isSo 74 = .ok (.iadd, 1) := by decide +kernel
theorem dX12_isSo_75 : decode cX12_isSo 75 = .ok (.iaload, 1) := by decide +kernel
theorem dX12_isSo_76 : decode cX12_isSo 76 = .ok (.dup2, 1) := by decide +kernel
theorem dX12_isSo_77 : decode cX12_isSo 77 = .ok (.iaload, 1) := by decide +kernel
theorem dX12_isSo_78 : decode cX12_isSo 78 = .ok (.iconst 1, 1) := by decide +kernel
theorem dX12_isSo_79 : decode cX12_isSo 79 = .ok (.iload_n 3, 1) := by decide +kernel
theorem dX12_isSo_80 : decode cX12_isSo 80 = .ok (.ishl, 1) := by decide +kernel
theorem dX12_isSo_81 : decode cX12_isSo 81 = .ok (.ior, 1) := by decide +kernel
theorem dX12_isSo_82 : decode cX12_isSo 82 = .ok (.iastore, 1) := by decide +kernel
theorem dX12_isSo_83 : decode cX12_isSo 83 = .ok (.iinc 2 1, 3) := by decide +kernel
theorem dX12_isSo_86 : decode cX12_isSo 86 = .ok (.goto (-63), 3) := by decide +kernel
theorem dX12_isSo_89 : decode cX12_isSo 89 = .ok (.iconst 1, 1) := by decide +kernel
theorem dX12_isSo_90 : decode cX12_isSo 90 = .ok (.istore_n 2, 1) := by decide +kernel
theorem dX12_isSo_91 : decode cX12_isSo 91 = .ok (.iconst 0, 1) := by decide +kernel
theorem dX12_isSo_92 : decode cX12_isSo 92 = .ok (.istore_n 3, 1) := by decide +kernel
theorem dX12_isSo_93 : decode cX12_isSo 93 = .ok (.iload_n 3, 1) := by decide +kernel
theorem dX12_isSo_94 : decode cX12_isSo 94 = .ok (.aload_n 0, 1) := by decide +kernel
theorem dX12_isSo_95 : decode cX12_isSo 95 = .ok (.getfield 93, 3) := by decide +kernel
theorem dX12_isSo_98 : decode cX12_isSo 98 = .ok (.if_icmp .ge 58, 3) := by decide +kernel
theorem dX12_isSo_101 : decode cX12_isSo 101 = .ok (.iload_n 2, 1) := by decide +kernel
theorem dX12_isSo_102 : decode cX12_isSo 102 = .ok (.ifCond .eq 46, 3) := by decide +kernel
theorem dX12_isSo_105 : decode cX12_isSo 105 = .ok (.aload_n 0, 1) := by decide +kernel
theorem dX12_isSo_106 : decode cX12_isSo 106 = .ok (.getfield 34, 3) := by decide +kernel
theorem dX12_isSo_109 : decode cX12_isSo 109 = .ok (.aload_n 0, 1) := by decide +kernel
theorem dX12_isSo_110 : decode cX12_isSo 110 = .ok (.getfield 31, 3) := by decide +kernel
theorem dX12_isSo_113 : decode cX12_isSo 113 = .ok (.iconst 3, 1) := by decide +kernel
theorem dX12_isSo_114 : decode cX12_isSo 114 = .ok (.iload_n 3, 1) := by decide +kernel
theorem dX12_isSo_115 : decode cX12_isSo 115 = .ok (.imul, 1) := by decide +kernel
theorem dX12_isSo_116 : decode cX12_isSo 116 = .ok (.iaload, 1) := by decide +kernel
theorem dX12_isSo_117 : decode cX12_isSo 117 = .ok (.iaload, 1) := by decide +kernel
theorem dX12_isSo_118 : decode cX12_isSo 118 = .ok (.aload_n 0, 1) := by decide +kernel
theorem dX12_isSo_119 : decode cX12_isSo 119 = .ok (.getfield 31, 3) := by decide +kernel
theorem dX12_isSo_122 : decode cX12_isSo 122 = .ok (.iconst 3, 1) := by decide +kernel
theorem dX12_isSo_123 : decode cX12_isSo 123 = .ok (.iload_n 3, 1) := by decide +kernel
theorem dX12_isSo_124 : decode cX12_isSo 124 = .ok (.imul, 1) := by decide +kernel
theorem dX12_isSo_125 : decode cX12_isSo 125 = .ok (.iconst 1, 1) := by decide +kernel
theorem dX12_isSo_126 : decode cX12_isSo 126 = .ok (.iadd, 1) := by decide +kernel
theorem dX12_isSo_127 : decode cX12_isSo 127 = .ok (.iaload, 1) := by decide +kernel
theorem dX12_isSo_128 : decode cX12_isSo 128 = .ok (.ishr, 1) := by decide +kernel
theorem dX12_isSo_129 : decode cX12_isSo 129 = .ok (.iconst 1, 1) := by decide +kernel
theorem dX12_isSo_130 : decode cX12_isSo 130 = .ok (.iand, 1) := by decide +kernel
theorem dX12_isSo_131 : decode cX12_isSo 131 = .ok (.aload_n 0, 1) := by decide +kernel
theorem dX12_isSo_132 : decode cX12_isSo 132 = .ok (.getfield 31, 3) := by decide +kernel
theorem dX12_isSo_135 : decode cX12_isSo 135 = .ok (.iconst 3, 1) := by decide +kernel
theorem dX12_isSo_136 : decode cX12_isSo 136 = .ok (.iload_n 3, 1) := by decide +kernel
theorem dX12_isSo_137 : decode cX12_isSo 137 = .ok (.imul, 1) := by decide +kernel
theorem dX12_isSo_138 : decode cX12_isSo 138 = .ok (.iconst 2, 1) := by decide +kernel
theorem dX12_isSo_139 : decode cX12_isSo 139 = .ok (.iadd, 1) := by decide +kernel
theorem dX12_isSo_140 : decode cX12_isSo 140 = .ok (.iaload, 1) := by decide +kernel
theorem dX12_isSo_141 : decode cX12_isSo 141 = .ok (.if_icmp .ne 7, 3) := by decide +kernel
theorem dX12_isSo_144 : decode cX12_isSo 144 = .ok (.iconst 1, 1) := by decide +kernel
theorem dX12_isSo_145 : decode cX12_isSo 145 = .ok (.goto 4, 3) := by decide +kernel
theorem dX12_isSo_148 : decode cX12_isSo 148 = .ok (.iconst 0, 1) := by decide +kernel
theorem dX12_isSo_149 : decode cX12_isSo 149 = .ok (.istore_n 2, 1) := by decide +kernel
theorem dX12_isSo_150 : decode cX12_isSo 150 = .ok (.iinc 3 1, 3) := by decide +kernel
theorem dX12_isSo_153 : decode cX12_isSo 153 = .ok (.goto (-60), 3) := by decide +kernel
theorem dX12_isSo_156 : decode cX12_isSo 156 = .ok (.iload_n 2, 1) := by decide +kernel
theorem dX12_isSo_157 : decode cX12_isSo 157 = .ok (.ireturn, 1) := by decide +kernel
set_option maxRecDepth 20000 in
theorem ggX12_which_X12_in : GoodIn wsX12_which wsX12_in := goodIn_r _ [4] (by decide +kernel) (by decide +kernel)
set_option maxRecDepth 20000 in
theorem gX12_which_X12_in : GoodIn wsX12_which (va_wsS RX12 48 yX12_in wsX12_in) := goodIn_app (goodIn_of _ (by decide +kernel)) ggX12_which_X12_in
set_option maxRecDepth 20000 in
theorem ggX12_which_X12_isSo : GoodIn wsX12_which wsX12_isSo := goodIn_r _ [8, 9, 10, 11, 12, 13, 14, 15, 16, 3, 17, 18, 19, 20, 21, 22, 23, 24, 25, 26, 27, 28, 29, 30, 31, 32, 33, 34, 35, 36, 37, 38, 39, 40, 41, 42, 43, 44, 45, 46, 47] (by decide +kernel) (by decide +kernel)
set_option maxRecDepth 20000 in
theorem gX12_which_X12_isSo : GoodIn wsX12_which (wsV RX12 179 RX12 yX12_isSo wsX12_isSo) := goodIn_app (goodIn_of _ (by decide +kernel)) ggX12_which_X12_isSo
end
section
theorem dX12_which_0 : decode cX12_which 0 = .ok (.iload_n 1, 1) := by decide +kernel
theorem dX12_which_1 : decode cX12_which 1 = .ok (.i2l, 1) := by decide +kernel
theorem dX12_which_2 : decode cX12_which 2 = .ok (.lconst 0, 1) := by decide +kernel
theorem dX12_which_3 : decode cX12_which 3 = .ok (.lconst 1, 1) := by decide +kernel
theorem dX12_which_4 : decode cX12_which 4 = .ok (.invokestatic 48, 3) := by decide +kernel
theorem dX12_which_7 : decode cX12_which 7 = .ok (.ifCond .ne 5, 3) := by decide +kernel
theorem dX12_which_10 : decode cX12_which 10 = .ok (.iconst (-1), 1) := by decide +kernel
theorem dX12_which_11 : decode cX12_which 11 = .ok (.ireturn, 1) := by decide +kernel
theorem dX12_which_12 : decode cX12_which 12 = .ok (.iconst 0, 1) := by decide +kernel
theorem dX12_which_13 : decode cX12_which 13 = .ok (.istore_n 2, 1) := by decide +kernel
theorem dX12_which_14 : decode cX12_which 14 = .ok (.bipush (-9), 2) := by decide +kernel
theorem dX12_which_16 : decode cX12_which 16 = .ok (.istore_n 3, 1) := by decide +kernel
theorem dX12_which_17 : decode cX12_which 17 = .ok (.iconst 0, 1) := by decide +kernel
theorem dX12_which_18 : decode cX12_which 18 = .ok (.istore 4, 2) := by decide +kernel
theorem dX12_which_20 : decode cX12_which 20 = .ok (.iload 4, 2) := by decide +kernel
theorem dX12_which_22 : decode cX12_which 22 = .ok (.sipush 500, 3) := by decide +kernel
theorem dX12_which_25 : decode cX12_which 25 = .ok (.if_icmp .ge 46, 3) := by decide +kernel
theorem dX12_which_28 : decode cX12_which 28 = .ok (.aload_n 0, 1) := by decide +kernel
theorem dX12_which_29 : decode cX12_which 29 = .ok (.iload 4, 2) := by decide +kernel
theorem dX12_which_31 : decode cX12_which 31 = .ok (.invokevirtual 179, 3) := by decide +kernel
theorem dX12_which_34 : decode cX12_which 34 = .ok (.istore 5, 2) := by decide +kernel
theorem dX12_which_36 : decode cX12_which 36 = .ok (.iload 5, 2) := by decide +kernel
theorem dX12_which_38 : decode cX12_which 38 = .ok (.ifCond .eq 12, 3) := by decide +kernel
theorem dX12_which_41 : decode cX12_which 41 = .ok (.iload_n 2, 1) := by decide +kernel
theorem dX12_which_42 : decode cX12_which 42 = .ok (.ifCond .ne 8, 3) := by decide +kernel
theorem dX12_which_45 : decode cX12_which 45 = .ok (.iload 4, 2) := by decide +kernel
theorem dX12_which_47 : decode cX12_which 47 = .ok (.goto 4, 3) := by decide +kernel
theorem dX12_which_50 : decode cX12_which 50 = .ok (.iload_n 3, 1) := by decide +kernel
theorem dX12_which_51 : decode cX12_which 51 = .ok (.istore_n 3, 1) := by decide +kernel
theorem dX12_which_52 : decode cX12_which 52 = .ok (.iload_n 2, 1) := by decide +kernel
theorem dX12_which_53 : decode cX12_which 53 = .ok (.iload 5, 2) := by decide +kernel
theorem dX12_which_55 : decode cX12_which 55 = .ok (.ifCond .eq 7, 3) := by decide +kernel
theorem dX12_which_58 : decode cX12_which 58 = .ok (.iconst 1, 1) := by decide +kernel
theorem dX12_which_59 : decode cX12_which 59 = .ok (.goto 4, 3) := by decide +kernel
theorem dX12_which_62 : decode cX12_which 62 = .ok (.iconst 0, 1) := by decide +kernel
theorem dX12_which_63 : decode cX12_which 63 = .ok (.iadd, 1) := by decide +kernel
theorem dX12_which_64 : decode cX12_which 64 = .ok (.istore_n 2, 1) := by decide +kernel
theorem dX12_which_65 : decode cX12_which 65 = .ok (.iinc 4 1, 3) := by decide +kernel
theorem dX12_which_68 : decode cX12_which 68 = .ok (.goto (-48), 3) := by decide +kernel
theorem dX12_which_71 : decode cX12_which 71 = .ok (.iload_n 1, 1) := by decide +kernel
theorem dX12_which_72 : decode cX12_which 72 = .ok (.ifCond .ne 7, 3) := by decide +kernel
theorem dX12_which_75 : decode cX12_which 75 = .ok (.iload_n 2, 1) := by decide +kernel
theorem dX12_which_76 : decode cX12_which 76 = .ok (.goto 4, 3) := by decide +kernel
theorem dX12_which_79 : decode cX12_which 79 = .ok (.iload_n 3, 1) := by decide +kernel
theorem dX12_which_80 : decode cX12_which 80 = .ok (.ireturn, 1) := by decide +kernel
set_option maxRecDepth 20000 in
theorem ggX12_odds_X12_isPerson : GoodIn wsX12_odds wsX12_isPerson := goodIn_r _ [9, 4, 10, 11, 8, 12, 24, 25, 26, 27, 28, 29, 30, 31, 32, 33, 34, 35, 36, 37, 38, 39, 40, 41] (by decide +kernel) (by decide +kernel)
set_option maxRecDepth 20000 in
theorem gX12_odds_X12_isPerson : GoodIn wsX12_odds (wsV RX12 112 RX12 yX12_isPerson wsX12_isPerson) := goodIn_app (goodIn_of _ (by decide +kernel)) ggX12_odds_X12_isPerson
set_option maxRecDepth 20000 in
theorem ggX12_odds_X12_isThing : GoodIn wsX12_odds wsX12_isThing := goodIn_r _ [15, 16, 10, 11, 8, 12] (by decide +kernel) (by decide +kernel)
set_option maxRecDepth 20000 in
theorem gX12_odds_X12_isThing : GoodIn wsX12_odds (va_wsS RX12 120 yX12_isThing wsX12_isThing) := goodIn_app (goodIn_of _ (by decide +kernel)) ggX12_odds_X12_isThing
set_option maxRecDepth 20000 in
theorem ggX12_odds_X12_in : GoodIn wsX12_odds wsX12_in := goodIn_r _ [12] (by decide +kernel) (by decide +kernel)
set_option maxRecDepth 20000 in
theorem gX12_odds_X12_in : GoodIn wsX12_odds (va_wsS RX12 48 yX12_in wsX12_in) := goodIn_app (goodIn_of _ (by decide +kernel)) ggX12_odds_X12_in
set_option maxRecDepth 20000 in
theorem ggX12_odds_X12_knows : GoodIn wsX12_odds wsX12_knows := goodIn_r _ [20, 4, 24, 25, 26, 27, 28, 29, 30, 31, 32, 33, 34, 35, 36, 37, 38, 39, 40, 41] (by decide +kernel) (by decide +kernel)
set_option maxRecDepth 20000 in
theorem gX12_odds_X12_knows : GoodIn wsX12_odds (wsV RX12 109 RX12 yX12_knows wsX12_knows) := goodIn_app (goodIn_of _ (by decide +kernel)) ggX12_odds_X12_knows
set_option maxRecDepth 20000 in
theorem ggX12_odds_X12_many : GoodIn wsX12_odds wsX12_many := goodIn_r _ [23] (by decide +kernel) (by decide +kernel)
set_option maxRecDepth 20000 in
theorem gX12_odds_X12_many : GoodIn wsX12_odds (va_wsS RX12 134 yX12_many wsX12_many) := goodIn_app (goodIn_of _ (by decide +kernel)) ggX12_odds_X12_many
theorem dX12_odds_0 : decode cX12_odds 0 = .ok (.aload_n 0, 1) := by decide +kernel
theorem dX12_odds_1 : decode cX12_odds 1 = .ok (.iload_n 1, 1) := by decide +kernel
theorem dX12_odds_2 : decode cX12_odds 2 = .ok (.invokevirtual 112, 3) := by decide +kernel
theorem dX12_odds_5 : decode cX12_odds 5 = .ok (.ifCond .eq 33, 3) := by decide +kernel
theorem dX12_odds_8 : decode cX12_odds 8 = .ok (.iload_n 2, 1) := by decide +kernel
theorem dX12_odds_9 : decode cX12_odds 9 = .ok (.invokestatic 120, 3) := by decide +kernel
theorem dX12_odds_12 : decode cX12_odds 12 = .ok (.ifCond .eq 26, 3) := by decide +kernel
theorem dX12_odds_15 : decode cX12_odds 15 = .ok (.iload_n 3, 1) := by decide +kernel
theorem dX12_odds_16 : decode cX12_odds 16 = .ok (.i2l, 1) := by decide +kernel
theorem dX12_odds_17 : decode cX12_odds 17 = .ok (.lconst 0, 1) := by decide +kernel
theorem dX12_odds_18 : decode cX12_odds 18 = .ok (.ldc2_w 182, 3) := by decide +kernel
theorem dX12_odds_21 : decode cX12_odds 21 = .ok (.invokestatic 48, 3) := by decide +kernel
theorem dX12_odds_24 : decode cX12_odds 24 = .ok (.ifCond .eq 14, 3) := by decide +kernel
theorem dX12_odds_27 : decode cX12_odds 27 = .ok (.iload 4, 2) := by decide +kernel
theorem dX12_odds_29 : decode cX12_odds 29 = .ok (.i2l, 1) := by decide +kernel
theorem dX12_odds_30 : decode cX12_odds 30 = .ok (.lconst 0, 1) := by decide +kernel
theorem dX12_odds_31 : decode cX12_odds 31 = .ok (.lconst 1, 1) := by decide +kernel
theorem dX12_odds_32 : decode cX12_odds 32 = .ok (.invokestatic 48, 3) := by decide +kernel
theorem dX12_odds_35 : decode cX12_odds 35 = .ok (.ifCond .ne 7, 3) := by decide +kernel
theorem dX12_odds_38 : decode cX12_odds 38 = .ok (.ldc2_w 184, 3) := by decide +kernel
theorem dX12_odds_41 : decode cX12_odds 41 = .ok (.lreturn, 1) := by decide +kernel
theorem dX12_odds_42 : decode cX12_odds 42 = .ok (.aload_n 0, 1) := by decide +kernel
theorem dX12_odds_43 : decode cX12_odds 43 = .ok (.iload_n 1, 1) := by decide +kernel
theorem dX12_odds_44 : decode cX12_odds 44 = .ok (.invokevirtual 109, 3) := by decide +kernel
theorem dX12_odds_47 : decode cX12_odds 47 = .ok (.invokestatic 134, 3) := by decide +kernel
theorem dX12_odds_50 : decode cX12_odds 50 = .ok (.istore 5, 2) := by decide +kernel
theorem dX12_odds_52 : decode cX12_odds 52 = .ok (.aload_n 0, 1) := by decide +kernel
theorem dX12_odds_53 : decode cX12_odds 53 = .ok (.iload_n 1, 1) := by decide +kernel
theorem dX12_odds_54 : decode cX12_odds 54 = .ok (.invokevirtual 109, 3) := by decide +kernel
theorem dX12_odds_57 : decode cX12_odds 57 = .ok (.iload_n 2, 1) := by decide +kernel
theorem dX12_odds_58 : decode cX12_odds 58 = .ok (.ishr, 1) := by decide +kernel
theorem dX12_odds_59 : decode cX12_odds 59 = .ok (.iconst 1, 1) := by decide +kernel
theorem dX12_odds_60 : decode cX12_odds 60 = .ok (.iand, 1) := by decide +kernel
theorem dX12_odds_61 : decode cX12_odds 61 = .ok (.iconst 1, 1) := by decide +kernel
theorem dX12_odds_62 : decode cX12_odds 62 = .ok (.if_icmp .ne 7, 3) := by decide +kernel
theorem dX12_odds_65 : decode cX12_odds 65 = .ok (.iconst 1, 1) := by decide +kernel
theorem dX12_odds_66 : decode cX12_odds 66 = .ok (.goto 4, 3) := by decide +kernel
theorem dX12_odds_69 : decode cX12_odds 69 = .ok (.iconst 0, 1) := by decide +kernel
theorem dX12_odds_70 : decode cX12_odds 70 = .ok (.istore 6, 2) := by decide +kernel
theorem dX12_odds_72 : decode cX12_odds 72 = .ok (.lconst 1, 1) := by decide +kernel
theorem dX12_odds_73 : decode cX12_odds 73 = .ok (.lstore 7, 2) := by decide +kernel
theorem dX12_odds_75 : decode cX12_odds 75 = .ok (.lconst 1, 1) := by decide +kernel
theorem dX12_odds_76 : decode cX12_odds 76 = .ok (.lstore 9, 2) := by decide +kernel
theorem dX12_odds_78 : decode cX12_odds 78 = .ok (.iconst 0, 1) := by decide +kernel
theorem dX12_odds_79 : decode cX12_odds 79 = .ok (.istore 11, 2) := by decide +kernel
theorem dX12_odds_81 : decode cX12_odds 81 = .ok (.iload 11, 2) := by decide +kernel
theorem dX12_odds_83 : decode cX12_odds 83 = .ok (.iload_n 3, 1) := by decide +kernel
theorem dX12_odds_84 : decode cX12_odds 84 = .ok (.if_icmp .ge 52, 3) := by decide +kernel
theorem dX12_odds_87 : decode cX12_odds 87 = .ok (.iload 6, 2) := by decide +kernel
theorem dX12_odds_89 : decode cX12_odds 89 = .ok (.ifCond .eq 47, 3) := by decide +kernel
theorem dX12_odds_92 : decode cX12_odds 92 = .ok (.lload 7, 2) := by decide +kernel
theorem dX12_odds_94 : decode cX12_odds 94 = .ok (.ldc2_w 186, 3) := by decide +kernel
theorem dX12_odds_97 : decode cX12_odds 97 = .ok (.iload 5, 2) := by decide +kernel
theorem dX12_odds_99 : decode cX12_odds 99 = .ok (.i2l, 1) := by decide +kernel
theorem dX12_odds_100 : decode cX12_odds 100 = .ok (.lmul, 1) := by decide +kernel
theorem dX12_odds_101 : decode cX12_odds 101 = .ok (.lmul, 1) := by decide +kernel
theorem dX12_odds_102 : decode cX12_odds 102 = .ok (.lstore 7, 2) := by decide +kernel
theorem dX12_odds_104 : decode cX12_odds 104 = .ok (.lload 9, 2) := by decide +kernel
theorem dX12_odds_106 : decode cX12_odds 106 = .ok (.ldc2_w 186, 3) := by decide +kernel
theorem dX12_odds_109 : decode cX12_odds 109 = .ok (.iload 5, 2) := by decide +kernel
theorem dX12_odds_111 : decode cX12_odds 111 = .ok (.i2l, 1) := by decide +kernel
theorem dX12_odds_112 : decode cX12_odds 112 = .ok (.lmul, 1) := by decide +kernel
theorem dX12_odds_113 : decode cX12_odds 113 = .ok (.aload_n 0, 1) := by decide +kernel
theorem dX12_odds_114 : decode cX12_odds 114 = .ok (.getfield 16, 3) := by decide +kernel
theorem dX12_odds_117 : decode cX12_odds 117 = .ok (.iconst 2, 1) := by decide +kernel
theorem dX12_odds_118 : decode cX12_odds 118 = .ok (.iconst 2, 1) := by decide +kernel
theorem dX12_odds_119 : decode cX12_odds 119 = .ok (.iload_n 1, 1) := by decide +kernel
theorem dX12_odds_120 : decode cX12_odds 120 = .ok (.imul, 1) := by decide +kernel
theorem dX12_odds_121 : decode cX12_odds 121 = .ok (.iadd, 1) := by decide +kernel
theorem dX12_odds_122 : decode cX12_odds 122 = .ok (.iconst 1, 1) := by decide +kernel
theorem dX12_odds_123 : decode cX12_odds 123 = .ok (.iadd, 1) := by decide +kernel
theorem dX12_odds_124 : decode cX12_odds 124 = .ok (.iaload, 1) := by decide +kernel
theorem dX12_odds_125 : decode cX12_odds 125 = .ok (.i2l, 1) := by decide +kernel
theorem dX12_odds_126 : decode cX12_odds 126 = .ok (.lsub, 1) := by decide +kernel
theorem dX12_odds_127 : decode cX12_odds 127 = .ok (.lmul, 1) := by decide +kernel
theorem dX12_odds_128 : decode cX12_odds 128 = .ok (.lstore 9, 2) := by decide +kernel
theorem dX12_odds_130 : decode cX12_odds 130 = .ok (.iinc 11 1, 3) := by decide +kernel
theorem dX12_odds_133 : decode cX12_odds 133 = .ok (.goto (-52), 3) := by decide +kernel
theorem dX12_odds_136 : decode cX12_odds 136 = .ok (.lload 7, 2) := by decide +kernel
theorem dX12_odds_138 : decode cX12_odds 138 = .ok (.lload 9, 2) := by decide +kernel
theorem dX12_odds_140 : decode cX12_odds 140 = .ok (.lsub, 1) := by decide +kernel
theorem dX12_odds_141 : decode cX12_odds 141 = .ok (.lstore 11, 2) := by decide +kernel
theorem dX12_odds_143 : decode cX12_odds 143 = .ok (.lload 7, 2) := by decide +kernel
theorem dX12_odds_145 : decode cX12_odds 145 = .ok (.lstore 13, 2) := by decide +kernel
theorem dX12_odds_147 : decode cX12_odds 147 = .ok (.lload 13, 2) := by decide +kernel
theorem dX12_odds_149 : decode cX12_odds 149 = .ok (.lconst 0, 1) := by decide +kernel
theorem dX12_odds_150 : decode cX12_odds 150 = .ok (.lcmp, 1) := by decide +kernel
theorem dX12_odds_151 : decode cX12_odds 151 = .ok (.ifCond .eq 21, 3) := by decide +kernel
theorem dX12_odds_154 : decode cX12_odds 154 = .ok (.lload 11, 2) := by decide +kernel
theorem dX12_odds_156 : decode cX12_odds 156 = .ok (.lload 13, 2) := by decide +kernel
theorem dX12_odds_158 : decode cX12_odds 158 = .ok (.lrem, 1) := by decide +kernel
theorem dX12_odds_159 : decode cX12_odds 159 = .ok (.lstore 15, 2) := by decide +kernel
theorem dX12_odds_161 : decode cX12_odds 161 = .ok (.lload 13, 2) := by decide +kernel
theorem dX12_odds_163 : decode cX12_odds 163 = .ok (.lstore 11, 2) := by decide +kernel
theorem dX12_odds_165 : decode cX12_odds 165 = .ok (.lload 15, 2) := by decide +kernel
theorem dX12_odds_167 : decode cX12_odds 167 = .ok (.lstore 13, 2) := by decide +kernel
theorem dX12_odds_169 : decode cX12_odds 169 = .ok (.goto (-22), 3) := by decide +kernel
theorem dX12_odds_172 : decode cX12_odds 172 = .ok (.iload 4, 2) := by decide +kernel
theorem dX12_odds_174 : decode cX12_odds 174 = .ok (.ifCond .ne 14, 3) := by decide +kernel
theorem dX12_odds_177 : decode cX12_odds 177 = .ok (.lload 7, 2) := by decide +kernel
theorem dX12_odds_179 : decode cX12_odds 179 = .ok (.lload 9, 2) := by decide +kernel
theorem dX12_odds_181 : decode cX12_odds 181 = .ok (.lsub, 1) := by decide +kernel
theorem dX12_odds_182 : decode cX12_odds 182 = .ok (.lload 11, 2) := by decide +kernel
theorem dX12_odds_184 : decode cX12_odds 184 = .ok (.ldiv, 1) := by decide +kernel
theorem dX12_odds_185 : decode cX12_odds 185 = .ok (.goto 8, 3) := by decide +kernel
theorem dX12_odds_188 : decode cX12_odds 188 = .ok (.lload 7, 2) := by decide +kernel
theorem dX12_odds_190 : decode cX12_odds 190 = .ok (.lload 11, 2) := by decide +kernel
theorem dX12_odds_192 : decode cX12_odds 192 = .ok (.ldiv, 1) := by decide +kernel
theorem dX12_odds_193 : decode cX12_odds 193 = .ok (.lreturn, 1) := by decide +kernel
set_option maxRecDepth 20000 in
theorem ggX12_rate_X12_in : GoodIn wsX12_rate wsX12_in := goodIn_r _ [13] (by decide +kernel) (by decide +kernel)
set_option maxRecDepth 20000 in
theorem gX12_rate_X12_in : GoodIn wsX12_rate (va_wsS RX12 48 yX12_in wsX12_in) := goodIn_app (goodIn_of _ (by decide +kernel)) ggX12_rate_X12_in
set_option maxRecDepth 20000 in
theorem ggX12_rate_X12_isPillow : GoodIn wsX12_rate wsX12_isPillow := goodIn_r _ [17, 18, 10, 11, 12, 13, 34, 35, 36, 37, 38, 39, 40, 41, 42, 43, 44, 45, 46, 47, 48, 49, 50, 51] (by decide +kernel) (by decide +kernel)
set_option maxRecDepth 20000 in
theorem gX12_rate_X12_isPillow : GoodIn wsX12_rate (wsV RX12 123 RX12 yX12_isPillow wsX12_isPillow) := goodIn_app (goodIn_of _ (by decide +kernel)) ggX12_rate_X12_isPillow
set_option maxRecDepth 20000 in
theorem ggX12_rate_X12_hears : GoodIn wsX12_rate wsX12_hears := goodIn_r _ [22, 23, 24, 25, 12, 26, 9, 34, 35, 36, 37, 38, 39, 40, 41, 42, 43, 44, 45, 46, 47, 48, 49, 50, 51] (by decide +kernel) (by decide +kernel)
set_option maxRecDepth 20000 in
theorem gX12_rate_X12_hears : GoodIn wsX12_rate (wsV RX12 105 RX12 yX12_hears wsX12_hears) := goodIn_app (goodIn_of _ (by decide +kernel)) ggX12_rate_X12_hears
set_option maxRecDepth 20000 in
theorem ggX12_rate_X12_many : GoodIn wsX12_rate wsX12_many := goodIn_r _ [29] (by decide +kernel) (by decide +kernel)
set_option maxRecDepth 20000 in
theorem gX12_rate_X12_many : GoodIn wsX12_rate (va_wsS RX12 134 yX12_many wsX12_many) := goodIn_app (goodIn_of _ (by decide +kernel)) ggX12_rate_X12_many
set_option maxRecDepth 20000 in
theorem ggX12_rate_X12_often : GoodIn wsX12_rate wsX12_often := goodIn_r _ [26, 9, 34, 35, 36, 37, 38, 39, 40, 41, 42, 43, 44, 45, 46, 47, 48, 49, 50, 51] (by decide +kernel) (by decide +kernel)
set_option maxRecDepth 20000 in
theorem gX12_rate_X12_often : GoodIn wsX12_rate (wsV RX12 101 RX12 yX12_often wsX12_often) := goodIn_app (goodIn_of _ (by decide +kernel)) ggX12_rate_X12_often
set_option maxRecDepth 20000 in
theorem ggX12_rate_X12_lieOn : GoodIn wsX12_rate wsX12_lieOn := goodIn_r _ [33, 18, 9, 34, 35, 36, 37, 38, 39, 40, 41, 42, 43, 44, 45, 46, 47, 48, 49, 50, 51] (by decide +kernel) (by decide +kernel)
set_option maxRecDepth 20000 in
theorem gX12_rate_X12_lieOn : GoodIn wsX12_rate (wsV RX12 128 RX12 yX12_lieOn wsX12_lieOn) := goodIn_app (goodIn_of _ (by decide +kernel)) ggX12_rate_X12_lieOn
theorem dX12_rate_0 : decode cX12_rate 0 = .ok (.iload_n 1, 1) := by decide +kernel
theorem dX12_rate_1 : decode cX12_rate 1 = .ok (.i2l, 1) := by decide +kernel
theorem dX12_rate_2 : decode cX12_rate 2 = .ok (.lconst 0, 1) := by decide +kernel
theorem dX12_rate_3 : decode cX12_rate 3 = .ok (.ldc2_w 182, 3) := by decide +kernel
theorem dX12_rate_6 : decode cX12_rate 6 = .ok (.invokestatic 48, 3) := by decide +kernel
theorem dX12_rate_9 : decode cX12_rate 9 = .ok (.ifCond .eq 11, 3) := by decide +kernel
theorem dX12_rate_12 : decode cX12_rate 12 = .ok (.aload_n 0, 1) := by decide +kernel
theorem dX12_rate_13 : decode cX12_rate 13 = .ok (.iload_n 2, 1) := by decide +kernel
theorem dX12_rate_14 : decode cX12_rate 14 = .ok (.invokevirtual 123, 3) := by decide +kernel
theorem dX12_rate_17 : decode cX12_rate 17 = .ok (.ifCond .ne 6, 3) := by decide +kernel
theorem dX12_rate_20 : decode cX12_rate 20 = .ok (.ldc 188, 2) := by decide +kernel
theorem dX12_rate_22 : decode cX12_rate 22 = .ok (.ireturn, 1) := by decide +kernel
theorem dX12_rate_23 : decode cX12_rate 23 = .ok (.aload_n 0, 1) := by decide +kernel
theorem dX12_rate_24 : decode cX12_rate 24 = .ok (.dup, 1) := by decide +kernel
theorem dX12_rate_25 : decode cX12_rate 25 = .ok (.getfield 189, 3) := by decide +kernel
theorem dX12_rate_28 : decode cX12_rate 28 = .ok (.iload_n 1, 1) := by decide +kernel
theorem dX12_rate_29 : decode cX12_rate 29 = .ok (.ifCond .ne 7, 3) := by decide +kernel
theorem dX12_rate_32 : decode cX12_rate 32 = .ok (.lconst 1, 1) := by decide +kernel
theorem dX12_rate_33 : decode cX12_rate 33 = .ok (.goto 50, 3) := by decide +kernel
theorem dX12_rate_36 : decode cX12_rate 36 = .ok (.iload_n 1, 1) := by decide +kernel
theorem dX12_rate_37 : decode cX12_rate 37 = .ok (.iconst 1, 1) := by decide +kernel
theorem dX12_rate_38 : decode cX12_rate 38 = .ok (.if_icmp .ne 9, 3) := by decide +kernel
theorem dX12_rate_41 : decode cX12_rate 41 = .ok (.ldc2_w 193, 3) := by decide +kernel
theorem dX12_rate_44 : decode cX12_rate 44 = .ok (.goto 39, 3) := by decide +kernel
theorem dX12_rate_47 : decode cX12_rate 47 = .ok (.iload_n 1, 1) := by decide +kernel
theorem dX12_rate_48 : decode cX12_rate 48 = .ok (.iconst 2, 1) := by decide +kernel
theorem dX12_rate_49 : decode cX12_rate 49 = .ok (.if_icmp .ne 9, 3) := by decide +kernel
theorem dX12_rate_52 : decode cX12_rate 52 = .ok (.ldc2_w 195, 3) := by decide +kernel
theorem dX12_rate_55 : decode cX12_rate 55 = .ok (.goto 28, 3) := by decide +kernel
theorem dX12_rate_58 : decode cX12_rate 58 = .ok (.iload_n 1, 1) := by decide +kernel
theorem dX12_rate_59 : decode cX12_rate 59 = .ok (.iconst 3, 1) := by decide +kernel
theorem dX12_rate_60 : decode cX12_rate 60 = .ok (.if_icmp .ne 9, 3) := by decide +kernel
theorem dX12_rate_63 : decode cX12_rate 63 = .ok (.ldc2_w 197, 3) := by decide +kernel
theorem dX12_rate_66 : decode cX12_rate 66 = .ok (.goto 17, 3) := by decide +kernel
theorem dX12_rate_69 : decode cX12_rate 69 = .ok (.iload_n 1, 1) := by decide +kernel
theorem dX12_rate_70 : decode cX12_rate 70 = .ok (.iconst 4, 1) := by decide +kernel
theorem dX12_rate_71 : decode cX12_rate 71 = .ok (.if_icmp .ne 9, 3) := by decide +kernel
theorem dX12_rate_74 : decode cX12_rate 74 = .ok (.ldc2_w 199, 3) := by decide +kernel
theorem dX12_rate_77 : decode cX12_rate 77 = .ok (.goto 6, 3) := by decide +kernel
theorem dX12_rate_80 : decode cX12_rate 80 = .ok (.ldc2_w 201, 3) := by decide +kernel
theorem dX12_rate_83 : decode cX12_rate 83 = .ok (.ladd, 1) := by decide +kernel
theorem dX12_rate_84 : decode cX12_rate 84 = .ok (.putfield 189, 3) := by decide +kernel
theorem dX12_rate_87 : decode cX12_rate 87 = .ok (.aload_n 0, 1) := by decide +kernel
theorem dX12_rate_88 : decode cX12_rate 88 = .ok (.iload_n 2, 1) := by decide +kernel
theorem dX12_rate_89 : decode cX12_rate 89 = .ok (.invokevirtual 105, 3) := by decide +kernel
theorem dX12_rate_92 : decode cX12_rate 92 = .ok (.invokestatic 134, 3) := by decide +kernel
theorem dX12_rate_95 : decode cX12_rate 95 = .ok (.istore_n 3, 1) := by decide +kernel
theorem dX12_rate_96 : decode cX12_rate 96 = .ok (.iload_n 3, 1) := by decide +kernel
theorem dX12_rate_97 : decode cX12_rate 97 = .ok (.istore 4, 2) := by decide +kernel
theorem dX12_rate_99 : decode cX12_rate 99 = .ok (.iconst 0, 1) := by decide +kernel
theorem dX12_rate_100 : decode cX12_rate 100 = .ok (.istore 5, 2) := by decide +kernel
theorem dX12_rate_102 : decode cX12_rate 102 = .ok (.iload 5, 2) := by decide +kernel
theorem dX12_rate_104 : decode cX12_rate 104 = .ok (.bipush 7, 2) := by decide +kernel
theorem dX12_rate_106 : decode cX12_rate 106 = .ok (.if_icmp .ge 21, 3) := by decide +kernel
theorem dX12_rate_109 : decode cX12_rate 109 = .ok (.iload 4, 2) := by decide +kernel
theorem dX12_rate_111 : decode cX12_rate 111 = .ok (.aload_n 0, 1) := by decide +kernel
theorem dX12_rate_112 : decode cX12_rate 112 = .ok (.iload_n 2, 1) := by decide +kernel
theorem dX12_rate_113 : decode cX12_rate 113 = .ok (.iload 5, 2) := by decide +kernel
theorem dX12_rate_115 : decode cX12_rate 115 = .ok (.invokevirtual 101, 3) := by decide +kernel
theorem dX12_rate_118 : decode cX12_rate 118 = .ok (.iadd, 1) := by decide +kernel
theorem dX12_rate_119 : decode cX12_rate 119 = .ok (.istore 4, 2) := by decide +kernel
theorem dX12_rate_121 : decode cX12_rate 121 = .ok (.iinc 5 1, 3) := by decide +kernel
theorem dX12_rate_124 : decode cX12_rate 124 = .ok (.goto (-22), 3) := by decide +kernel
theorem dX12_rate_127 : decode cX12_rate 127 = .ok (.iload_n 3, 1) := by decide +kernel
theorem dX12_rate_128 : decode cX12_rate 128 = .ok (.aload_n 0, 1) := by decide +kernel
theorem dX12_rate_129 : decode cX12_rate 129 = .ok (.iload_n 2, 1) := by decide +kernel
theorem dX12_rate_130 : decode cX12_rate 130 = .ok (.invokevirtual 128, 3) := by decide +kernel
theorem dX12_rate_133 : decode cX12_rate 133 = .ok (.invokestatic 134, 3) := by decide +kernel
theorem dX12_rate_136 : decode cX12_rate 136 = .ok (.isub, 1) := by decide +kernel
theorem dX12_rate_137 : decode cX12_rate 137 = .ok (.istore 5, 2) := by decide +kernel
theorem dX12_rate_139 : decode cX12_rate 139 = .ok (.iload_n 1, 1) := by decide +kernel
theorem dX12_rate_140 : decode cX12_rate 140 = .ok (.tableswitch 54 0 4 #[36, 38, 41, 44, 49], 36) := by decide +kernel
theorem dX12_rate_176 : decode cX12_rate 176 = .ok (.iload_n 3, 1) := by decide +kernel
theorem dX12_rate_177 : decode cX12_rate 177 = .ok (.ireturn, 1) := by decide +kernel
theorem dX12_rate_178 : decode cX12_rate 178 = .ok (.iload 4, 2) := by decide +kernel
theorem dX12_rate_180 : decode cX12_rate 180 = .ok (.ireturn, 1) := by decide +kernel
theorem dX12_rate_181 : decode cX12_rate 181 = .ok (.iload 5, 2) := by decide +kernel
theorem dX12_rate_183 : decode cX12_rate 183 = .ok (.ireturn, 1) := by decide +kernel
theorem dX12_rate_184 : decode cX12_rate 184 = .ok (.iconst 2, 1) := by decide +kernel
theorem dX12_rate_185 : decode cX12_rate 185 = .ok (.iload 4, 2) := by decide +kernel
theorem dX12_rate_187 : decode cX12_rate 187 = .ok (.imul, 1) := by decide +kernel
theorem dX12_rate_188 : decode cX12_rate 188 = .ok (.ireturn, 1) := by decide +kernel
theorem dX12_rate_189 : decode cX12_rate 189 = .ok (.iload 5, 2) := by decide +kernel
theorem dX12_rate_191 : decode cX12_rate 191 = .ok (.iload_n 2, 1) := by decide +kernel
theorem dX12_rate_192 : decode cX12_rate 192 = .ok (.iadd, 1) := by decide +kernel
theorem dX12_rate_193 : decode cX12_rate 193 = .ok (.ireturn, 1) := by decide +kernel
theorem dX12_rate_194 : decode cX12_rate 194 = .ok (.iload_n 3, 1) := by decide +kernel
theorem dX12_rate_195 : decode cX12_rate 195 = .ok (.aload_n 0, 1) := by decide +kernel
theorem dX12_rate_196 : decode cX12_rate 196 = .ok (.getfield 19, 3) := by decide +kernel
theorem dX12_rate_199 : decode cX12_rate 199 = .ok (.iconst 0, 1) := by decide +kernel
theorem dX12_rate_200 : decode cX12_rate 200 = .ok (.iaload, 1) := by decide +kernel
theorem dX12_rate_201 : decode cX12_rate 201 = .ok (.iadd, 1) := by decide +kernel
theorem dX12_rate_202 : decode cX12_rate 202 = .ok (.ireturn, 1) := by decide +kernel
theorem dX12_trace_0 : decode cX12_trace 0 = .ok (.aload_n 0, 1) := by decide +kernel
theorem dX12_trace_1 : decode cX12_trace 1 = .ok (.getfield 189, 3) := by decide +kernel
theorem dX12_trace_4 : decode cX12_trace 4 = .ok (.lreturn, 1) := by decide +kernel
set_option maxRecDepth 20000 in
theorem ggX12_keep_X12_in : GoodIn wsX12_keep wsX12_in := goodIn_r _ [6] (by decide +kernel) (by decide +kernel)
set_option maxRecDepth 20000 in
theorem gX12_keep_X12_in : GoodIn wsX12_keep (va_wsS RX12 48 yX12_in wsX12_in) := goodIn_app (goodIn_of _ (by decide +kernel)) ggX12_keep_X12_in
theorem dX12_keep_0 : decode cX12_keep 0 = .ok (.iload_n 1, 1) := by decide +kernel
theorem dX12_keep_1 : decode cX12_keep 1 = .ok (.i2l, 1) := by decide +kernel
theorem dX12_keep_2 : decode cX12_keep 2 = .ok (.lconst 0, 1) := by decide +kernel
theorem dX12_keep_3 : decode cX12_keep 3 = .ok (.lconst 1, 1) := by decide +kernel
theorem dX12_keep_4 : decode cX12_keep 4 = .ok (.invokestatic 48, 3) := by decide +kernel
theorem dX12_keep_7 : decode cX12_keep 7 = .ok (.ifCond .ne 5, 3) := by decide +kernel
theorem dX12_keep_10 : decode cX12_keep 10 = .ok (.iconst (-1), 1) := by decide +kernel
theorem dX12_keep_11 : decode cX12_keep 11 = .ok (.ireturn, 1) := by decide +kernel
theorem dX12_keep_12 : decode cX12_keep 12 = .ok (.aload_n 0, 1) := by decide +kernel
theorem dX12_keep_13 : decode cX12_keep 13 = .ok (.getfield 37, 3) := by decide +kernel
theorem dX12_keep_16 : decode cX12_keep 16 = .ok (.bipush 51, 2) := by decide +kernel
theorem dX12_keep_18 : decode cX12_keep 18 = .ok (.iload_n 1, 1) := by decide +kernel
theorem dX12_keep_19 : decode cX12_keep 19 = .ok (.imul, 1) := by decide +kernel
theorem dX12_keep_20 : decode cX12_keep 20 = .ok (.iconst 1, 1) := by decide +kernel
theorem dX12_keep_21 : decode cX12_keep 21 = .ok (.iastore, 1) := by decide +kernel
theorem dX12_keep_22 : decode cX12_keep 22 = .ok (.iconst 0, 1) := by decide +kernel
theorem dX12_keep_23 : decode cX12_keep 23 = .ok (.istore_n 2, 1) := by decide +kernel
theorem dX12_keep_24 : decode cX12_keep 24 = .ok (.iload_n 2, 1) := by decide +kernel
theorem dX12_keep_25 : decode cX12_keep 25 = .ok (.bipush 50, 2) := by decide +kernel
theorem dX12_keep_27 : decode cX12_keep 27 = .ok (.if_icmp .ge 28, 3) := by decide +kernel
theorem dX12_keep_30 : decode cX12_keep 30 = .ok (.aload_n 0, 1) := by decide +kernel
theorem dX12_keep_31 : decode cX12_keep 31 = .ok (.getfield 37, 3) := by decide +kernel
theorem dX12_keep_34 : decode cX12_keep 34 = .ok (.bipush 51, 2) := by decide +kernel
theorem dX12_keep_36 : decode cX12_keep 36 = .ok (.iload_n 1, 1) := by decide +kernel
theorem dX12_keep_37 : decode cX12_keep 37 = .ok (.imul, 1) := by decide +kernel
theorem dX12_keep_38 : decode cX12_keep 38 = .ok (.iconst 1, 1) := by decide +kernel
theorem dX12_keep_39 : decode cX12_keep 39 = .ok (.iadd, 1) := by decide +kernel
theorem dX12_keep_40 : decode cX12_keep 40 = .ok (.iload_n 2, 1) := by decide +kernel
theorem dX12_keep_41 : decode cX12_keep 41 = .ok (.iadd, 1) := by decide +kernel
theorem dX12_keep_42 : decode cX12_keep 42 = .ok (.aload_n 0, 1) := by decide +kernel
theorem dX12_keep_43 : decode cX12_keep 43 = .ok (.getfield 19, 3) := by decide +kernel
theorem dX12_keep_46 : decode cX12_keep 46 = .ok (.iload_n 2, 1) := by decide +kernel
theorem dX12_keep_47 : decode cX12_keep 47 = .ok (.iaload, 1) := by decide +kernel
theorem dX12_keep_48 : decode cX12_keep 48 = .ok (.iastore, 1) := by decide +kernel
theorem dX12_keep_49 : decode cX12_keep 49 = .ok (.iinc 2 1, 3) := by decide +kernel
theorem dX12_keep_52 : decode cX12_keep 52 = .ok (.goto (-28), 3) := by decide +kernel
theorem dX12_keep_55 : decode cX12_keep 55 = .ok (.aload_n 0, 1) := by decide +kernel
theorem dX12_keep_56 : decode cX12_keep 56 = .ok (.getfield 19, 3) := by decide +kernel
theorem dX12_keep_59 : decode cX12_keep 59 = .ok (.iconst 0, 1) := by decide +kernel
theorem dX12_keep_60 : decode cX12_keep 60 = .ok (.iaload, 1) := by decide +kernel
theorem dX12_keep_61 : decode cX12_keep 61 = .ok (.ireturn, 1) := by decide +kernel
set_option maxRecDepth 20000 in
theorem ggX12_back_X12_in : GoodIn wsX12_back wsX12_in := goodIn_r _ [7] (by decide +kernel) (by decide +kernel)
set_option maxRecDepth 20000 in
theorem gX12_back_X12_in : GoodIn wsX12_back (va_wsS RX12 48 yX12_in wsX12_in) := goodIn_app (goodIn_of _ (by decide +kernel)) ggX12_back_X12_in
theorem dX12_back_0 : decode cX12_back 0 = .ok (.iload_n 1, 1) := by decide +kernel
theorem dX12_back_1 : decode cX12_back 1 = .ok (.i2l, 1) := by decide +kernel
theorem dX12_back_2 : decode cX12_back 2 = .ok (.lconst 0, 1) := by decide +kernel
theorem dX12_back_3 : decode cX12_back 3 = .ok (.lconst 1, 1) := by decide +kernel
theorem dX12_back_4 : decode cX12_back 4 = .ok (.invokestatic 48, 3) := by decide +kernel
theorem dX12_back_7 : decode cX12_back 7 = .ok (.ifCond .ne 5, 3) := by decide +kernel
theorem dX12_back_10 : decode cX12_back 10 = .ok (.iconst (-1), 1) := by decide +kernel
theorem dX12_back_11 : decode cX12_back 11 = .ok (.ireturn, 1) := by decide +kernel
theorem dX12_back_12 : decode cX12_back 12 = .ok (.aload_n 0, 1) := by decide +kernel
theorem dX12_back_13 : decode cX12_back 13 = .ok (.getfield 37, 3) := by decide +kernel
theorem dX12_back_16 : decode cX12_back 16 = .ok (.bipush 51, 2) := by decide +kernel
theorem dX12_back_18 : decode cX12_back 18 = .ok (.iload_n 1, 1) := by decide +kernel
theorem dX12_back_19 : decode cX12_back 19 = .ok (.imul, 1) := by decide +kernel
theorem dX12_back_20 : decode cX12_back 20 = .ok (.iaload, 1) := by decide +kernel
theorem dX12_back_21 : decode cX12_back 21 = .ok (.ifCond .ne 6, 3) := by decide +kernel
theorem dX12_back_24 : decode cX12_back 24 = .ok (.bipush (-2), 2) := by decide +kernel
theorem dX12_back_26 : decode cX12_back 26 = .ok (.ireturn, 1) := by decide +kernel
theorem dX12_back_27 : decode cX12_back 27 = .ok (.iconst 0, 1) := by decide +kernel
theorem dX12_back_28 : decode cX12_back 28 = .ok (.istore_n 2, 1) := by decide +kernel
theorem dX12_back_29 : decode cX12_back 29 = .ok (.iload_n 2, 1) := by decide +kernel
theorem dX12_back_30 : decode cX12_back 30 = .ok (.bipush 50, 2) := by decide +kernel
theorem dX12_back_32 : decode cX12_back 32 = .ok (.if_icmp .ge 28, 3) := by decide +kernel
theorem dX12_back_35 : decode cX12_back 35 = .ok (.aload_n 0, 1) := by decide +kernel
theorem dX12_back_36 : decode cX12_back 36 = .ok (.getfield 19, 3) := by decide +kernel
theorem dX12_back_39 : decode cX12_back 39 = .ok (.iload_n 2, 1) := by decide +kernel
theorem dX12_back_40 : decode cX12_back 40 = .ok (.aload_n 0, 1) := by decide +kernel
theorem dX12_back_41 : decode cX12_back 41 = .ok (.getfield 37, 3) := by decide +kernel
theorem dX12_back_44 : decode cX12_back 44 = .ok (.bipush 51, 2) := by decide +kernel
theorem dX12_back_46 : decode cX12_back 46 = .ok (.iload_n 1, 1) := by decide +kernel
theorem dX12_back_47 : decode cX12_back 47 = .ok (.imul, 1) := by decide +kernel
theorem dX12_back_48 : decode cX12_back 48 = .ok (.iconst 1, 1) := by decide +kernel
theorem dX12_back_49 : decode cX12_back 49 = .ok (.iadd, 1) := by decide +kernel
theorem dX12_back_50 : decode cX12_back 50 = .ok (.iload_n 2, 1) := by decide +kernel
theorem dX12_back_51 : decode cX12_back 51 = .ok (.iadd, 1) := by decide +kernel
theorem dX12_back_52 : decode cX12_back 52 = .ok (.iaload, 1) := by decide +kernel
theorem dX12_back_53 : decode cX12_back 53 = .ok (.iastore, 1) := by decide +kernel
theorem dX12_back_54 : decode cX12_back 54 = .ok (.iinc 2 1, 3) := by decide +kernel
theorem dX12_back_57 : decode cX12_back 57 = .ok (.goto (-28), 3) := by decide +kernel
theorem dX12_back_60 : decode cX12_back 60 = .ok (.aload_n 0, 1) := by decide +kernel
theorem dX12_back_61 : decode cX12_back 61 = .ok (.iconst 0, 1) := by decide +kernel
theorem dX12_back_62 : decode cX12_back 62 = .ok (.putfield 96, 3) := by decide +kernel
theorem dX12_back_65 : decode cX12_back 65 = .ok (.aload_n 0, 1) := by decide +kernel
theorem dX12_back_66 : decode cX12_back 66 = .ok (.getfield 19, 3) := by decide +kernel
theorem dX12_back_69 : decode cX12_back 69 = .ok (.iconst 0, 1) := by decide +kernel
theorem dX12_back_70 : decode cX12_back 70 = .ok (.iaload, 1) := by decide +kernel
theorem dX12_back_71 : decode cX12_back 71 = .ok (.ireturn, 1) := by decide +kernel
theorem dX12_count_0 : decode cX12_count 0 = .ok (.iload_n 1, 1) := by decide +kernel
theorem dX12_count_1 : decode cX12_count 1 = .ok (.tableswitch 48 0 3 #[31, 31, 38, 43], 31) := by decide +kernel
theorem dX12_count_32 : decode cX12_count 32 = .ok (.aload_n 0, 1) := by decide +kernel
theorem dX12_count_33 : decode cX12_count 33 = .ok (.getfield 16, 3) := by decide +kernel
theorem dX12_count_36 : decode cX12_count 36 = .ok (.iload_n 1, 1) := by decide +kernel
theorem dX12_count_37 : decode cX12_count 37 = .ok (.iaload, 1) := by decide +kernel
theorem dX12_count_38 : decode cX12_count 38 = .ok (.ireturn, 1) := by decide +kernel
theorem dX12_count_39 : decode cX12_count 39 = .ok (.aload_n 0, 1) := by decide +kernel
theorem dX12_count_40 : decode cX12_count 40 = .ok (.getfield 93, 3) := by decide +kernel
theorem dX12_count_43 : decode cX12_count 43 = .ok (.ireturn, 1) := by decide +kernel
theorem dX12_count_44 : decode cX12_count 44 = .ok (.aload_n 0, 1) := by decide +kernel
theorem dX12_count_45 : decode cX12_count 45 = .ok (.getfield 52, 3) := by decide +kernel
theorem dX12_count_48 : decode cX12_count 48 = .ok (.ireturn, 1) := by decide +kernel
theorem dX12_count_49 : decode cX12_count 49 = .ok (.iconst (-1), 1) := by decide +kernel
theorem dX12_count_50 : decode cX12_count 50 = .ok (.ireturn, 1) := by decide +kernel
theorem dJ6_bitCount_0f7a4_0 : decode cJ6_bitCount_0f7a4 0 = .ok (.iload_n 0, 1) := by decide +kernel
theorem dJ6_bitCount_0f7a4_1 : decode cJ6_bitCount_0f7a4 1 = .ok (.iload_n 0, 1) := by decide +kernel
theorem dJ6_bitCount_0f7a4_2 : decode cJ6_bitCount_0f7a4 2 = .ok (.iconst 1, 1) := by decide +kernel
theorem dJ6_bitCount_0f7a4_3 : decode cJ6_bitCount_0f7a4 3 = .ok (.iushr, 1) := by decide +kernel
theorem dJ6_bitCount_0f7a4_4 : decode cJ6_bitCount_0f7a4 4 = .ok (.ldc_w 265, 3) := by decide +kernel
theorem dJ6_bitCount_0f7a4_7 : decode cJ6_bitCount_0f7a4 7 = .ok (.iand, 1) := by decide +kernel
theorem dJ6_bitCount_0f7a4_8 : decode cJ6_bitCount_0f7a4 8 = .ok (.isub, 1) := by decide +kernel
theorem dJ6_bitCount_0f7a4_9 : decode cJ6_bitCount_0f7a4 9 = .ok (.istore_n 0, 1) := by decide +kernel
theorem dJ6_bitCount_0f7a4_10 : decode cJ6_bitCount_0f7a4 10 = .ok (.iload_n 0, 1) := by decide +kernel
theorem dJ6_bitCount_0f7a4_11 : decode cJ6_bitCount_0f7a4 11 = .ok (.ldc_w 266, 3) := by decide +kernel
theorem dJ6_bitCount_0f7a4_14 : decode cJ6_bitCount_0f7a4 14 = .ok (.iand, 1) := by decide +kernel
theorem dJ6_bitCount_0f7a4_15 : decode cJ6_bitCount_0f7a4 15 = .ok (.iload_n 0, 1) := by decide +kernel
theorem dJ6_bitCount_0f7a4_16 : decode cJ6_bitCount_0f7a4 16 = .ok (.iconst 2, 1) := by decide +kernel
theorem dJ6_bitCount_0f7a4_17 : decode cJ6_bitCount_0f7a4 17 = .ok (.iushr, 1) := by decide +kernel
theorem dJ6_bitCount_0f7a4_18 : decode cJ6_bitCount_0f7a4 18 = .ok (.ldc_w 266, 3) := by decide +kernel
theorem dJ6_bitCount_0f7a4_21 : decode cJ6_bitCount_0f7a4 21 = .ok (.iand, 1) := by decide +kernel
theorem dJ6_bitCount_0f7a4_22 : decode cJ6_bitCount_0f7a4 22 = .ok (.iadd, 1) := by decide +kernel
theorem dJ6_bitCount_0f7a4_23 : decode cJ6_bitCount_0f7a4 23 = .ok (.istore_n 0, 1) := by decide +kernel
theorem dJ6_bitCount_0f7a4_24 : decode cJ6_bitCount_0f7a4 24 = .ok (.iload_n 0, 1) := by decide +kernel
theorem dJ6_bitCount_0f7a4_25 : decode cJ6_bitCount_0f7a4 25 = .ok (.iload_n 0, 1) := by decide +kernel
theorem dJ6_bitCount_0f7a4_26 : decode cJ6_bitCount_0f7a4 26 = .ok (.iconst 4, 1) := by decide +kernel
theorem dJ6_bitCount_0f7a4_27 : decode cJ6_bitCount_0f7a4 27 = .ok (.iushr, 1) := by decide +kernel
theorem dJ6_bitCount_0f7a4_28 : decode cJ6_bitCount_0f7a4 28 = .ok (.iadd, 1) := by decide +kernel
theorem dJ6_bitCount_0f7a4_29 : decode cJ6_bitCount_0f7a4 29 = .ok (.ldc_w 267, 3) := by decide +kernel
theorem dJ6_bitCount_0f7a4_32 : decode cJ6_bitCount_0f7a4 32 = .ok (.iand, 1) := by decide +kernel
theorem dJ6_bitCount_0f7a4_33 : decode cJ6_bitCount_0f7a4 33 = .ok (.istore_n 0, 1) := by decide +kernel
theorem dJ6_bitCount_0f7a4_34 : decode cJ6_bitCount_0f7a4 34 = .ok (.iload_n 0, 1) := by decide +kernel
theorem dJ6_bitCount_0f7a4_35 : decode cJ6_bitCount_0f7a4 35 = .ok (.iload_n 0, 1) := by decide +kernel
theorem dJ6_bitCount_0f7a4_36 : decode cJ6_bitCount_0f7a4 36 = .ok (.bipush 8, 2) := by decide +kernel
theorem dJ6_bitCount_0f7a4_38 : decode cJ6_bitCount_0f7a4 38 = .ok (.iushr, 1) := by decide +kernel
theorem dJ6_bitCount_0f7a4_39 : decode cJ6_bitCount_0f7a4 39 = .ok (.iadd, 1) := by decide +kernel
theorem dJ6_bitCount_0f7a4_40 : decode cJ6_bitCount_0f7a4 40 = .ok (.istore_n 0, 1) := by decide +kernel
theorem dJ6_bitCount_0f7a4_41 : decode cJ6_bitCount_0f7a4 41 = .ok (.iload_n 0, 1) := by decide +kernel
theorem dJ6_bitCount_0f7a4_42 : decode cJ6_bitCount_0f7a4 42 = .ok (.iload_n 0, 1) := by decide +kernel
theorem dJ6_bitCount_0f7a4_43 : decode cJ6_bitCount_0f7a4 43 = .ok (.bipush 16, 2) := by decide +kernel
theorem dJ6_bitCount_0f7a4_45 : decode cJ6_bitCount_0f7a4 45 = .ok (.iushr, 1) := by decide +kernel
theorem dJ6_bitCount_0f7a4_46 : decode cJ6_bitCount_0f7a4 46 = .ok (.iadd, 1) := by decide +kernel
theorem dJ6_bitCount_0f7a4_47 : decode cJ6_bitCount_0f7a4 47 = .ok (.istore_n 0, 1) := by decide +kernel
theorem dJ6_bitCount_0f7a4_48 : decode cJ6_bitCount_0f7a4 48 = .ok (.iload_n 0, 1) := by decide +kernel
theorem dJ6_bitCount_0f7a4_49 : decode cJ6_bitCount_0f7a4 49 = .ok (.bipush 63, 2) := by decide +kernel
theorem dJ6_bitCount_0f7a4_51 : decode cJ6_bitCount_0f7a4 51 = .ok (.iand, 1) := by decide +kernel
theorem dJ6_bitCount_0f7a4_52 : decode cJ6_bitCount_0f7a4 52 = .ok (.ireturn, 1) := by decide +kernel
theorem dJ9_max_7cf53_0 : decode cJ9_max_7cf53 0 = .ok (.iload_n 0, 1) := by decide +kernel
theorem dJ9_max_7cf53_1 : decode cJ9_max_7cf53 1 = .ok (.iload_n 1, 1) := by decide +kernel
theorem dJ9_max_7cf53_2 : decode cJ9_max_7cf53 2 = .ok (.if_icmp .lt 7, 3) := by decide +kernel
theorem dJ9_max_7cf53_5 : decode cJ9_max_7cf53 5 = .ok (.iload_n 0, 1) := by decide +kernel
theorem dJ9_max_7cf53_6 : decode cJ9_max_7cf53 6 = .ok (.goto 4, 3) := by decide +kernel
theorem dJ9_max_7cf53_9 : decode cJ9_max_7cf53 9 = .ok (.iload_n 1, 1) := by decide +kernel
theorem dJ9_max_7cf53_10 : decode cJ9_max_7cf53 10 = .ok (.ireturn, 1) := by decide +kernel
theorem dJ9_min_7cf53_0 : decode cJ9_min_7cf53 0 = .ok (.iload_n 0, 1) := by decide +kernel
theorem dJ9_min_7cf53_1 : decode cJ9_min_7cf53 1 = .ok (.iload_n 1, 1) := by decide +kernel
theorem dJ9_min_7cf53_2 : decode cJ9_min_7cf53 2 = .ok (.if_icmp .gt 7, 3) := by decide +kernel
theorem dJ9_min_7cf53_5 : decode cJ9_min_7cf53 5 = .ok (.iload_n 0, 1) := by decide +kernel
theorem dJ9_min_7cf53_6 : decode cJ9_min_7cf53 6 = .ok (.goto 4, 3) := by decide +kernel
theorem dJ9_min_7cf53_9 : decode cJ9_min_7cf53 9 = .ok (.iload_n 1, 1) := by decide +kernel
theorem dJ9_min_7cf53_10 : decode cJ9_min_7cf53 10 = .ok (.ireturn, 1) := by decide +kernel
theorem dJ7_fill_53178_0 : decode cJ7_fill_53178 0 = .ok (.iconst 0, 1) := by decide +kernel
theorem dJ7_fill_53178_1 : decode cJ7_fill_53178 1 = .ok (.istore_n 2, 1) := by decide +kernel
theorem dJ7_fill_53178_2 : decode cJ7_fill_53178 2 = .ok (.aload_n 0, 1) := by decide +kernel
theorem dJ7_fill_53178_3 : decode cJ7_fill_53178 3 = .ok (.arraylength, 1) := by decide +kernel
theorem dJ7_fill_53178_4 : decode cJ7_fill_53178 4 = .ok (.istore_n 3, 1) := by decide +kernel
theorem dJ7_fill_53178_5 : decode cJ7_fill_53178 5 = .ok (.iload_n 2, 1) := by decide +kernel
theorem dJ7_fill_53178_6 : decode cJ7_fill_53178 6 = .ok (.iload_n 3, 1) := by decide +kernel
theorem dJ7_fill_53178_7 : decode cJ7_fill_53178 7 = .ok (.if_icmp .ge 13, 3) := by decide +kernel
theorem dJ7_fill_53178_10 : decode cJ7_fill_53178 10 = .ok (.aload_n 0, 1) := by decide +kernel
theorem dJ7_fill_53178_11 : decode cJ7_fill_53178 11 = .ok (.iload_n 2, 1) := by decide +kernel
theorem dJ7_fill_53178_12 : decode cJ7_fill_53178 12 = .ok (.iload_n 1, 1) := by decide +kernel
theorem dJ7_fill_53178_13 : decode cJ7_fill_53178 13 = .ok (.iastore, 1) := by decide +kernel
theorem dJ7_fill_53178_14 : decode cJ7_fill_53178 14 = .ok (.iinc 2 1, 3) := by decide +kernel
theorem dJ7_fill_53178_17 : decode cJ7_fill_53178 17 = .ok (.goto (-12), 3) := by decide +kernel
theorem dJ7_fill_53178_20 : decode cJ7_fill_53178 20 = .ok (.return_, 1) := by decide +kernel
theorem dL_law_0 : decode cL_law 0 = .ok (.new 7, 3) := by decide +kernel
theorem dL_law_3 : decode cL_law 3 = .ok (.dup, 1) := by decide +kernel
theorem dL_law_4 : decode cL_law 4 = .ok (.invokespecial 9, 3) := by decide +kernel
theorem dL_law_7 : decode cL_law 7 = .ok (.astore_n 1, 1) := by decide +kernel
theorem dL_law_8 : decode cL_law 8 = .ok (.new 10, 3) := by decide +kernel
theorem dL_law_11 : decode cL_law 11 = .ok (.dup, 1) := by decide +kernel
theorem dL_law_12 : decode cL_law 12 = .ok (.invokespecial 12, 3) := by decide +kernel
theorem dL_law_15 : decode cL_law 15 = .ok (.astore_n 2, 1) := by decide +kernel
theorem dL_law_16 : decode cL_law 16 = .ok (.iconst 0, 1) := by decide +kernel
theorem dL_law_17 : decode cL_law 17 = .ok (.istore_n 3, 1) := by decide +kernel
theorem dL_law_18 : decode cL_law 18 = .ok (.iload_n 3, 1) := by decide +kernel
theorem dL_law_19 : decode cL_law 19 = .ok (.aload_n 0, 1) := by decide +kernel
theorem dL_law_20 : decode cL_law 20 = .ok (.arraylength, 1) := by decide +kernel
theorem dL_law_21 : decode cL_law 21 = .ok (.iconst 5, 1) := by decide +kernel
theorem dL_law_22 : decode cL_law 22 = .ok (.isub, 1) := by decide +kernel
theorem dL_law_23 : decode cL_law 23 = .ok (.if_icmp .gt 923, 3) := by decide +kernel
theorem dL_law_26 : decode cL_law 26 = .ok (.aload_n 0, 1) := by decide +kernel
theorem dL_law_27 : decode cL_law 27 = .ok (.iload_n 3, 1) := by decide +kernel
theorem dL_law_28 : decode cL_law 28 = .ok (.iaload, 1) := by decide +kernel
theorem dL_law_29 : decode cL_law 29 = .ok (.bipush 31, 2) := by decide +kernel
theorem dL_law_31 : decode cL_law 31 = .ok (.iand, 1) := by decide +kernel
theorem dL_law_32 : decode cL_law 32 = .ok (.tableswitch 908 0 29 #[136, 159, 172, 185, 218, 241, 274, 307, 330, 363, 386, 409, 442, 465, 478, 511, 534, 567, 590, 603, 616, 659, 702, 715, 738, 792, 825, 848, 871, 894], 136) := by decide +kernel
theorem dL_law_168 : decode cL_law 168 = .ok (.aload_n 1, 1) := by decide +kernel
theorem dL_law_169 : decode cL_law 169 = .ok (.aload_n 0, 1) := by decide +kernel
theorem dL_law_170 : decode cL_law 170 = .ok (.iload_n 3, 1) := by decide +kernel
theorem dL_law_171 : decode cL_law 171 = .ok (.iconst 1, 1) := by decide +kernel
theorem dL_law_172 : decode cL_law 172 = .ok (.iadd, 1) := by decide +kernel
theorem dL_law_173 : decode cL_law 173 = .ok (.iaload, 1) := by decide +kernel
theorem dL_law_174 : decode cL_law 174 = .ok (.invokevirtual 13, 3) := by decide +kernel
theorem dL_law_177 : decode cL_law 177 = .ok (.aload_n 2, 1) := by decide +kernel
theorem dL_law_178 : decode cL_law 178 = .ok (.aload_n 0, 1) := by decide +kernel
theorem dL_law_179 : decode cL_law 179 = .ok (.iload_n 3, 1) := by decide +kernel
theorem dL_law_180 : decode cL_law 180 = .ok (.iconst 1, 1) := by decide +kernel
theorem dL_law_181 : decode cL_law 181 = .ok (.iadd, 1) := by decide +kernel
theorem dL_law_182 : decode cL_law 182 = .ok (.iaload, 1) := by decide +kernel
theorem dL_law_183 : decode cL_law 183 = .ok (.invokevirtual 17, 3) := by decide +kernel
theorem dL_law_186 : decode cL_law 186 = .ok (.if_icmp .eq 754, 3) := by decide +kernel
theorem dL_law_189 : decode cL_law 189 = .ok (.iconst 0, 1) := by decide +kernel
theorem dL_law_190 : decode cL_law 190 = .ok (.ireturn, 1) := by decide +kernel
theorem dL_law_191 : decode cL_law 191 = .ok (.aload_n 1, 1) := by decide +kernel
theorem dL_law_192 : decode cL_law 192 = .ok (.invokevirtual 18, 3) := by decide +kernel
theorem dL_law_195 : decode cL_law 195 = .ok (.aload_n 2, 1) := by decide +kernel
theorem dL_law_196 : decode cL_law 196 = .ok (.invokevirtual 22, 3) := by decide +kernel
theorem dL_law_199 : decode cL_law 199 = .ok (.if_icmp .eq 741, 3) := by decide +kernel
theorem dL_law_202 : decode cL_law 202 = .ok (.iconst 0, 1) := by decide +kernel
theorem dL_law_203 : decode cL_law 203 = .ok (.ireturn, 1) := by decide +kernel
theorem dL_law_204 : decode cL_law 204 = .ok (.aload_n 1, 1) := by decide +kernel
theorem dL_law_205 : decode cL_law 205 = .ok (.invokevirtual 23, 3) := by decide +kernel
theorem dL_law_208 : decode cL_law 208 = .ok (.aload_n 2, 1) := by decide +kernel
theorem dL_law_209 : decode cL_law 209 = .ok (.invokevirtual 26, 3) := by decide +kernel
theorem dL_law_212 : decode cL_law 212 = .ok (.if_icmp .eq 728, 3) := by decide +kernel
theorem dL_law_215 : decode cL_law 215 = .ok (.iconst 0, 1) := by decide +kernel
theorem dL_law_216 : decode cL_law 216 = .ok (.ireturn, 1) := by decide +kernel
theorem dL_law_217 : decode cL_law 217 = .ok (.aload_n 1, 1) := by decide +kernel
theorem dL_law_218 : decode cL_law 218 = .ok (.aload_n 0, 1) := by decide +kernel
theorem dL_law_219 : decode cL_law 219 = .ok (.iload_n 3, 1) := by decide +kernel
theorem dL_law_220 : decode cL_law 220 = .ok (.iconst 1, 1) := by decide +kernel
theorem dL_law_221 : decode cL_law 221 = .ok (.iadd, 1) := by decide +kernel
theorem dL_law_222 : decode cL_law 222 = .ok (.iaload, 1) := by decide +kernel
theorem dL_law_223 : decode cL_law 223 = .ok (.aload_n 0, 1) := by decide +kernel
theorem dL_law_224 : decode cL_law 224 = .ok (.iload_n 3, 1) := by decide +kernel
theorem dL_law_225 : decode cL_law 225 = .ok (.iconst 2, 1) := by decide +kernel
theorem dL_law_226 : decode cL_law 226 = .ok (.iadd, 1) := by decide +kernel
theorem dL_law_227 : decode cL_law 227 = .ok (.iaload, 1) := by decide +kernel
theorem dL_law_228 : decode cL_law 228 = .ok (.invokevirtual 27, 3) := by decide +kernel
theorem dL_law_231 : decode cL_law 231 = .ok (.aload_n 2, 1) := by decide +kernel
theorem dL_law_232 : decode cL_law 232 = .ok (.aload_n 0, 1) := by decide +kernel
theorem dL_law_233 : decode cL_law 233 = .ok (.iload_n 3, 1) := by decide +kernel
theorem dL_law_234 : decode cL_law 234 = .ok (.iconst 1, 1) := by decide +kernel
theorem dL_law_235 : decode cL_law 235 = .ok (.iadd, 1) := by decide +kernel
theorem dL_law_236 : decode cL_law 236 = .ok (.iaload, 1) := by decide +kernel
theorem dL_law_237 : decode cL_law 237 = .ok (.aload_n 0, 1) := by decide +kernel
theorem dL_law_238 : decode cL_law 238 = .ok (.iload_n 3, 1) := by decide +kernel
theorem dL_law_239 : decode cL_law 239 = .ok (.iconst 2, 1) := by decide +kernel
theorem dL_law_240 : decode cL_law 240 = .ok (.iadd, 1) := by decide +kernel
theorem dL_law_241 : decode cL_law 241 = .ok (.iaload, 1) := by decide +kernel
theorem dL_law_242 : decode cL_law 242 = .ok (.invokevirtual 31, 3) := by decide +kernel
theorem dL_law_245 : decode cL_law 245 = .ok (.if_icmp .eq 695, 3) := by decide +kernel
theorem dL_law_248 : decode cL_law 248 = .ok (.iconst 0, 1) := by decide +kernel
theorem dL_law_249 : decode cL_law 249 = .ok (.ireturn, 1) := by decide +kernel
theorem dL_law_250 : decode cL_law 250 = .ok (.aload_n 1, 1) := by decide +kernel
theorem dL_law_251 : decode cL_law 251 = .ok (.aload_n 0, 1) := by decide +kernel
theorem dL_law_252 : decode cL_law 252 = .ok (.iload_n 3, 1) := by decide +kernel
theorem dL_law_253 : decode cL_law 253 = .ok (.iconst 1, 1) := by decide +kernel
theorem dL_law_254 : decode cL_law 254 = .ok (.iadd, 1) := by decide +kernel
theorem dL_law_255 : decode cL_law 255 = .ok (.iaload, 1) := by decide +kernel
theorem dL_law_256 : decode cL_law 256 = .ok (.invokevirtual 32, 3) := by decide +kernel
theorem dL_law_259 : decode cL_law 259 = .ok (.aload_n 2, 1) := by decide +kernel
theorem dL_law_260 : decode cL_law 260 = .ok (.aload_n 0, 1) := by decide +kernel
theorem dL_law_261 : decode cL_law 261 = .ok (.iload_n 3, 1) := by decide +kernel
theorem dL_law_262 : decode cL_law 262 = .ok (.iconst 1, 1) := by decide +kernel
theorem dL_law_263 : decode cL_law 263 = .ok (.iadd, 1) := by decide +kernel
theorem dL_law_264 : decode cL_law 264 = .ok (.iaload, 1) := by decide +kernel
theorem dL_law_265 : decode cL_law 265 = .ok (.invokevirtual 35, 3) := by decide +kernel
theorem dL_law_268 : decode cL_law 268 = .ok (.if_icmp .eq 672, 3) := by decide +kernel
theorem dL_law_271 : decode cL_law 271 = .ok (.iconst 0, 1) := by decide +kernel
theorem dL_law_272 : decode cL_law 272 = .ok (.ireturn, 1) := by decide +kernel
theorem dL_law_273 : decode cL_law 273 = .ok (.aload_n 1, 1) := by decide +kernel
theorem dL_law_274 : decode cL_law 274 = .ok (.aload_n 0, 1) := by decide +kernel
theorem dL_law_275 : decode cL_law 275 = .ok (.iload_n 3, 1) := by decide +kernel
theorem dL_law_276 : decode cL_law 276 = .ok (.iconst 1, 1) := by decide +kernel
theorem dL_law_277 : decode cL_law 277 = .ok (.iadd, 1) := by decide +kernel
theorem dL_law_278 : decode cL_law 278 = .ok (.iaload, 1) := by decide +kernel
theorem dL_law_279 : decode cL_law 279 = .ok (.aload_n 0, 1) := by decide +kernel
theorem dL_law_280 : decode cL_law 280 = .ok (.iload_n 3, 1) := by decide +kernel
theorem dL_law_281 : decode cL_law 281 = .ok (.iconst 2, 1) := by decide +kernel
theorem dL_law_282 : decode cL_law 282 = .ok (.iadd, 1) := by decide +kernel
theorem dL_law_283 : decode cL_law 283 = .ok (.iaload, 1) := by decide +kernel
theorem dL_law_284 : decode cL_law 284 = .ok (.invokevirtual 36, 3) := by decide +kernel
theorem dL_law_287 : decode cL_law 287 = .ok (.aload_n 2, 1) := by decide +kernel
theorem dL_law_288 : decode cL_law 288 = .ok (.aload_n 0, 1) := by decide +kernel
theorem dL_law_289 : decode cL_law 289 = .ok (.iload_n 3, 1) := by decide +kernel
theorem dL_law_290 : decode cL_law 290 = .ok (.iconst 1, 1) := by decide +kernel
theorem dL_law_291 : decode cL_law 291 = .ok (.iadd, 1) := by decide +kernel
theorem dL_law_292 : decode cL_law 292 = .ok (.iaload, 1) := by decide +kernel
theorem dL_law_293 : decode cL_law 293 = .ok (.aload_n 0, 1) := by decide +kernel
theorem dL_law_294 : decode cL_law 294 = .ok (.iload_n 3, 1) := by decide +kernel
theorem dL_law_295 : decode cL_law 295 = .ok (.iconst 2, 1) := by decide +kernel
theorem dL_law_296 : decode cL_law 296 = .ok (.iadd, 1) := by decide +kernel
theorem dL_law_297 : decode cL_law 297 = .ok (.iaload, 1) := by decide +kernel
theorem dL_law_298 : decode cL_law 298 = .ok (.invokevirtual 39, 3) := by decide +kernel
theorem dL_law_301 : decode cL_law 301 = .ok (.if_icmp .eq 639, 3) := by decide +kernel
theorem dL_law_304 : decode cL_law 304 = .ok (.iconst 0, 1) := by decide +kernel
theorem dL_law_305 : decode cL_law 305 = .ok (.ireturn, 1) := by decide +kernel
theorem dL_law_306 : decode cL_law 306 = .ok (.aload_n 1, 1) := by decide +kernel
theorem dL_law_307 : decode cL_law 307 = .ok (.aload_n 0, 1) := by decide +kernel
theorem dL_law_308 : decode cL_law 308 = .ok (.iload_n 3, 1) := by decide +kernel
theorem dL_law_309 : decode cL_law 309 = .ok (.iconst 1, 1) := by decide +kernel
theorem dL_law_310 : decode cL_law 310 = .ok (.iadd, 1) := by decide +kernel
theorem dL_law_311 : decode cL_law 311 = .ok (.iaload, 1) := by decide +kernel
theorem dL_law_312 : decode cL_law 312 = .ok (.aload_n 0, 1) := by decide +kernel
theorem dL_law_313 : decode cL_law 313 = .ok (.iload_n 3, 1) := by decide +kernel
theorem dL_law_314 : decode cL_law 314 = .ok (.iconst 2, 1) := by decide +kernel
theorem dL_law_315 : decode cL_law 315 = .ok (.iadd, 1) := by decide +kernel
theorem dL_law_316 : decode cL_law 316 = .ok (.iaload, 1) := by decide +kernel
theorem dL_law_317 : decode cL_law 317 = .ok (.invokevirtual 40, 3) := by decide +kernel
theorem dL_law_320 : decode cL_law 320 = .ok (.aload_n 2, 1) := by decide +kernel
theorem dL_law_321 : decode cL_law 321 = .ok (.aload_n 0, 1) := by decide +kernel
theorem dL_law_322 : decode cL_law 322 = .ok (.iload_n 3, 1) := by decide +kernel
theorem dL_law_323 : decode cL_law 323 = .ok (.iconst 1, 1) := by decide +kernel
theorem dL_law_324 : decode cL_law 324 = .ok (.iadd, 1) := by decide +kernel
theorem dL_law_325 : decode cL_law 325 = .ok (.iaload, 1) := by decide +kernel
theorem dL_law_326 : decode cL_law 326 = .ok (.aload_n 0, 1) := by decide +kernel
theorem dL_law_327 : decode cL_law 327 = .ok (.iload_n 3, 1) := by decide +kernel
theorem dL_law_328 : decode cL_law 328 = .ok (.iconst 2, 1) := by decide +kernel
theorem dL_law_329 : decode cL_law 329 = .ok (.iadd, 1) := by decide +kernel
theorem dL_law_330 : decode cL_law 330 = .ok (.iaload, 1) := by decide +kernel
theorem dL_law_331 : decode cL_law 331 = .ok (.invokevirtual 43, 3) := by decide +kernel
theorem dL_law_334 : decode cL_law 334 = .ok (.if_icmp .eq 606, 3) := by decide +kernel
theorem dL_law_337 : decode cL_law 337 = .ok (.iconst 0, 1) := by decide +kernel
theorem dL_law_338 : decode cL_law 338 = .ok (.ireturn, 1) := by decide +kernel
theorem dL_law_339 : decode cL_law 339 = .ok (.aload_n 1, 1) := by decide +kernel
theorem dL_law_340 : decode cL_law 340 = .ok (.aload_n 0, 1) := by decide +kernel
theorem dL_law_341 : decode cL_law 341 = .ok (.iload_n 3, 1) := by decide +kernel
theorem dL_law_342 : decode cL_law 342 = .ok (.iconst 1, 1) := by decide +kernel
theorem dL_law_343 : decode cL_law 343 = .ok (.iadd, 1) := by decide +kernel
theorem dL_law_344 : decode cL_law 344 = .ok (.iaload, 1) := by decide +kernel
theorem dL_law_345 : decode cL_law 345 = .ok (.invokevirtual 44, 3) := by decide +kernel
theorem dL_law_348 : decode cL_law 348 = .ok (.aload_n 2, 1) := by decide +kernel
theorem dL_law_349 : decode cL_law 349 = .ok (.aload_n 0, 1) := by decide +kernel
theorem dL_law_350 : decode cL_law 350 = .ok (.iload_n 3, 1) := by decide +kernel
theorem dL_law_351 : decode cL_law 351 = .ok (.iconst 1, 1) := by decide +kernel
theorem dL_law_352 : decode cL_law 352 = .ok (.iadd, 1) := by decide +kernel
theorem dL_law_353 : decode cL_law 353 = .ok (.iaload, 1) := by decide +kernel
theorem dL_law_354 : decode cL_law 354 = .ok (.invokevirtual 47, 3) := by decide +kernel
theorem dL_law_357 : decode cL_law 357 = .ok (.if_icmp .eq 583, 3) := by decide +kernel
theorem dL_law_360 : decode cL_law 360 = .ok (.iconst 0, 1) := by decide +kernel
theorem dL_law_361 : decode cL_law 361 = .ok (.ireturn, 1) := by decide +kernel
theorem dL_law_362 : decode cL_law 362 = .ok (.aload_n 1, 1) := by decide +kernel
theorem dL_law_363 : decode cL_law 363 = .ok (.aload_n 0, 1) := by decide +kernel
theorem dL_law_364 : decode cL_law 364 = .ok (.iload_n 3, 1) := by decide +kernel
theorem dL_law_365 : decode cL_law 365 = .ok (.iconst 1, 1) := by decide +kernel
theorem dL_law_366 : decode cL_law 366 = .ok (.iadd, 1) := by decide +kernel
theorem dL_law_367 : decode cL_law 367 = .ok (.iaload, 1) := by decide +kernel
theorem dL_law_368 : decode cL_law 368 = .ok (.aload_n 0, 1) := by decide +kernel
theorem dL_law_369 : decode cL_law 369 = .ok (.iload_n 3, 1) := by decide +kernel
theorem dL_law_370 : decode cL_law 370 = .ok (.iconst 2, 1) := by decide +kernel
theorem dL_law_371 : decode cL_law 371 = .ok (.iadd, 1) := by decide +kernel
theorem dL_law_372 : decode cL_law 372 = .ok (.iaload, 1) := by decide +kernel
theorem dL_law_373 : decode cL_law 373 = .ok (.invokevirtual 48, 3) := by decide +kernel
theorem dL_law_376 : decode cL_law 376 = .ok (.aload_n 2, 1) := by decide +kernel
theorem dL_law_377 : decode cL_law 377 = .ok (.aload_n 0, 1) := by decide +kernel
theorem dL_law_378 : decode cL_law 378 = .ok (.iload_n 3, 1) := by decide +kernel
theorem dL_law_379 : decode cL_law 379 = .ok (.iconst 1, 1) := by decide +kernel
theorem dL_law_380 : decode cL_law 380 = .ok (.iadd, 1) := by decide +kernel
theorem dL_law_381 : decode cL_law 381 = .ok (.iaload, 1) := by decide +kernel
theorem dL_law_382 : decode cL_law 382 = .ok (.aload_n 0, 1) := by decide +kernel
theorem dL_law_383 : decode cL_law 383 = .ok (.iload_n 3, 1) := by decide +kernel
theorem dL_law_384 : decode cL_law 384 = .ok (.iconst 2, 1) := by decide +kernel
theorem dL_law_385 : decode cL_law 385 = .ok (.iadd, 1) := by decide +kernel
theorem dL_law_386 : decode cL_law 386 = .ok (.iaload, 1) := by decide +kernel
theorem dL_law_387 : decode cL_law 387 = .ok (.invokevirtual 51, 3) := by decide +kernel
theorem dL_law_390 : decode cL_law 390 = .ok (.if_icmp .eq 550, 3) := by decide +kernel
theorem dL_law_393 : decode cL_law 393 = .ok (.iconst 0, 1) := by decide +kernel
theorem dL_law_394 : decode cL_law 394 = .ok (.ireturn, 1) := by decide +kernel
theorem dL_law_395 : decode cL_law 395 = .ok (.aload_n 1, 1) := by decide +kernel
theorem dL_law_396 : decode cL_law 396 = .ok (.aload_n 0, 1) := by decide +kernel
theorem dL_law_397 : decode cL_law 397 = .ok (.iload_n 3, 1) := by decide +kernel
theorem dL_law_398 : decode cL_law 398 = .ok (.iconst 1, 1) := by decide +kernel
theorem dL_law_399 : decode cL_law 399 = .ok (.iadd, 1) := by decide +kernel
theorem dL_law_400 : decode cL_law 400 = .ok (.iaload, 1) := by decide +kernel
theorem dL_law_401 : decode cL_law 401 = .ok (.invokevirtual 52, 3) := by decide +kernel
theorem dL_law_404 : decode cL_law 404 = .ok (.aload_n 2, 1) := by decide +kernel
theorem dL_law_405 : decode cL_law 405 = .ok (.aload_n 0, 1) := by decide +kernel
theorem dL_law_406 : decode cL_law 406 = .ok (.iload_n 3, 1) := by decide +kernel
theorem dL_law_407 : decode cL_law 407 = .ok (.iconst 1, 1) := by decide +kernel
theorem dL_law_408 : decode cL_law 408 = .ok (.iadd, 1) := by decide +kernel
theorem dL_law_409 : decode cL_law 409 = .ok (.iaload, 1) := by decide +kernel
theorem dL_law_410 : decode cL_law 410 = .ok (.invokevirtual 55, 3) := by decide +kernel
theorem dL_law_413 : decode cL_law 413 = .ok (.if_icmp .eq 527, 3) := by decide +kernel
theorem dL_law_416 : decode cL_law 416 = .ok (.iconst 0, 1) := by decide +kernel
theorem dL_law_417 : decode cL_law 417 = .ok (.ireturn, 1) := by decide +kernel
theorem dL_law_418 : decode cL_law 418 = .ok (.aload_n 1, 1) := by decide +kernel
theorem dL_law_419 : decode cL_law 419 = .ok (.aload_n 0, 1) := by decide +kernel
theorem dL_law_420 : decode cL_law 420 = .ok (.iload_n 3, 1) := by decide +kernel
theorem dL_law_421 : decode cL_law 421 = .ok (.iconst 1, 1) := by decide +kernel
theorem dL_law_422 : decode cL_law 422 = .ok (.iadd, 1) := by decide +kernel
theorem dL_law_423 : decode cL_law 423 = .ok (.iaload, 1) := by decide +kernel
theorem dL_law_424 : decode cL_law 424 = .ok (.invokevirtual 56, 3) := by decide +kernel
theorem dL_law_427 : decode cL_law 427 = .ok (.aload_n 2, 1) := by decide +kernel
theorem dL_law_428 : decode cL_law 428 = .ok (.aload_n 0, 1) := by decide +kernel
theorem dL_law_429 : decode cL_law 429 = .ok (.iload_n 3, 1) := by decide +kernel
theorem dL_law_430 : decode cL_law 430 = .ok (.iconst 1, 1) := by decide +kernel
theorem dL_law_431 : decode cL_law 431 = .ok (.iadd, 1) := by decide +kernel
theorem dL_law_432 : decode cL_law 432 = .ok (.iaload, 1) := by decide +kernel
theorem dL_law_433 : decode cL_law 433 = .ok (.invokevirtual 59, 3) := by decide +kernel
theorem dL_law_436 : decode cL_law 436 = .ok (.if_icmp .eq 504, 3) := by decide +kernel
theorem dL_law_439 : decode cL_law 439 = .ok (.iconst 0, 1) := by decide +kernel
theorem dL_law_440 : decode cL_law 440 = .ok (.ireturn, 1) := by decide +kernel
theorem dL_law_441 : decode cL_law 441 = .ok (.aload_n 1, 1) := by decide +kernel
theorem dL_law_442 : decode cL_law 442 = .ok (.aload_n 0, 1) := by decide +kernel
theorem dL_law_443 : decode cL_law 443 = .ok (.iload_n 3, 1) := by decide +kernel
theorem dL_law_444 : decode cL_law 444 = .ok (.iconst 1, 1) := by decide +kernel
theorem dL_law_445 : decode cL_law 445 = .ok (.iadd, 1) := by decide +kernel
theorem dL_law_446 : decode cL_law 446 = .ok (.iaload, 1) := by decide +kernel
theorem dL_law_447 : decode cL_law 447 = .ok (.aload_n 0, 1) := by decide +kernel
theorem dL_law_448 : decode cL_law 448 = .ok (.iload_n 3, 1) := by decide +kernel
theorem dL_law_449 : decode cL_law 449 = .ok (.iconst 2, 1) := by decide +kernel
theorem dL_law_450 : decode cL_law 450 = .ok (.iadd, 1) := by decide +kernel
theorem dL_law_451 : decode cL_law 451 = .ok (.iaload, 1) := by decide +kernel
theorem dL_law_452 : decode cL_law 452 = .ok (.invokevirtual 60, 3) := by decide +kernel
theorem dL_law_455 : decode cL_law 455 = .ok (.aload_n 2, 1) := by decide +kernel
theorem dL_law_456 : decode cL_law 456 = .ok (.aload_n 0, 1) := by decide +kernel
theorem dL_law_457 : decode cL_law 457 = .ok (.iload_n 3, 1) := by decide +kernel
theorem dL_law_458 : decode cL_law 458 = .ok (.iconst 1, 1) := by decide +kernel
theorem dL_law_459 : decode cL_law 459 = .ok (.iadd, 1) := by decide +kernel
theorem dL_law_460 : decode cL_law 460 = .ok (.iaload, 1) := by decide +kernel
theorem dL_law_461 : decode cL_law 461 = .ok (.aload_n 0, 1) := by decide +kernel
theorem dL_law_462 : decode cL_law 462 = .ok (.iload_n 3, 1) := by decide +kernel
theorem dL_law_463 : decode cL_law 463 = .ok (.iconst 2, 1) := by decide +kernel
theorem dL_law_464 : decode cL_law 464 = .ok (.iadd, 1) := by decide +kernel
theorem dL_law_465 : decode cL_law 465 = .ok (.iaload, 1) := by decide +kernel
theorem dL_law_466 : decode cL_law 466 = .ok (.invokevirtual 63, 3) := by decide +kernel
theorem dL_law_469 : decode cL_law 469 = .ok (.if_icmp .eq 471, 3) := by decide +kernel
theorem dL_law_472 : decode cL_law 472 = .ok (.iconst 0, 1) := by decide +kernel
theorem dL_law_473 : decode cL_law 473 = .ok (.ireturn, 1) := by decide +kernel
theorem dL_law_474 : decode cL_law 474 = .ok (.aload_n 1, 1) := by decide +kernel
theorem dL_law_475 : decode cL_law 475 = .ok (.aload_n 0, 1) := by decide +kernel
theorem dL_law_476 : decode cL_law 476 = .ok (.iload_n 3, 1) := by decide +kernel
theorem dL_law_477 : decode cL_law 477 = .ok (.iconst 1, 1) := by decide +kernel
theorem dL_law_478 : decode cL_law 478 = .ok (.iadd, 1) := by decide +kernel
theorem dL_law_479 : decode cL_law 479 = .ok (.iaload, 1) := by decide +kernel
theorem dL_law_480 : decode cL_law 480 = .ok (.invokevirtual 64, 3) := by decide +kernel
theorem dL_law_483 : decode cL_law 483 = .ok (.aload_n 2, 1) := by decide +kernel
theorem dL_law_484 : decode cL_law 484 = .ok (.aload_n 0, 1) := by decide +kernel
theorem dL_law_485 : decode cL_law 485 = .ok (.iload_n 3, 1) := by decide +kernel
theorem dL_law_486 : decode cL_law 486 = .ok (.iconst 1, 1) := by decide +kernel
theorem dL_law_487 : decode cL_law 487 = .ok (.iadd, 1) := by decide +kernel
theorem dL_law_488 : decode cL_law 488 = .ok (.iaload, 1) := by decide +kernel
theorem dL_law_489 : decode cL_law 489 = .ok (.invokevirtual 67, 3) := by decide +kernel
theorem dL_law_492 : decode cL_law 492 = .ok (.if_icmp .eq 448, 3) := by decide +kernel
theorem dL_law_495 : decode cL_law 495 = .ok (.iconst 0, 1) := by decide +kernel
theorem dL_law_496 : decode cL_law 496 = .ok (.ireturn, 1) := by decide +kernel
theorem dL_law_497 : decode cL_law 497 = .ok (.aload_n 1, 1) := by decide +kernel
theorem dL_law_498 : decode cL_law 498 = .ok (.invokevirtual 68, 3) := by decide +kernel
theorem dL_law_501 : decode cL_law 501 = .ok (.aload_n 2, 1) := by decide +kernel
theorem dL_law_502 : decode cL_law 502 = .ok (.invokevirtual 71, 3) := by decide +kernel
theorem dL_law_505 : decode cL_law 505 = .ok (.if_icmp .eq 435, 3) := by decide +kernel
theorem dL_law_508 : decode cL_law 508 = .ok (.iconst 0, 1) := by decide +kernel
theorem dL_law_509 : decode cL_law 509 = .ok (.ireturn, 1) := by decide +kernel
theorem dL_law_510 : decode cL_law 510 = .ok (.aload_n 1, 1) := by decide +kernel
theorem dL_law_511 : decode cL_law 511 = .ok (.aload_n 0, 1) := by decide +kernel
theorem dL_law_512 : decode cL_law 512 = .ok (.iload_n 3, 1) := by decide +kernel
theorem dL_law_513 : decode cL_law 513 = .ok (.iconst 1, 1) := by decide +kernel
theorem dL_law_514 : decode cL_law 514 = .ok (.iadd, 1) := by decide +kernel
theorem dL_law_515 : decode cL_law 515 = .ok (.iaload, 1) := by decide +kernel
theorem dL_law_516 : decode cL_law 516 = .ok (.aload_n 0, 1) := by decide +kernel
theorem dL_law_517 : decode cL_law 517 = .ok (.iload_n 3, 1) := by decide +kernel
theorem dL_law_518 : decode cL_law 518 = .ok (.iconst 2, 1) := by decide +kernel
theorem dL_law_519 : decode cL_law 519 = .ok (.iadd, 1) := by decide +kernel
theorem dL_law_520 : decode cL_law 520 = .ok (.iaload, 1) := by decide +kernel
theorem dL_law_521 : decode cL_law 521 = .ok (.invokevirtual 72, 3) := by decide +kernel
theorem dL_law_524 : decode cL_law 524 = .ok (.aload_n 2, 1) := by decide +kernel
theorem dL_law_525 : decode cL_law 525 = .ok (.aload_n 0, 1) := by decide +kernel
theorem dL_law_526 : decode cL_law 526 = .ok (.iload_n 3, 1) := by decide +kernel
theorem dL_law_527 : decode cL_law 527 = .ok (.iconst 1, 1) := by decide +kernel
theorem dL_law_528 : decode cL_law 528 = .ok (.iadd, 1) := by decide +kernel
theorem dL_law_529 : decode cL_law 529 = .ok (.iaload, 1) := by decide +kernel
theorem dL_law_530 : decode cL_law 530 = .ok (.aload_n 0, 1) := by decide +kernel
theorem dL_law_531 : decode cL_law 531 = .ok (.iload_n 3, 1) := by decide +kernel
theorem dL_law_532 : decode cL_law 532 = .ok (.iconst 2, 1) := by decide +kernel
theorem dL_law_533 : decode cL_law 533 = .ok (.iadd, 1) := by decide +kernel
theorem dL_law_534 : decode cL_law 534 = .ok (.iaload, 1) := by decide +kernel
theorem dL_law_535 : decode cL_law 535 = .ok (.invokevirtual 75, 3) := by decide +kernel
theorem dL_law_538 : decode cL_law 538 = .ok (.if_icmp .eq 402, 3) := by decide +kernel
theorem dL_law_541 : decode cL_law 541 = .ok (.iconst 0, 1) := by decide +kernel
theorem dL_law_542 : decode cL_law 542 = .ok (.ireturn, 1) := by decide +kernel
theorem dL_law_543 : decode cL_law 543 = .ok (.aload_n 1, 1) := by decide +kernel
theorem dL_law_544 : decode cL_law 544 = .ok (.aload_n 0, 1) := by decide +kernel
theorem dL_law_545 : decode cL_law 545 = .ok (.iload_n 3, 1) := by decide +kernel
theorem dL_law_546 : decode cL_law 546 = .ok (.iconst 1, 1) := by decide +kernel
theorem dL_law_547 : decode cL_law 547 = .ok (.iadd, 1) := by decide +kernel
theorem dL_law_548 : decode cL_law 548 = .ok (.iaload, 1) := by decide +kernel
theorem dL_law_549 : decode cL_law 549 = .ok (.invokevirtual 76, 3) := by decide +kernel
theorem dL_law_552 : decode cL_law 552 = .ok (.aload_n 2, 1) := by decide +kernel
theorem dL_law_553 : decode cL_law 553 = .ok (.aload_n 0, 1) := by decide +kernel
theorem dL_law_554 : decode cL_law 554 = .ok (.iload_n 3, 1) := by decide +kernel
theorem dL_law_555 : decode cL_law 555 = .ok (.iconst 1, 1) := by decide +kernel
theorem dL_law_556 : decode cL_law 556 = .ok (.iadd, 1) := by decide +kernel
theorem dL_law_557 : decode cL_law 557 = .ok (.iaload, 1) := by decide +kernel
theorem dL_law_558 : decode cL_law 558 = .ok (.invokevirtual 79, 3) := by decide +kernel
theorem dL_law_561 : decode cL_law 561 = .ok (.if_icmp .eq 379, 3) := by decide +kernel
theorem dL_law_564 : decode cL_law 564 = .ok (.iconst 0, 1) := by decide +kernel
theorem dL_law_565 : decode cL_law 565 = .ok (.ireturn, 1) := by decide +kernel
theorem dL_law_566 : decode cL_law 566 = .ok (.aload_n 1, 1) := by decide +kernel
theorem dL_law_567 : decode cL_law 567 = .ok (.aload_n 0, 1) := by decide +kernel
theorem dL_law_568 : decode cL_law 568 = .ok (.iload_n 3, 1) := by decide +kernel
theorem dL_law_569 : decode cL_law 569 = .ok (.iconst 1, 1) := by decide +kernel
theorem dL_law_570 : decode cL_law 570 = .ok (.iadd, 1) := by decide +kernel
theorem dL_law_571 : decode cL_law 571 = .ok (.iaload, 1) := by decide +kernel
theorem dL_law_572 : decode cL_law 572 = .ok (.aload_n 0, 1) := by decide +kernel
theorem dL_law_573 : decode cL_law 573 = .ok (.iload_n 3, 1) := by decide +kernel
theorem dL_law_574 : decode cL_law 574 = .ok (.iconst 2, 1) := by decide +kernel
theorem dL_law_575 : decode cL_law 575 = .ok (.iadd, 1) := by decide +kernel
theorem dL_law_576 : decode cL_law 576 = .ok (.iaload, 1) := by decide +kernel
theorem dL_law_577 : decode cL_law 577 = .ok (.invokevirtual 80, 3) := by decide +kernel
theorem dL_law_580 : decode cL_law 580 = .ok (.aload_n 2, 1) := by decide +kernel
theorem dL_law_581 : decode cL_law 581 = .ok (.aload_n 0, 1) := by decide +kernel
theorem dL_law_582 : decode cL_law 582 = .ok (.iload_n 3, 1) := by decide +kernel
theorem dL_law_583 : decode cL_law 583 = .ok (.iconst 1, 1) := by decide +kernel
theorem dL_law_584 : decode cL_law 584 = .ok (.iadd, 1) := by decide +kernel
theorem dL_law_585 : decode cL_law 585 = .ok (.iaload, 1) := by decide +kernel
theorem dL_law_586 : decode cL_law 586 = .ok (.aload_n 0, 1) := by decide +kernel
theorem dL_law_587 : decode cL_law 587 = .ok (.iload_n 3, 1) := by decide +kernel
theorem dL_law_588 : decode cL_law 588 = .ok (.iconst 2, 1) := by decide +kernel
theorem dL_law_589 : decode cL_law 589 = .ok (.iadd, 1) := by decide +kernel
theorem dL_law_590 : decode cL_law 590 = .ok (.iaload, 1) := by decide +kernel
theorem dL_law_591 : decode cL_law 591 = .ok (.invokevirtual 83, 3) := by decide +kernel
theorem dL_law_594 : decode cL_law 594 = .ok (.if_icmp .eq 346, 3) := by decide +kernel
theorem dL_law_597 : decode cL_law 597 = .ok (.iconst 0, 1) := by decide +kernel
theorem dL_law_598 : decode cL_law 598 = .ok (.ireturn, 1) := by decide +kernel
theorem dL_law_599 : decode cL_law 599 = .ok (.aload_n 1, 1) := by decide +kernel
theorem dL_law_600 : decode cL_law 600 = .ok (.aload_n 0, 1) := by decide +kernel
theorem dL_law_601 : decode cL_law 601 = .ok (.iload_n 3, 1) := by decide +kernel
theorem dL_law_602 : decode cL_law 602 = .ok (.iconst 1, 1) := by decide +kernel
theorem dL_law_603 : decode cL_law 603 = .ok (.iadd, 1) := by decide +kernel
theorem dL_law_604 : decode cL_law 604 = .ok (.iaload, 1) := by decide +kernel
theorem dL_law_605 : decode cL_law 605 = .ok (.invokevirtual 84, 3) := by decide +kernel
theorem dL_law_608 : decode cL_law 608 = .ok (.aload_n 2, 1) := by decide +kernel
theorem dL_law_609 : decode cL_law 609 = .ok (.aload_n 0, 1) := by decide +kernel
theorem dL_law_610 : decode cL_law 610 = .ok (.iload_n 3, 1) := by decide +kernel
theorem dL_law_611 : decode cL_law 611 = .ok (.iconst 1, 1) := by decide +kernel
theorem dL_law_612 : decode cL_law 612 = .ok (.iadd, 1) := by decide +kernel
theorem dL_law_613 : decode cL_law 613 = .ok (.iaload, 1) := by decide +kernel
theorem dL_law_614 : decode cL_law 614 = .ok (.invokevirtual 87, 3) := by decide +kernel
theorem dL_law_617 : decode cL_law 617 = .ok (.if_icmp .eq 323, 3) := by decide +kernel
theorem dL_law_620 : decode cL_law 620 = .ok (.iconst 0, 1) := by decide +kernel
theorem dL_law_621 : decode cL_law 621 = .ok (.ireturn, 1) := by decide +kernel
theorem dL_law_622 : decode cL_law 622 = .ok (.aload_n 1, 1) := by decide +kernel
theorem dL_law_623 : decode cL_law 623 = .ok (.invokevirtual 88, 3) := by decide +kernel
theorem dL_law_626 : decode cL_law 626 = .ok (.aload_n 2, 1) := by decide +kernel
theorem dL_law_627 : decode cL_law 627 = .ok (.invokevirtual 91, 3) := by decide +kernel
theorem dL_law_630 : decode cL_law 630 = .ok (.if_icmp .eq 310, 3) := by decide +kernel
theorem dL_law_633 : decode cL_law 633 = .ok (.iconst 0, 1) := by decide +kernel
theorem dL_law_634 : decode cL_law 634 = .ok (.ireturn, 1) := by decide +kernel
theorem dL_law_635 : decode cL_law 635 = .ok (.aload_n 1, 1) := by decide +kernel
theorem dL_law_636 : decode cL_law 636 = .ok (.invokevirtual 92, 3) := by decide +kernel
theorem dL_law_639 : decode cL_law 639 = .ok (.aload_n 2, 1) := by decide +kernel
theorem dL_law_640 : decode cL_law 640 = .ok (.invokevirtual 95, 3) := by decide +kernel
theorem dL_law_643 : decode cL_law 643 = .ok (.if_icmp .eq 297, 3) := by decide +kernel
theorem dL_law_646 : decode cL_law 646 = .ok (.iconst 0, 1) := by decide +kernel
theorem dL_law_647 : decode cL_law 647 = .ok (.ireturn, 1) := by decide +kernel
theorem dL_law_648 : decode cL_law 648 = .ok (.aload_n 1, 1) := by decide +kernel
theorem dL_law_649 : decode cL_law 649 = .ok (.aload_n 0, 1) := by decide +kernel
theorem dL_law_650 : decode cL_law 650 = .ok (.iload_n 3, 1) := by decide +kernel
theorem dL_law_651 : decode cL_law 651 = .ok (.iconst 1, 1) := by decide +kernel
theorem dL_law_652 : decode cL_law 652 = .ok (.iadd, 1) := by decide +kernel
theorem dL_law_653 : decode cL_law 653 = .ok (.iaload, 1) := by decide +kernel
theorem dL_law_654 : decode cL_law 654 = .ok (.aload_n 0, 1) := by decide +kernel
theorem dL_law_655 : decode cL_law 655 = .ok (.iload_n 3, 1) := by decide +kernel
theorem dL_law_656 : decode cL_law 656 = .ok (.iconst 2, 1) := by decide +kernel
theorem dL_law_657 : decode cL_law 657 = .ok (.iadd, 1) := by decide +kernel
theorem dL_law_658 : decode cL_law 658 = .ok (.iaload, 1) := by decide +kernel
theorem dL_law_659 : decode cL_law 659 = .ok (.aload_n 0, 1) := by decide +kernel
theorem dL_law_660 : decode cL_law 660 = .ok (.iload_n 3, 1) := by decide +kernel
theorem dL_law_661 : decode cL_law 661 = .ok (.iconst 3, 1) := by decide +kernel
theorem dL_law_662 : decode cL_law 662 = .ok (.iadd, 1) := by decide +kernel
theorem dL_law_663 : decode cL_law 663 = .ok (.iaload, 1) := by decide +kernel
theorem dL_law_664 : decode cL_law 664 = .ok (.invokevirtual 96, 3) := by decide +kernel
theorem dL_law_667 : decode cL_law 667 = .ok (.aload_n 2, 1) := by decide +kernel
theorem dL_law_668 : decode cL_law 668 = .ok (.aload_n 0, 1) := by decide +kernel
theorem dL_law_669 : decode cL_law 669 = .ok (.iload_n 3, 1) := by decide +kernel
theorem dL_law_670 : decode cL_law 670 = .ok (.iconst 1, 1) := by decide +kernel
theorem dL_law_671 : decode cL_law 671 = .ok (.iadd, 1) := by decide +kernel
theorem dL_law_672 : decode cL_law 672 = .ok (.iaload, 1) := by decide +kernel
theorem dL_law_673 : decode cL_law 673 = .ok (.aload_n 0, 1) := by decide +kernel
theorem dL_law_674 : decode cL_law 674 = .ok (.iload_n 3, 1) := by decide +kernel
theorem dL_law_675 : decode cL_law 675 = .ok (.iconst 2, 1) := by decide +kernel
theorem dL_law_676 : decode cL_law 676 = .ok (.iadd, 1) := by decide +kernel
theorem dL_law_677 : decode cL_law 677 = .ok (.iaload, 1) := by decide +kernel
theorem dL_law_678 : decode cL_law 678 = .ok (.aload_n 0, 1) := by decide +kernel
theorem dL_law_679 : decode cL_law 679 = .ok (.iload_n 3, 1) := by decide +kernel
theorem dL_law_680 : decode cL_law 680 = .ok (.iconst 3, 1) := by decide +kernel
theorem dL_law_681 : decode cL_law 681 = .ok (.iadd, 1) := by decide +kernel
theorem dL_law_682 : decode cL_law 682 = .ok (.iaload, 1) := by decide +kernel
theorem dL_law_683 : decode cL_law 683 = .ok (.invokevirtual 100, 3) := by decide +kernel
theorem dL_law_686 : decode cL_law 686 = .ok (.if_icmp .eq 254, 3) := by decide +kernel
theorem dL_law_689 : decode cL_law 689 = .ok (.iconst 0, 1) := by decide +kernel
theorem dL_law_690 : decode cL_law 690 = .ok (.ireturn, 1) := by decide +kernel
theorem dL_law_691 : decode cL_law 691 = .ok (.aload_n 1, 1) := by decide +kernel
theorem dL_law_692 : decode cL_law 692 = .ok (.aload_n 0, 1) := by decide +kernel
theorem dL_law_693 : decode cL_law 693 = .ok (.iload_n 3, 1) := by decide +kernel
theorem dL_law_694 : decode cL_law 694 = .ok (.iconst 1, 1) := by decide +kernel
theorem dL_law_695 : decode cL_law 695 = .ok (.iadd, 1) := by decide +kernel
theorem dL_law_696 : decode cL_law 696 = .ok (.iaload, 1) := by decide +kernel
theorem dL_law_697 : decode cL_law 697 = .ok (.aload_n 0, 1) := by decide +kernel
theorem dL_law_698 : decode cL_law 698 = .ok (.iload_n 3, 1) := by decide +kernel
theorem dL_law_699 : decode cL_law 699 = .ok (.iconst 2, 1) := by decide +kernel
theorem dL_law_700 : decode cL_law 700 = .ok (.iadd, 1) := by decide +kernel
theorem dL_law_701 : decode cL_law 701 = .ok (.iaload, 1) := by decide +kernel
theorem dL_law_702 : decode cL_law 702 = .ok (.aload_n 0, 1) := by decide +kernel
theorem dL_law_703 : decode cL_law 703 = .ok (.iload_n 3, 1) := by decide +kernel
theorem dL_law_704 : decode cL_law 704 = .ok (.iconst 3, 1) := by decide +kernel
theorem dL_law_705 : decode cL_law 705 = .ok (.iadd, 1) := by decide +kernel
theorem dL_law_706 : decode cL_law 706 = .ok (.iaload, 1) := by decide +kernel
theorem dL_law_707 : decode cL_law 707 = .ok (.invokevirtual 101, 3) := by decide +kernel
theorem dL_law_710 : decode cL_law 710 = .ok (.aload_n 2, 1) := by decide +kernel
theorem dL_law_711 : decode cL_law 711 = .ok (.aload_n 0, 1) := by decide +kernel
theorem dL_law_712 : decode cL_law 712 = .ok (.iload_n 3, 1) := by decide +kernel
theorem dL_law_713 : decode cL_law 713 = .ok (.iconst 1, 1) := by decide +kernel
theorem dL_law_714 : decode cL_law 714 = .ok (.iadd, 1) := by decide +kernel
theorem dL_law_715 : decode cL_law 715 = .ok (.iaload, 1) := by decide +kernel
theorem dL_law_716 : decode cL_law 716 = .ok (.aload_n 0, 1) := by decide +kernel
theorem dL_law_717 : decode cL_law 717 = .ok (.iload_n 3, 1) := by decide +kernel
theorem dL_law_718 : decode cL_law 718 = .ok (.iconst 2, 1) := by decide +kernel
theorem dL_law_719 : decode cL_law 719 = .ok (.iadd, 1) := by decide +kernel
theorem dL_law_720 : decode cL_law 720 = .ok (.iaload, 1) := by decide +kernel
theorem dL_law_721 : decode cL_law 721 = .ok (.aload_n 0, 1) := by decide +kernel
theorem dL_law_722 : decode cL_law 722 = .ok (.iload_n 3, 1) := by decide +kernel
theorem dL_law_723 : decode cL_law 723 = .ok (.iconst 3, 1) := by decide +kernel
theorem dL_law_724 : decode cL_law 724 = .ok (.iadd, 1) := by decide +kernel
theorem dL_law_725 : decode cL_law 725 = .ok (.iaload, 1) := by decide +kernel
theorem dL_law_726 : decode cL_law 726 = .ok (.invokevirtual 104, 3) := by decide +kernel
theorem dL_law_729 : decode cL_law 729 = .ok (.if_icmp .eq 211, 3) := by decide +kernel
theorem dL_law_732 : decode cL_law 732 = .ok (.iconst 0, 1) := by decide +kernel
theorem dL_law_733 : decode cL_law 733 = .ok (.ireturn, 1) := by decide +kernel
theorem dL_law_734 : decode cL_law 734 = .ok (.aload_n 1, 1) := by decide +kernel
theorem dL_law_735 : decode cL_law 735 = .ok (.invokevirtual 105, 3) := by decide +kernel
theorem dL_law_738 : decode cL_law 738 = .ok (.aload_n 2, 1) := by decide +kernel
theorem dL_law_739 : decode cL_law 739 = .ok (.invokevirtual 108, 3) := by decide +kernel
theorem dL_law_742 : decode cL_law 742 = .ok (.if_icmp .eq 198, 3) := by decide +kernel
theorem dL_law_745 : decode cL_law 745 = .ok (.iconst 0, 1) := by decide +kernel
theorem dL_law_746 : decode cL_law 746 = .ok (.ireturn, 1) := by decide +kernel
theorem dL_law_747 : decode cL_law 747 = .ok (.aload_n 1, 1) := by decide +kernel
theorem dL_law_748 : decode cL_law 748 = .ok (.aload_n 0, 1) := by decide +kernel
theorem dL_law_749 : decode cL_law 749 = .ok (.iload_n 3, 1) := by decide +kernel
theorem dL_law_750 : decode cL_law 750 = .ok (.iconst 1, 1) := by decide +kernel
theorem dL_law_751 : decode cL_law 751 = .ok (.iadd, 1) := by decide +kernel
theorem dL_law_752 : decode cL_law 752 = .ok (.iaload, 1) := by decide +kernel
theorem dL_law_753 : decode cL_law 753 = .ok (.invokevirtual 109, 3) := by decide +kernel
theorem dL_law_756 : decode cL_law 756 = .ok (.aload_n 2, 1) := by decide +kernel
theorem dL_law_757 : decode cL_law 757 = .ok (.aload_n 0, 1) := by decide +kernel
theorem dL_law_758 : decode cL_law 758 = .ok (.iload_n 3, 1) := by decide +kernel
theorem dL_law_759 : decode cL_law 759 = .ok (.iconst 1, 1) := by decide +kernel
theorem dL_law_760 : decode cL_law 760 = .ok (.iadd, 1) := by decide +kernel
theorem dL_law_761 : decode cL_law 761 = .ok (.iaload, 1) := by decide +kernel
theorem dL_law_762 : decode cL_law 762 = .ok (.invokevirtual 112, 3) := by decide +kernel
theorem dL_law_765 : decode cL_law 765 = .ok (.if_icmp .eq 175, 3) := by decide +kernel
theorem dL_law_768 : decode cL_law 768 = .ok (.iconst 0, 1) := by decide +kernel
theorem dL_law_769 : decode cL_law 769 = .ok (.ireturn, 1) := by decide +kernel
theorem dL_law_770 : decode cL_law 770 = .ok (.aload_n 1, 1) := by decide +kernel
theorem dL_law_771 : decode cL_law 771 = .ok (.aload_n 0, 1) := by decide +kernel
theorem dL_law_772 : decode cL_law 772 = .ok (.iload_n 3, 1) := by decide +kernel
theorem dL_law_773 : decode cL_law 773 = .ok (.iconst 1, 1) := by decide +kernel
theorem dL_law_774 : decode cL_law 774 = .ok (.iadd, 1) := by decide +kernel
theorem dL_law_775 : decode cL_law 775 = .ok (.iaload, 1) := by decide +kernel
theorem dL_law_776 : decode cL_law 776 = .ok (.aload_n 0, 1) := by decide +kernel
theorem dL_law_777 : decode cL_law 777 = .ok (.iload_n 3, 1) := by decide +kernel
theorem dL_law_778 : decode cL_law 778 = .ok (.iconst 2, 1) := by decide +kernel
theorem dL_law_779 : decode cL_law 779 = .ok (.iadd, 1) := by decide +kernel
theorem dL_law_780 : decode cL_law 780 = .ok (.iaload, 1) := by decide +kernel
theorem dL_law_781 : decode cL_law 781 = .ok (.aload_n 0, 1) := by decide +kernel
theorem dL_law_782 : decode cL_law 782 = .ok (.iload_n 3, 1) := by decide +kernel
theorem dL_law_783 : decode cL_law 783 = .ok (.iconst 3, 1) := by decide +kernel
theorem dL_law_784 : decode cL_law 784 = .ok (.iadd, 1) := by decide +kernel
theorem dL_law_785 : decode cL_law 785 = .ok (.iaload, 1) := by decide +kernel
theorem dL_law_786 : decode cL_law 786 = .ok (.aload_n 0, 1) := by decide +kernel
theorem dL_law_787 : decode cL_law 787 = .ok (.iload_n 3, 1) := by decide +kernel
theorem dL_law_788 : decode cL_law 788 = .ok (.iconst 4, 1) := by decide +kernel
theorem dL_law_789 : decode cL_law 789 = .ok (.iadd, 1) := by decide +kernel
theorem dL_law_790 : decode cL_law 790 = .ok (.iaload, 1) := by decide +kernel
theorem dL_law_791 : decode cL_law 791 = .ok (.invokevirtual 113, 3) := by decide +kernel
theorem dL_law_794 : decode cL_law 794 = .ok (.aload_n 2, 1) := by decide +kernel
theorem dL_law_795 : decode cL_law 795 = .ok (.aload_n 0, 1) := by decide +kernel
theorem dL_law_796 : decode cL_law 796 = .ok (.iload_n 3, 1) := by decide +kernel
theorem dL_law_797 : decode cL_law 797 = .ok (.iconst 1, 1) := by decide +kernel
theorem dL_law_798 : decode cL_law 798 = .ok (.iadd, 1) := by decide +kernel
theorem dL_law_799 : decode cL_law 799 = .ok (.iaload, 1) := by decide +kernel
theorem dL_law_800 : decode cL_law 800 = .ok (.aload_n 0, 1) := by decide +kernel
theorem dL_law_801 : decode cL_law 801 = .ok (.iload_n 3, 1) := by decide +kernel
theorem dL_law_802 : decode cL_law 802 = .ok (.iconst 2, 1) := by decide +kernel
theorem dL_law_803 : decode cL_law 803 = .ok (.iadd, 1) := by decide +kernel
theorem dL_law_804 : decode cL_law 804 = .ok (.iaload, 1) := by decide +kernel
theorem dL_law_805 : decode cL_law 805 = .ok (.aload_n 0, 1) := by decide +kernel
theorem dL_law_806 : decode cL_law 806 = .ok (.iload_n 3, 1) := by decide +kernel
theorem dL_law_807 : decode cL_law 807 = .ok (.iconst 3, 1) := by decide +kernel
theorem dL_law_808 : decode cL_law 808 = .ok (.iadd, 1) := by decide +kernel
theorem dL_law_809 : decode cL_law 809 = .ok (.iaload, 1) := by decide +kernel
theorem dL_law_810 : decode cL_law 810 = .ok (.aload_n 0, 1) := by decide +kernel
theorem dL_law_811 : decode cL_law 811 = .ok (.iload_n 3, 1) := by decide +kernel
theorem dL_law_812 : decode cL_law 812 = .ok (.iconst 4, 1) := by decide +kernel
theorem dL_law_813 : decode cL_law 813 = .ok (.iadd, 1) := by decide +kernel
theorem dL_law_814 : decode cL_law 814 = .ok (.iaload, 1) := by decide +kernel
theorem dL_law_815 : decode cL_law 815 = .ok (.invokevirtual 117, 3) := by decide +kernel
theorem dL_law_818 : decode cL_law 818 = .ok (.lcmp, 1) := by decide +kernel
theorem dL_law_819 : decode cL_law 819 = .ok (.ifCond .eq 121, 3) := by decide +kernel
theorem dL_law_822 : decode cL_law 822 = .ok (.iconst 0, 1) := by decide +kernel
theorem dL_law_823 : decode cL_law 823 = .ok (.ireturn, 1) := by decide +kernel
theorem dL_law_824 : decode cL_law 824 = .ok (.aload_n 1, 1) := by decide +kernel
theorem dL_law_825 : decode cL_law 825 = .ok (.aload_n 0, 1) := by decide +kernel
theorem dL_law_826 : decode cL_law 826 = .ok (.iload_n 3, 1) := by decide +kernel
theorem dL_law_827 : decode cL_law 827 = .ok (.iconst 1, 1) := by decide +kernel
theorem dL_law_828 : decode cL_law 828 = .ok (.iadd, 1) := by decide +kernel
theorem dL_law_829 : decode cL_law 829 = .ok (.iaload, 1) := by decide +kernel
theorem dL_law_830 : decode cL_law 830 = .ok (.aload_n 0, 1) := by decide +kernel
theorem dL_law_831 : decode cL_law 831 = .ok (.iload_n 3, 1) := by decide +kernel
theorem dL_law_832 : decode cL_law 832 = .ok (.iconst 2, 1) := by decide +kernel
theorem dL_law_833 : decode cL_law 833 = .ok (.iadd, 1) := by decide +kernel
theorem dL_law_834 : decode cL_law 834 = .ok (.iaload, 1) := by decide +kernel
theorem dL_law_835 : decode cL_law 835 = .ok (.invokevirtual 118, 3) := by decide +kernel
theorem dL_law_838 : decode cL_law 838 = .ok (.aload_n 2, 1) := by decide +kernel
theorem dL_law_839 : decode cL_law 839 = .ok (.aload_n 0, 1) := by decide +kernel
theorem dL_law_840 : decode cL_law 840 = .ok (.iload_n 3, 1) := by decide +kernel
theorem dL_law_841 : decode cL_law 841 = .ok (.iconst 1, 1) := by decide +kernel
theorem dL_law_842 : decode cL_law 842 = .ok (.iadd, 1) := by decide +kernel
theorem dL_law_843 : decode cL_law 843 = .ok (.iaload, 1) := by decide +kernel
theorem dL_law_844 : decode cL_law 844 = .ok (.aload_n 0, 1) := by decide +kernel
theorem dL_law_845 : decode cL_law 845 = .ok (.iload_n 3, 1) := by decide +kernel
theorem dL_law_846 : decode cL_law 846 = .ok (.iconst 2, 1) := by decide +kernel
theorem dL_law_847 : decode cL_law 847 = .ok (.iadd, 1) := by decide +kernel
theorem dL_law_848 : decode cL_law 848 = .ok (.iaload, 1) := by decide +kernel
theorem dL_law_849 : decode cL_law 849 = .ok (.invokevirtual 121, 3) := by decide +kernel
theorem dL_law_852 : decode cL_law 852 = .ok (.if_icmp .eq 88, 3) := by decide +kernel
theorem dL_law_855 : decode cL_law 855 = .ok (.iconst 0, 1) := by decide +kernel
theorem dL_law_856 : decode cL_law 856 = .ok (.ireturn, 1) := by decide +kernel
theorem dL_law_857 : decode cL_law 857 = .ok (.aload_n 1, 1) := by decide +kernel
theorem dL_law_858 : decode cL_law 858 = .ok (.aload_n 0, 1) := by decide +kernel
theorem dL_law_859 : decode cL_law 859 = .ok (.iload_n 3, 1) := by decide +kernel
theorem dL_law_860 : decode cL_law 860 = .ok (.iconst 1, 1) := by decide +kernel
theorem dL_law_861 : decode cL_law 861 = .ok (.iadd, 1) := by decide +kernel
theorem dL_law_862 : decode cL_law 862 = .ok (.iaload, 1) := by decide +kernel
theorem dL_law_863 : decode cL_law 863 = .ok (.invokevirtual 122, 3) := by decide +kernel
theorem dL_law_866 : decode cL_law 866 = .ok (.aload_n 2, 1) := by decide +kernel
theorem dL_law_867 : decode cL_law 867 = .ok (.aload_n 0, 1) := by decide +kernel
theorem dL_law_868 : decode cL_law 868 = .ok (.iload_n 3, 1) := by decide +kernel
theorem dL_law_869 : decode cL_law 869 = .ok (.iconst 1, 1) := by decide +kernel
theorem dL_law_870 : decode cL_law 870 = .ok (.iadd, 1) := by decide +kernel
theorem dL_law_871 : decode cL_law 871 = .ok (.iaload, 1) := by decide +kernel
theorem dL_law_872 : decode cL_law 872 = .ok (.invokevirtual 125, 3) := by decide +kernel
theorem dL_law_875 : decode cL_law 875 = .ok (.if_icmp .eq 65, 3) := by decide +kernel
theorem dL_law_878 : decode cL_law 878 = .ok (.iconst 0, 1) := by decide +kernel
theorem dL_law_879 : decode cL_law 879 = .ok (.ireturn, 1) := by decide +kernel
theorem dL_law_880 : decode cL_law 880 = .ok (.aload_n 1, 1) := by decide +kernel
theorem dL_law_881 : decode cL_law 881 = .ok (.aload_n 0, 1) := by decide +kernel
theorem dL_law_882 : decode cL_law 882 = .ok (.iload_n 3, 1) := by decide +kernel
theorem dL_law_883 : decode cL_law 883 = .ok (.iconst 1, 1) := by decide +kernel
theorem dL_law_884 : decode cL_law 884 = .ok (.iadd, 1) := by decide +kernel
theorem dL_law_885 : decode cL_law 885 = .ok (.iaload, 1) := by decide +kernel
theorem dL_law_886 : decode cL_law 886 = .ok (.invokevirtual 126, 3) := by decide +kernel
theorem dL_law_889 : decode cL_law 889 = .ok (.aload_n 2, 1) := by decide +kernel
theorem dL_law_890 : decode cL_law 890 = .ok (.aload_n 0, 1) := by decide +kernel
theorem dL_law_891 : decode cL_law 891 = .ok (.iload_n 3, 1) := by decide +kernel
theorem dL_law_892 : decode cL_law 892 = .ok (.iconst 1, 1) := by decide +kernel
theorem dL_law_893 : decode cL_law 893 = .ok (.iadd, 1) := by decide +kernel
theorem dL_law_894 : decode cL_law 894 = .ok (.iaload, 1) := by decide +kernel
theorem dL_law_895 : decode cL_law 895 = .ok (.invokevirtual 129, 3) := by decide +kernel
theorem dL_law_898 : decode cL_law 898 = .ok (.if_icmp .eq 42, 3) := by decide +kernel
theorem dL_law_901 : decode cL_law 901 = .ok (.iconst 0, 1) := by decide +kernel
theorem dL_law_902 : decode cL_law 902 = .ok (.ireturn, 1) := by decide +kernel
theorem dL_law_903 : decode cL_law 903 = .ok (.aload_n 1, 1) := by decide +kernel
theorem dL_law_904 : decode cL_law 904 = .ok (.aload_n 0, 1) := by decide +kernel
theorem dL_law_905 : decode cL_law 905 = .ok (.iload_n 3, 1) := by decide +kernel
theorem dL_law_906 : decode cL_law 906 = .ok (.iconst 1, 1) := by decide +kernel
theorem dL_law_907 : decode cL_law 907 = .ok (.iadd, 1) := by decide +kernel
theorem dL_law_908 : decode cL_law 908 = .ok (.iaload, 1) := by decide +kernel
theorem dL_law_909 : decode cL_law 909 = .ok (.invokevirtual 130, 3) := by decide +kernel
theorem dL_law_912 : decode cL_law 912 = .ok (.aload_n 2, 1) := by decide +kernel
theorem dL_law_913 : decode cL_law 913 = .ok (.aload_n 0, 1) := by decide +kernel
theorem dL_law_914 : decode cL_law 914 = .ok (.iload_n 3, 1) := by decide +kernel
theorem dL_law_915 : decode cL_law 915 = .ok (.iconst 1, 1) := by decide +kernel
theorem dL_law_916 : decode cL_law 916 = .ok (.iadd, 1) := by decide +kernel
theorem dL_law_917 : decode cL_law 917 = .ok (.iaload, 1) := by decide +kernel
theorem dL_law_918 : decode cL_law 918 = .ok (.invokevirtual 133, 3) := by decide +kernel
theorem dL_law_921 : decode cL_law 921 = .ok (.if_icmp .eq 19, 3) := by decide +kernel
theorem dL_law_924 : decode cL_law 924 = .ok (.iconst 0, 1) := by decide +kernel
theorem dL_law_925 : decode cL_law 925 = .ok (.ireturn, 1) := by decide +kernel
theorem dL_law_926 : decode cL_law 926 = .ok (.aload_n 1, 1) := by decide +kernel
theorem dL_law_927 : decode cL_law 927 = .ok (.invokevirtual 134, 3) := by decide +kernel
theorem dL_law_930 : decode cL_law 930 = .ok (.aload_n 2, 1) := by decide +kernel
theorem dL_law_931 : decode cL_law 931 = .ok (.invokevirtual 138, 3) := by decide +kernel
theorem dL_law_934 : decode cL_law 934 = .ok (.lcmp, 1) := by decide +kernel
theorem dL_law_935 : decode cL_law 935 = .ok (.ifCond .eq 5, 3) := by decide +kernel
theorem dL_law_938 : decode cL_law 938 = .ok (.iconst 0, 1) := by decide +kernel
theorem dL_law_939 : decode cL_law 939 = .ok (.ireturn, 1) := by decide +kernel
theorem dL_law_940 : decode cL_law 940 = .ok (.iinc 3 5, 3) := by decide +kernel
theorem dL_law_943 : decode cL_law 943 = .ok (.goto (-925), 3) := by decide +kernel
theorem dL_law_946 : decode cL_law 946 = .ok (.iconst 1, 1) := by decide +kernel
theorem dL_law_947 : decode cL_law 947 = .ok (.ireturn, 1) := by decide +kernel
end
section
/-! THE LAYER G: a walk's goal with its locals, its stack and its world as plain lists. -/
abbrev EX : Type := va_G × ClassId × ClassId × ClassId
abbrev tyE (E : EX) : List (ClassId × FieldType) := [(E.2.1, .int), (E.2.2.1, .boolean), (E.2.2.2, .object RX6)]
abbrev iA (E : EX) (n : Nat) (f : Nat → Int32) : va_E := .inl (E.2.1, n, .inl f)
abbrev zA (E : EX) (n : Nat) (f : Nat → Int32) : va_E := .inl (E.2.2.1, n, .inl f)
abbrev kA (E : EX) (n : Nat) (f : Nat → Option Nat) : va_E := .inl (E.2.2.2, n, .inr (.inr (.inr (.inr f))))
abbrev oB (ci : Nat) (fs : List Value) : va_E := .inr (ci, fs)
/-- what a method's walk stands on: machine, room, start, code, names, the cells that it may change, how many locals, the end -/
abbrev KX : Type := Program × Launch × Env × Room × State × MethodId × Array Value × List Frame × Method × Code × EX × (Nat → Prop) × Nat × (State → Prop)
def G (K : KX) (cs sl pc : Nat) (lv : List (Nat × Value)) (st : List Value) (ws : va_W) : Prop :=
  match K with
  | (p, l, e, R, s, m, args, below, meth, c, E, A, nL, Q) => ∀ (H : Heap) (locs : List Loc) (ls : Array Slot), va_P E.1 vwCl ws H → va_D A ws → va_S A s.heap H locs → lv_has ls nL lv → W p l e R s m args below meth c H locs cs sl Q (F0 m pc ls st)
def CX (K : KX) (l0 : Launch) (E0 : EX) (own : String) (Ts : List Cond) (cc : ByteArray) (rm : Room) (n0 : Nat) : Prop :=
  match K with
  | (p, l, _, R, s, m, args, _, _, c, E, A, nL, _) => p.tables.exec = Jvm.exec ∧ c.code = cc ∧ c.maxLocals = nL ∧ s.vm.findClass own = some m.cls ∧ (∀ w ∈ Ts, w.before args s = true) ∧ va_K E.1 vwCl (tyE E) s ∧ (∀ q, s.heap.size ≤ q → A q) ∧ R = rm ∧ l = l0 ∧ E = E0 ∧ nL = n0
/-- a method's end, in the words of its post -/
def Qo (E : EX) (A : Nat → Prop) (Po : Option Value → va_W → Prop) : Array Value → State → Outcome → State → Prop := fun _ st oc t => (∃ (v : Option Value) (w' : va_W), oc = .returned v ∧ Po v w' ∧ va_P E.1 vwCl w' t.heap ∧ va_K E.1 vwCl (tyE E) t ∧ va_D A w') ∧ va_F A st t
def RX (K : KX) (rt : Option FieldType) (mc ms : Nat) (Po : Option Value → va_W → Prop) : Prop :=
  match K with
  | (_, _, _, _, s, _, args, below, meth, _, E, A, _, Q) => Q = MQ below (Qo E A Po) args s mc ms A ∧ meth.sig.returnType = rt ∧ meth.locks = false
def IX (K : KX) : Prop :=
  match K with
  | (_, _, _, _, _, _, _, _, meth, _, _, _, _, _) => meth.name = "<init>"
/-- a method's contract: from the world w, by the values av, to an answer and a world with Po -/
def M (l : Launch) (E : EX) (y : MethodName) (ws : List Cond) (rm : Room) (mc ms : Nat) (av : List Value) (w : va_W) (Po : Option Value → va_W → Prop) : Prop :=
  ∀ sz : Nat, Met l y ws rm (va_Pc av (fun U => U.heap.size = sz ∧ va_P E.1 vwCl w U.heap ∧ va_K E.1 vwCl (tyE E) U ∧ va_D (fun _ => True) w)) (Qo E (va_A w sz) Po) mc ms (va_A w sz)
abbrev is1 (r : Option Value) (w1 : va_W) : Option Value → va_W → Prop := fun v w' => v = r ∧ w' = w1
theorem M.ofG {l : Launch} {E : EX} {y : MethodName} {ws ws' : List Cond} {rm : Room} {mc ms : Nat} {av : List Value} {w : va_W} {Po : Option Value → va_W → Prop} {cc : ByteArray} {maxL : Nat} {ret : Option FieldType} {lv : List (Nat × Value)} {own : String}
    (hy : plainName y.cls = true) (ho : y.cls = own) (hw : ws = Cond.code y cc maxL ret :: ws') (hlen : (lg_sl av).length ≤ maxL) (hlv : lv_args 0 av = lv)
    (body : ∀ K : KX, CX K l E own ws cc rm maxL → RX K ret mc ms Po → (y.name = "<init>" → IX K) → G K 0 0 0 lv [] w) : M l E y ws rm mc ms av w Po := by
  subst ho
  intro sz
  refine Met.ofW (cc := cc) (maxL := maxL) (ret := ret) hy hw ?_
  intro p e s m args below meth c s₁ B hml hv
  obtain ⟨rfl, hsz, hP, hK, hD0⟩ := hv
  subst hsz
  have hD := hD0.self (sz := s.heap.size)
  have hl := lv_entry av (n := maxL) hlen
  rw [lg_entry_eq]
  refine body (p, l, e, (headSpec ws rm).room, s, m, av.toArray, below, meth, c, E, va_A w s.heap.size, maxL, _) ⟨B.exec, B.bytes, hml, findClass_of_methodNamed B.named, atoms_spec (ws := ws) B.pre, hK, fun q h => Or.inr h, rfl, rfl, rfl, rfl⟩ ⟨rfl, B.returns, B.notSynchronized⟩ (fun hn => ?_) _ _ _ hP hD va_S.rf (hlv ▸ hl)
  exact (name_of_methodNamed B.named B.method).1.trans hn
section GR
variable {K : KX} {l0 : Launch} {E0 : EX} {own : String} {Ts : List Cond} {cc : ByteArray} {rm : Room} {n0 cs sl pc : Nat} {lv lv' : List (Nat × Value)} {st : List Value} {ws ws' : va_W}
theorem g_sub (ks : List Nat) (hl : lv_pick lv ks = lv') (kk : G K cs sl pc lv' st ws) : G K cs sl pc lv st ws := by
  obtain ⟨p, l, e, R, s, m, args, below, meth, c, E, A, nL, Q⟩ := K
  exact fun H locs ls hP hD hS h => kk H locs ls hP hD hS (lv_sub h ks hl)
theorem g_eq {st' : List Value} (h1 : lv = lv') (h2 : st = st') (h3 : ws = ws') (kk : G K cs sl pc lv' st' ws') : G K cs sl pc lv st ws := by
  subst h1; subst h2; subst h3; exact kk
theorem g_nm {x : Int32} (kk : ∀ y : Int32, y = x → G K cs sl pc lv (.int y :: st) ws) : G K cs sl pc lv (.int x :: st) ws := kk x rfl
theorem g_nml {x : Int64} (kk : ∀ y : Int64, y = x → G K cs sl pc lv (.long y :: st) ws) : G K cs sl pc lv (.long x :: st) ws := kk x rfl
theorem g_as {x y : Int32} (h : x = y) (kk : G K cs sl pc lv (.int y :: st) ws) : G K cs sl pc lv (.int x :: st) ws := h ▸ kk
theorem g_asl {x y : Int64} (h : x = y) (kk : G K cs sl pc lv (.long y :: st) ws) : G K cs sl pc lv (.long x :: st) ws := h ▸ kk

theorem g_iconst (C : CX K l0 E0 own Ts cc rm n0) {n : Int} (v : Int32) (hdg : decode cc pc = .ok (.iconst n, 1)) (hv : Int32.ofInt n = v)
    (kk : G K cs sl (pc + 1) lv (.int v :: st) ws) : G K cs sl pc lv st ws := by
  obtain ⟨p, l, e, R, s, m, args, below, meth, c, E, A, nL, Q⟩ := K
  obtain ⟨hx, hb, hml, hown, hts, hK, hA, rfl, rfl, rfl, rfl⟩ := C
  exact fun H locs ls hP hD hS h => lv_iconst hx hb hdg hv (kk H locs ls hP hD hS h)

theorem g_bipush (C : CX K l0 E0 own Ts cc rm n0) {n : Int} (v : Int32) (hdg : decode cc pc = .ok (.bipush n, 2)) (hv : (Int8.ofInt n).toInt32 = v)
    (kk : G K cs sl (pc + 2) lv (.int v :: st) ws) : G K cs sl pc lv st ws := by
  obtain ⟨p, l, e, R, s, m, args, below, meth, c, E, A, nL, Q⟩ := K
  obtain ⟨hx, hb, hml, hown, hts, hK, hA, rfl, rfl, rfl, rfl⟩ := C
  exact fun H locs ls hP hD hS h => lv_bipush hx hb hdg hv (kk H locs ls hP hD hS h)

theorem g_sipush (C : CX K l0 E0 own Ts cc rm n0) {n : Int} (v : Int32) (hdg : decode cc pc = .ok (.sipush n, 3)) (hv : (Int16.ofInt n).toInt32 = v)
    (kk : G K cs sl (pc + 3) lv (.int v :: st) ws) : G K cs sl pc lv st ws := by
  obtain ⟨p, l, e, R, s, m, args, below, meth, c, E, A, nL, Q⟩ := K
  obtain ⟨hx, hb, hml, hown, hts, hK, hA, rfl, rfl, rfl, rfl⟩ := C
  exact fun H locs ls hP hD hS h => lv_sipush hx hb hdg hv (kk H locs ls hP hD hS h)

theorem g_lconst (C : CX K l0 E0 own Ts cc rm n0) {n : Fin 2} (v : Int64) (hdg : decode cc pc = .ok (.lconst n, 1)) (hv : Int64.ofNat (n : Nat) = v)
    (kk : G K cs sl (pc + 1) lv (.long v :: st) ws) : G K cs sl pc lv st ws := by
  obtain ⟨p, l, e, R, s, m, args, below, meth, c, E, A, nL, Q⟩ := K
  obtain ⟨hx, hb, hml, hown, hts, hK, hA, rfl, rfl, rfl, rfl⟩ := C
  exact fun H locs ls hP hD hS h => lv_lconst hx hb hdg hv (kk H locs ls hP hD hS h)

theorem g_iload_n (C : CX K l0 E0 own Ts cc rm n0) {k : Fin 4} {i : Nat} {x : Int32} (hdg : decode cc pc = .ok (.iload_n k, 1)) (hi : (k : Nat) = i) (j : Nat) (hl : lv[j]? = some (i, .int x))
    (kk : G K cs sl (pc + 1) lv (.int x :: st) ws) : G K cs sl pc lv st ws := by
  obtain ⟨p, l, e, R, s, m, args, below, meth, c, E, A, nL, Q⟩ := K
  obtain ⟨hx, hb, hml, hown, hts, hK, hA, rfl, rfl, rfl, rfl⟩ := C
  exact fun H locs ls hP hD hS h => lv_iload_n hx hb hdg hi (lv_at h j hl) (kk H locs ls hP hD hS h)

theorem g_iload (C : CX K l0 E0 own Ts cc rm n0) {i : Nat} {x : Int32} (hdg : decode cc pc = .ok (.iload i, 2)) (j : Nat) (hl : lv[j]? = some (i, .int x))
    (kk : G K cs sl (pc + 2) lv (.int x :: st) ws) : G K cs sl pc lv st ws := by
  obtain ⟨p, l, e, R, s, m, args, below, meth, c, E, A, nL, Q⟩ := K
  obtain ⟨hx, hb, hml, hown, hts, hK, hA, rfl, rfl, rfl, rfl⟩ := C
  exact fun H locs ls hP hD hS h => lv_iload hx hb hdg (lv_at h j hl) (kk H locs ls hP hD hS h)

theorem g_lload_n (C : CX K l0 E0 own Ts cc rm n0) {k : Fin 4} {i : Nat} {x : Int64} (hdg : decode cc pc = .ok (.lload_n k, 1)) (hi : (k : Nat) = i) (j : Nat) (hl : lv[j]? = some (i, .long x))
    (kk : G K cs sl (pc + 1) lv (.long x :: st) ws) : G K cs sl pc lv st ws := by
  obtain ⟨p, l, e, R, s, m, args, below, meth, c, E, A, nL, Q⟩ := K
  obtain ⟨hx, hb, hml, hown, hts, hK, hA, rfl, rfl, rfl, rfl⟩ := C
  exact fun H locs ls hP hD hS h => lv_lload_n hx hb hdg hi (lv_at h j hl) (kk H locs ls hP hD hS h)

theorem g_lload (C : CX K l0 E0 own Ts cc rm n0) {i : Nat} {x : Int64} (hdg : decode cc pc = .ok (.lload i, 2)) (j : Nat) (hl : lv[j]? = some (i, .long x))
    (kk : G K cs sl (pc + 2) lv (.long x :: st) ws) : G K cs sl pc lv st ws := by
  obtain ⟨p, l, e, R, s, m, args, below, meth, c, E, A, nL, Q⟩ := K
  obtain ⟨hx, hb, hml, hown, hts, hK, hA, rfl, rfl, rfl, rfl⟩ := C
  exact fun H locs ls hP hD hS h => lv_lload hx hb hdg (lv_at h j hl) (kk H locs ls hP hD hS h)

theorem g_aload_n (C : CX K l0 E0 own Ts cc rm n0) {k : Fin 4} {i : Nat} {x : Nat} (hdg : decode cc pc = .ok (.aload_n k, 1)) (hi : (k : Nat) = i) (j : Nat) (hl : lv[j]? = some (i, .ref x))
    (kk : G K cs sl (pc + 1) lv (.ref x :: st) ws) : G K cs sl pc lv st ws := by
  obtain ⟨p, l, e, R, s, m, args, below, meth, c, E, A, nL, Q⟩ := K
  obtain ⟨hx, hb, hml, hown, hts, hK, hA, rfl, rfl, rfl, rfl⟩ := C
  exact fun H locs ls hP hD hS h => lv_aload_n hx hb hdg hi (lv_at h j hl) (kk H locs ls hP hD hS h)

theorem g_aload (C : CX K l0 E0 own Ts cc rm n0) {i : Nat} {x : Nat} (hdg : decode cc pc = .ok (.aload i, 2)) (j : Nat) (hl : lv[j]? = some (i, .ref x))
    (kk : G K cs sl (pc + 2) lv (.ref x :: st) ws) : G K cs sl pc lv st ws := by
  obtain ⟨p, l, e, R, s, m, args, below, meth, c, E, A, nL, Q⟩ := K
  obtain ⟨hx, hb, hml, hown, hts, hK, hA, rfl, rfl, rfl, rfl⟩ := C
  exact fun H locs ls hP hD hS h => lv_aload hx hb hdg (lv_at h j hl) (kk H locs ls hP hD hS h)

theorem g_istore_n (C : CX K l0 E0 own Ts cc rm n0) {k : Fin 4} {i : Nat} {x : Int32} (hdg : decode cc pc = .ok (.istore_n k, 1)) (hi : (k : Nat) = i) (hn : i < n0) (hl : (i, Value.int x) :: lv.filter (fun q => !(q.1 == i) && !(q.1 + 1 == i && q.2.category == 2)) = lv')
    (kk : G K cs sl (pc + 1) lv' st ws) : G K cs sl pc lv (.int x :: st) ws := by
  obtain ⟨p, l, e, R, s, m, args, below, meth, c, E, A, nL, Q⟩ := K
  obtain ⟨hx, hb, hml, hown, hts, hK, hA, rfl, rfl, rfl, rfl⟩ := C
  exact fun H locs ls hP hD hS h => lv_istore_n hx hb hdg hi h hn hl (fun ls2 h2 => kk H locs ls2 hP hD hS h2)

theorem g_istore (C : CX K l0 E0 own Ts cc rm n0) {i : Nat} {x : Int32} (hdg : decode cc pc = .ok (.istore i, 2)) (hn : i < n0) (hl : (i, Value.int x) :: lv.filter (fun q => !(q.1 == i) && !(q.1 + 1 == i && q.2.category == 2)) = lv')
    (kk : G K cs sl (pc + 2) lv' st ws) : G K cs sl pc lv (.int x :: st) ws := by
  obtain ⟨p, l, e, R, s, m, args, below, meth, c, E, A, nL, Q⟩ := K
  obtain ⟨hx, hb, hml, hown, hts, hK, hA, rfl, rfl, rfl, rfl⟩ := C
  exact fun H locs ls hP hD hS h => lv_istore hx hb hdg h hn hl (fun ls2 h2 => kk H locs ls2 hP hD hS h2)

theorem g_lstore_n (C : CX K l0 E0 own Ts cc rm n0) {k : Fin 4} {i : Nat} {x : Int64} (hdg : decode cc pc = .ok (.lstore_n k, 1)) (hi : (k : Nat) = i) (hn : i + 1 < n0) (hl : (i, Value.long x) :: lv.filter (fun q => !(q.1 == i) && (!(q.1 == i + 1) && !(q.1 + 1 == i && q.2.category == 2))) = lv')
    (kk : G K cs sl (pc + 1) lv' st ws) : G K cs sl pc lv (.long x :: st) ws := by
  obtain ⟨p, l, e, R, s, m, args, below, meth, c, E, A, nL, Q⟩ := K
  obtain ⟨hx, hb, hml, hown, hts, hK, hA, rfl, rfl, rfl, rfl⟩ := C
  exact fun H locs ls hP hD hS h => lv_lstore_n hx hb hdg hi h hn hl (fun ls2 h2 => kk H locs ls2 hP hD hS h2)

theorem g_lstore (C : CX K l0 E0 own Ts cc rm n0) {i : Nat} {x : Int64} (hdg : decode cc pc = .ok (.lstore i, 2)) (hn : i + 1 < n0) (hl : (i, Value.long x) :: lv.filter (fun q => !(q.1 == i) && (!(q.1 == i + 1) && !(q.1 + 1 == i && q.2.category == 2))) = lv')
    (kk : G K cs sl (pc + 2) lv' st ws) : G K cs sl pc lv (.long x :: st) ws := by
  obtain ⟨p, l, e, R, s, m, args, below, meth, c, E, A, nL, Q⟩ := K
  obtain ⟨hx, hb, hml, hown, hts, hK, hA, rfl, rfl, rfl, rfl⟩ := C
  exact fun H locs ls hP hD hS h => lv_lstore hx hb hdg h hn hl (fun ls2 h2 => kk H locs ls2 hP hD hS h2)

theorem g_astore_n (C : CX K l0 E0 own Ts cc rm n0) {k : Fin 4} {i : Nat} {x : Nat} (hdg : decode cc pc = .ok (.astore_n k, 1)) (hi : (k : Nat) = i) (hn : i < n0) (hl : (i, Value.ref x) :: lv.filter (fun q => !(q.1 == i) && !(q.1 + 1 == i && q.2.category == 2)) = lv')
    (kk : G K cs sl (pc + 1) lv' st ws) : G K cs sl pc lv (.ref x :: st) ws := by
  obtain ⟨p, l, e, R, s, m, args, below, meth, c, E, A, nL, Q⟩ := K
  obtain ⟨hx, hb, hml, hown, hts, hK, hA, rfl, rfl, rfl, rfl⟩ := C
  exact fun H locs ls hP hD hS h => lv_astore_n hx hb hdg hi h hn hl (fun ls2 h2 => kk H locs ls2 hP hD hS h2)

theorem g_astore (C : CX K l0 E0 own Ts cc rm n0) {i : Nat} {x : Nat} (hdg : decode cc pc = .ok (.astore i, 2)) (hn : i < n0) (hl : (i, Value.ref x) :: lv.filter (fun q => !(q.1 == i) && !(q.1 + 1 == i && q.2.category == 2)) = lv')
    (kk : G K cs sl (pc + 2) lv' st ws) : G K cs sl pc lv (.ref x :: st) ws := by
  obtain ⟨p, l, e, R, s, m, args, below, meth, c, E, A, nL, Q⟩ := K
  obtain ⟨hx, hb, hml, hown, hts, hK, hA, rfl, rfl, rfl, rfl⟩ := C
  exact fun H locs ls hP hD hS h => lv_astore hx hb hdg h hn hl (fun ls2 h2 => kk H locs ls2 hP hD hS h2)

theorem g_iinc (C : CX K l0 E0 own Ts cc rm n0) {i : Nat} {n : Int} {x : Int32} (v : Int32) (hdg : decode cc pc = .ok (.iinc i n, 3)) (j : Nat) (hk : lv[j]? = some (i, .int x)) (hv : x + Int32.ofInt n = v) (hn : i < n0) (hl : (i, Value.int v) :: lv.filter (fun q => !(q.1 == i) && !(q.1 + 1 == i && q.2.category == 2)) = lv')
    (kk : G K cs sl (pc + 3) lv' st ws) : G K cs sl pc lv st ws := by
  obtain ⟨p, l, e, R, s, m, args, below, meth, c, E, A, nL, Q⟩ := K
  obtain ⟨hx, hb, hml, hown, hts, hK, hA, rfl, rfl, rfl, rfl⟩ := C
  exact fun H locs ls hP hD hS h => lv_iinc hx hb hdg h hk hv hn hl (fun ls2 h2 => kk H locs ls2 hP hD hS h2)

theorem g_iadd (C : CX K l0 E0 own Ts cc rm n0) {x y : Int32} (hdg : decode cc pc = .ok (.iadd, 1))
    (kk : G K cs sl (pc + 1) lv (.int (x + y) :: st) ws) : G K cs sl pc lv (.int y :: .int x :: st) ws := by
  obtain ⟨p, l, e, R, s, m, args, below, meth, c, E, A, nL, Q⟩ := K
  obtain ⟨hx, hb, hml, hown, hts, hK, hA, rfl, rfl, rfl, rfl⟩ := C
  exact fun H locs ls hP hD hS h => lv_iadd hx hb hdg (kk H locs ls hP hD hS h)

theorem g_isub (C : CX K l0 E0 own Ts cc rm n0) {x y : Int32} (hdg : decode cc pc = .ok (.isub, 1))
    (kk : G K cs sl (pc + 1) lv (.int (x - y) :: st) ws) : G K cs sl pc lv (.int y :: .int x :: st) ws := by
  obtain ⟨p, l, e, R, s, m, args, below, meth, c, E, A, nL, Q⟩ := K
  obtain ⟨hx, hb, hml, hown, hts, hK, hA, rfl, rfl, rfl, rfl⟩ := C
  exact fun H locs ls hP hD hS h => lv_isub hx hb hdg (kk H locs ls hP hD hS h)

theorem g_imul (C : CX K l0 E0 own Ts cc rm n0) {x y : Int32} (hdg : decode cc pc = .ok (.imul, 1))
    (kk : G K cs sl (pc + 1) lv (.int (x * y) :: st) ws) : G K cs sl pc lv (.int y :: .int x :: st) ws := by
  obtain ⟨p, l, e, R, s, m, args, below, meth, c, E, A, nL, Q⟩ := K
  obtain ⟨hx, hb, hml, hown, hts, hK, hA, rfl, rfl, rfl, rfl⟩ := C
  exact fun H locs ls hP hD hS h => lv_imul hx hb hdg (kk H locs ls hP hD hS h)

theorem g_iand (C : CX K l0 E0 own Ts cc rm n0) {x y : Int32} (hdg : decode cc pc = .ok (.iand, 1))
    (kk : G K cs sl (pc + 1) lv (.int (x &&& y) :: st) ws) : G K cs sl pc lv (.int y :: .int x :: st) ws := by
  obtain ⟨p, l, e, R, s, m, args, below, meth, c, E, A, nL, Q⟩ := K
  obtain ⟨hx, hb, hml, hown, hts, hK, hA, rfl, rfl, rfl, rfl⟩ := C
  exact fun H locs ls hP hD hS h => lv_iand hx hb hdg (kk H locs ls hP hD hS h)

theorem g_ior (C : CX K l0 E0 own Ts cc rm n0) {x y : Int32} (hdg : decode cc pc = .ok (.ior, 1))
    (kk : G K cs sl (pc + 1) lv (.int (x ||| y) :: st) ws) : G K cs sl pc lv (.int y :: .int x :: st) ws := by
  obtain ⟨p, l, e, R, s, m, args, below, meth, c, E, A, nL, Q⟩ := K
  obtain ⟨hx, hb, hml, hown, hts, hK, hA, rfl, rfl, rfl, rfl⟩ := C
  exact fun H locs ls hP hD hS h => lv_ior hx hb hdg (kk H locs ls hP hD hS h)

theorem g_ixor (C : CX K l0 E0 own Ts cc rm n0) {x y : Int32} (hdg : decode cc pc = .ok (.ixor, 1))
    (kk : G K cs sl (pc + 1) lv (.int (x ^^^ y) :: st) ws) : G K cs sl pc lv (.int y :: .int x :: st) ws := by
  obtain ⟨p, l, e, R, s, m, args, below, meth, c, E, A, nL, Q⟩ := K
  obtain ⟨hx, hb, hml, hown, hts, hK, hA, rfl, rfl, rfl, rfl⟩ := C
  exact fun H locs ls hP hD hS h => lv_ixor hx hb hdg (kk H locs ls hP hD hS h)

theorem g_ishl (C : CX K l0 E0 own Ts cc rm n0) {x y : Int32} (hdg : decode cc pc = .ok (.ishl, 1))
    (kk : G K cs sl (pc + 1) lv (.int (x <<< (y &&& 31)) :: st) ws) : G K cs sl pc lv (.int y :: .int x :: st) ws := by
  obtain ⟨p, l, e, R, s, m, args, below, meth, c, E, A, nL, Q⟩ := K
  obtain ⟨hx, hb, hml, hown, hts, hK, hA, rfl, rfl, rfl, rfl⟩ := C
  exact fun H locs ls hP hD hS h => lv_ishl hx hb hdg (kk H locs ls hP hD hS h)

theorem g_ishr (C : CX K l0 E0 own Ts cc rm n0) {x y : Int32} (hdg : decode cc pc = .ok (.ishr, 1))
    (kk : G K cs sl (pc + 1) lv (.int (x >>> (y &&& 31)) :: st) ws) : G K cs sl pc lv (.int y :: .int x :: st) ws := by
  obtain ⟨p, l, e, R, s, m, args, below, meth, c, E, A, nL, Q⟩ := K
  obtain ⟨hx, hb, hml, hown, hts, hK, hA, rfl, rfl, rfl, rfl⟩ := C
  exact fun H locs ls hP hD hS h => lv_ishr hx hb hdg (kk H locs ls hP hD hS h)

theorem g_idiv (C : CX K l0 E0 own Ts cc rm n0) {x y : Int32} (hdg : decode cc pc = .ok (.idiv, 1)) (hne : ¬ y = 0)
    (kk : G K cs sl (pc + 1) lv (.int (x / y) :: st) ws) : G K cs sl pc lv (.int y :: .int x :: st) ws := by
  obtain ⟨p, l, e, R, s, m, args, below, meth, c, E, A, nL, Q⟩ := K
  obtain ⟨hx, hb, hml, hown, hts, hK, hA, rfl, rfl, rfl, rfl⟩ := C
  exact fun H locs ls hP hD hS h => lv_idiv hx hb hdg hne (kk H locs ls hP hD hS h)

theorem g_irem (C : CX K l0 E0 own Ts cc rm n0) {x y : Int32} (hdg : decode cc pc = .ok (.irem, 1)) (hne : ¬ y = 0)
    (kk : G K cs sl (pc + 1) lv (.int (x - x / y * y) :: st) ws) : G K cs sl pc lv (.int y :: .int x :: st) ws := by
  obtain ⟨p, l, e, R, s, m, args, below, meth, c, E, A, nL, Q⟩ := K
  obtain ⟨hx, hb, hml, hown, hts, hK, hA, rfl, rfl, rfl, rfl⟩ := C
  exact fun H locs ls hP hD hS h => lv_irem hx hb hdg hne (kk H locs ls hP hD hS h)

theorem g_iushr (C : CX K l0 E0 own Ts cc rm n0) {x y v : Int32} (hdg : decode cc pc = .ok (.iushr, 1)) (hv : (x.toUInt32 >>> (y.toUInt32 &&& Int32.toUInt32 31)).toInt32 = v)
    (kk : G K cs sl (pc + 1) lv (.int v :: st) ws) : G K cs sl pc lv (.int y :: .int x :: st) ws := by
  obtain ⟨p, l, e, R, s, m, args, below, meth, c, E, A, nL, Q⟩ := K
  obtain ⟨hx, hb, hml, hown, hts, hK, hA, rfl, rfl, rfl, rfl⟩ := C
  exact fun H locs ls hP hD hS h => lv_iushr hx hb hdg hv (kk H locs ls hP hD hS h)

theorem g_ladd (C : CX K l0 E0 own Ts cc rm n0) {x y : Int64} (hdg : decode cc pc = .ok (.ladd, 1))
    (kk : G K cs sl (pc + 1) lv (.long (x + y) :: st) ws) : G K cs sl pc lv (.long y :: .long x :: st) ws := by
  obtain ⟨p, l, e, R, s, m, args, below, meth, c, E, A, nL, Q⟩ := K
  obtain ⟨hx, hb, hml, hown, hts, hK, hA, rfl, rfl, rfl, rfl⟩ := C
  exact fun H locs ls hP hD hS h => lv_ladd hx hb hdg (kk H locs ls hP hD hS h)

theorem g_lsub (C : CX K l0 E0 own Ts cc rm n0) {x y : Int64} (hdg : decode cc pc = .ok (.lsub, 1))
    (kk : G K cs sl (pc + 1) lv (.long (x - y) :: st) ws) : G K cs sl pc lv (.long y :: .long x :: st) ws := by
  obtain ⟨p, l, e, R, s, m, args, below, meth, c, E, A, nL, Q⟩ := K
  obtain ⟨hx, hb, hml, hown, hts, hK, hA, rfl, rfl, rfl, rfl⟩ := C
  exact fun H locs ls hP hD hS h => lv_lsub hx hb hdg (kk H locs ls hP hD hS h)

theorem g_lmul (C : CX K l0 E0 own Ts cc rm n0) {x y : Int64} (hdg : decode cc pc = .ok (.lmul, 1))
    (kk : G K cs sl (pc + 1) lv (.long (x * y) :: st) ws) : G K cs sl pc lv (.long y :: .long x :: st) ws := by
  obtain ⟨p, l, e, R, s, m, args, below, meth, c, E, A, nL, Q⟩ := K
  obtain ⟨hx, hb, hml, hown, hts, hK, hA, rfl, rfl, rfl, rfl⟩ := C
  exact fun H locs ls hP hD hS h => lv_lmul hx hb hdg (kk H locs ls hP hD hS h)

theorem g_ldiv (C : CX K l0 E0 own Ts cc rm n0) {x y : Int64} (hdg : decode cc pc = .ok (.ldiv, 1)) (hne : ¬ y = 0)
    (kk : G K cs sl (pc + 1) lv (.long (x / y) :: st) ws) : G K cs sl pc lv (.long y :: .long x :: st) ws := by
  obtain ⟨p, l, e, R, s, m, args, below, meth, c, E, A, nL, Q⟩ := K
  obtain ⟨hx, hb, hml, hown, hts, hK, hA, rfl, rfl, rfl, rfl⟩ := C
  exact fun H locs ls hP hD hS h => lv_ldiv hx hb hdg hne (kk H locs ls hP hD hS h)

theorem g_lrem (C : CX K l0 E0 own Ts cc rm n0) {x y : Int64} (hdg : decode cc pc = .ok (.lrem, 1)) (hne : ¬ y = 0)
    (kk : G K cs sl (pc + 1) lv (.long (x - x / y * y) :: st) ws) : G K cs sl pc lv (.long y :: .long x :: st) ws := by
  obtain ⟨p, l, e, R, s, m, args, below, meth, c, E, A, nL, Q⟩ := K
  obtain ⟨hx, hb, hml, hown, hts, hK, hA, rfl, rfl, rfl, rfl⟩ := C
  exact fun H locs ls hP hD hS h => lv_lrem hx hb hdg hne (kk H locs ls hP hD hS h)

theorem g_i2l (C : CX K l0 E0 own Ts cc rm n0) {x : Int32} (hdg : decode cc pc = .ok (.i2l, 1))
    (kk : G K cs sl (pc + 1) lv (.long x.toInt64 :: st) ws) : G K cs sl pc lv (.int x :: st) ws := by
  obtain ⟨p, l, e, R, s, m, args, below, meth, c, E, A, nL, Q⟩ := K
  obtain ⟨hx, hb, hml, hown, hts, hK, hA, rfl, rfl, rfl, rfl⟩ := C
  exact fun H locs ls hP hD hS h => lv_i2l hx hb hdg rfl (kk H locs ls hP hD hS h)

theorem g_l2i (C : CX K l0 E0 own Ts cc rm n0) {x : Int64} (hdg : decode cc pc = .ok (.l2i, 1))
    (kk : G K cs sl (pc + 1) lv (.int x.toInt32 :: st) ws) : G K cs sl pc lv (.long x :: st) ws := by
  obtain ⟨p, l, e, R, s, m, args, below, meth, c, E, A, nL, Q⟩ := K
  obtain ⟨hx, hb, hml, hown, hts, hK, hA, rfl, rfl, rfl, rfl⟩ := C
  exact fun H locs ls hP hD hS h => lv_l2i hx hb hdg rfl (kk H locs ls hP hD hS h)

theorem g_lcmp (C : CX K l0 E0 own Ts cc rm n0) {x y : Int64} (hdg : decode cc pc = .ok (.lcmp, 1))
    (kk : G K cs sl (pc + 1) lv (.int (lg_cmp x y) :: st) ws) : G K cs sl pc lv (.long y :: .long x :: st) ws := by
  obtain ⟨p, l, e, R, s, m, args, below, meth, c, E, A, nL, Q⟩ := K
  obtain ⟨hx, hb, hml, hown, hts, hK, hA, rfl, rfl, rfl, rfl⟩ := C
  exact fun H locs ls hP hD hS h => W.lcmp hx hb hdg (kk H locs ls hP hD hS h)

theorem g_ldc2 (C : CX K l0 E0 own Ts cc rm n0) {index : Nat} {v : Int64} (hm : Cond.constantLong own index v ∈ Ts) (hdg : decode cc pc = .ok (.ldc2_w index, 3))
    (kk : G K cs sl (pc + 3) lv (.long v :: st) ws) : G K cs sl pc lv st ws := by
  obtain ⟨p, l, e, R, s, m, args, below, meth, c, E, A, nL, Q⟩ := K
  obtain ⟨hx, hb, hml, hown, hts, hK, hA, rfl, rfl, rfl, rfl⟩ := C
  exact fun H locs ls hP hD hS h => lv_ldc2 hx hb hown (hts _ hm) hdg (kk H locs ls hP hD hS h)

theorem g_ldc (C : CX K l0 E0 own Ts cc rm n0) {index : Nat} {v : Int32} (hm : Cond.constant own index v ∈ Ts) (hdg : decode cc pc = .ok (.ldc index, 2))
    (kk : G K cs sl (pc + 2) lv (.int v :: st) ws) : G K cs sl pc lv st ws := by
  obtain ⟨p, l, e, R, s, m, args, below, meth, c, E, A, nL, Q⟩ := K
  obtain ⟨hx, hb, hml, hown, hts, hK, hA, rfl, rfl, rfl, rfl⟩ := C
  exact fun H locs ls hP hD hS h => lv_ldc hx hb hown (hts _ hm) hdg (kk H locs ls hP hD hS h)

theorem g_ldcw (C : CX K l0 E0 own Ts cc rm n0) {index : Nat} {v : Int32} (hm : Cond.constant own index v ∈ Ts) (hdg : decode cc pc = .ok (.ldc_w index, 3))
    (kk : G K cs sl (pc + 3) lv (.int v :: st) ws) : G K cs sl pc lv st ws := by
  obtain ⟨p, l, e, R, s, m, args, below, meth, c, E, A, nL, Q⟩ := K
  obtain ⟨hx, hb, hml, hown, hts, hK, hA, rfl, rfl, rfl, rfl⟩ := C
  exact fun H locs ls hP hD hS h => lv_ldcw hx hb hown (hts _ hm) hdg (kk H locs ls hP hD hS h)

theorem g_dup (C : CX K l0 E0 own Ts cc rm n0) {va : Value} (hdg : decode cc pc = .ok (.dup, 1)) (hva : va.category = 1)
    (kk : G K cs sl (pc + 1) lv (va :: va :: st) ws) : G K cs sl pc lv (va :: st) ws := by
  obtain ⟨p, l, e, R, s, m, args, below, meth, c, E, A, nL, Q⟩ := K
  obtain ⟨hx, hb, hml, hown, hts, hK, hA, rfl, rfl, rfl, rfl⟩ := C
  exact fun H locs ls hP hD hS h => lv_dup hx hb hdg hva (kk H locs ls hP hD hS h)

theorem g_pop (C : CX K l0 E0 own Ts cc rm n0) {va : Value} (hdg : decode cc pc = .ok (.pop, 1)) (hva : va.category = 1)
    (kk : G K cs sl (pc + 1) lv st ws) : G K cs sl pc lv (va :: st) ws := by
  obtain ⟨p, l, e, R, s, m, args, below, meth, c, E, A, nL, Q⟩ := K
  obtain ⟨hx, hb, hml, hown, hts, hK, hA, rfl, rfl, rfl, rfl⟩ := C
  exact fun H locs ls hP hD hS h => lv_pop hx hb hdg hva (kk H locs ls hP hD hS h)

theorem g_dup2 (C : CX K l0 E0 own Ts cc rm n0) {va vb : Value} (hdg : decode cc pc = .ok (.dup2, 1)) (hva : va.category = 1) (hvb : vb.category = 1)
    (kk : G K cs sl (pc + 1) lv (va :: vb :: va :: vb :: st) ws) : G K cs sl pc lv (va :: vb :: st) ws := by
  obtain ⟨p, l, e, R, s, m, args, below, meth, c, E, A, nL, Q⟩ := K
  obtain ⟨hx, hb, hml, hown, hts, hK, hA, rfl, rfl, rfl, rfl⟩ := C
  exact fun H locs ls hP hD hS h => lv_dup2_11 hx hb hdg hva hvb (kk H locs ls hP hD hS h)

theorem g_goto (C : CX K l0 E0 own Ts cc rm n0) {off : Int} (tgt : Nat) (hdg : decode cc pc = .ok (.goto off, 3)) (ht : (pc : Int) + off = (tgt : Int))
    (kk : G K cs sl tgt lv st ws) : G K cs sl pc lv st ws := by
  obtain ⟨p, l, e, R, s, m, args, below, meth, c, E, A, nL, Q⟩ := K
  obtain ⟨hx, hb, hml, hown, hts, hK, hA, rfl, rfl, rfl, rfl⟩ := C
  exact fun H locs ls hP hD hS h => lv_goto hx hb hdg ht (kk H locs ls hP hD hS h)

theorem g_if_eq (C : CX K l0 E0 own Ts cc rm n0) {x : Int32} {off : Int} (tgt : Nat) (hdg : decode cc pc = .ok (.ifCond .eq off, 3)) (ht : (pc : Int) + off = (tgt : Int))
    (kt : x = 0 → G K cs sl tgt lv st ws) (kf : ¬ x = 0 → G K cs sl (pc + 3) lv st ws) : G K cs sl pc lv (.int x :: st) ws := by
  obtain ⟨p, l, e, R, s, m, args, below, meth, c, E, A, nL, Q⟩ := K
  obtain ⟨hx, hb, hml, hown, hts, hK, hA, rfl, rfl, rfl, rfl⟩ := C
  exact fun H locs ls hP hD hS h => lv_if_eq hx hb hdg ht (fun q => kt q H locs ls hP hD hS h) (fun q => kf q H locs ls hP hD hS h)

theorem g_if_ne (C : CX K l0 E0 own Ts cc rm n0) {x : Int32} {off : Int} (tgt : Nat) (hdg : decode cc pc = .ok (.ifCond .ne off, 3)) (ht : (pc : Int) + off = (tgt : Int))
    (kt : ¬ x = 0 → G K cs sl tgt lv st ws) (kf : x = 0 → G K cs sl (pc + 3) lv st ws) : G K cs sl pc lv (.int x :: st) ws := by
  obtain ⟨p, l, e, R, s, m, args, below, meth, c, E, A, nL, Q⟩ := K
  obtain ⟨hx, hb, hml, hown, hts, hK, hA, rfl, rfl, rfl, rfl⟩ := C
  exact fun H locs ls hP hD hS h => lv_if_ne hx hb hdg ht (fun q => kt q H locs ls hP hD hS h) (fun q => kf q H locs ls hP hD hS h)

theorem g_if_lt (C : CX K l0 E0 own Ts cc rm n0) {x : Int32} {off : Int} (tgt : Nat) (hdg : decode cc pc = .ok (.ifCond .lt off, 3)) (ht : (pc : Int) + off = (tgt : Int))
    (kt : x < 0 → G K cs sl tgt lv st ws) (kf : ¬ x < 0 → G K cs sl (pc + 3) lv st ws) : G K cs sl pc lv (.int x :: st) ws := by
  obtain ⟨p, l, e, R, s, m, args, below, meth, c, E, A, nL, Q⟩ := K
  obtain ⟨hx, hb, hml, hown, hts, hK, hA, rfl, rfl, rfl, rfl⟩ := C
  exact fun H locs ls hP hD hS h => lv_if_lt hx hb hdg ht (fun q => kt q H locs ls hP hD hS h) (fun q => kf q H locs ls hP hD hS h)

theorem g_if_ge (C : CX K l0 E0 own Ts cc rm n0) {x : Int32} {off : Int} (tgt : Nat) (hdg : decode cc pc = .ok (.ifCond .ge off, 3)) (ht : (pc : Int) + off = (tgt : Int))
    (kt : 0 ≤ x → G K cs sl tgt lv st ws) (kf : ¬ 0 ≤ x → G K cs sl (pc + 3) lv st ws) : G K cs sl pc lv (.int x :: st) ws := by
  obtain ⟨p, l, e, R, s, m, args, below, meth, c, E, A, nL, Q⟩ := K
  obtain ⟨hx, hb, hml, hown, hts, hK, hA, rfl, rfl, rfl, rfl⟩ := C
  exact fun H locs ls hP hD hS h => lv_if_ge hx hb hdg ht (fun q => kt q H locs ls hP hD hS h) (fun q => kf q H locs ls hP hD hS h)

theorem g_if_gt (C : CX K l0 E0 own Ts cc rm n0) {x : Int32} {off : Int} (tgt : Nat) (hdg : decode cc pc = .ok (.ifCond .gt off, 3)) (ht : (pc : Int) + off = (tgt : Int))
    (kt : 0 < x → G K cs sl tgt lv st ws) (kf : ¬ 0 < x → G K cs sl (pc + 3) lv st ws) : G K cs sl pc lv (.int x :: st) ws := by
  obtain ⟨p, l, e, R, s, m, args, below, meth, c, E, A, nL, Q⟩ := K
  obtain ⟨hx, hb, hml, hown, hts, hK, hA, rfl, rfl, rfl, rfl⟩ := C
  exact fun H locs ls hP hD hS h => lv_if_gt hx hb hdg ht (fun q => kt q H locs ls hP hD hS h) (fun q => kf q H locs ls hP hD hS h)

theorem g_if_le (C : CX K l0 E0 own Ts cc rm n0) {x : Int32} {off : Int} (tgt : Nat) (hdg : decode cc pc = .ok (.ifCond .le off, 3)) (ht : (pc : Int) + off = (tgt : Int))
    (kt : x ≤ 0 → G K cs sl tgt lv st ws) (kf : ¬ x ≤ 0 → G K cs sl (pc + 3) lv st ws) : G K cs sl pc lv (.int x :: st) ws := by
  obtain ⟨p, l, e, R, s, m, args, below, meth, c, E, A, nL, Q⟩ := K
  obtain ⟨hx, hb, hml, hown, hts, hK, hA, rfl, rfl, rfl, rfl⟩ := C
  exact fun H locs ls hP hD hS h => lv_if_le hx hb hdg ht (fun q => kt q H locs ls hP hD hS h) (fun q => kf q H locs ls hP hD hS h)

theorem g_icmp_eq (C : CX K l0 E0 own Ts cc rm n0) {x y : Int32} {off : Int} (tgt : Nat) (hdg : decode cc pc = .ok (.if_icmp .eq off, 3)) (ht : (pc : Int) + off = (tgt : Int))
    (kt : x = y → G K cs sl tgt lv st ws) (kf : ¬ x = y → G K cs sl (pc + 3) lv st ws) : G K cs sl pc lv (.int y :: .int x :: st) ws := by
  obtain ⟨p, l, e, R, s, m, args, below, meth, c, E, A, nL, Q⟩ := K
  obtain ⟨hx, hb, hml, hown, hts, hK, hA, rfl, rfl, rfl, rfl⟩ := C
  exact fun H locs ls hP hD hS h => lv_icmp_eq hx hb hdg ht (fun q => kt q H locs ls hP hD hS h) (fun q => kf q H locs ls hP hD hS h)

theorem g_icmp_ne (C : CX K l0 E0 own Ts cc rm n0) {x y : Int32} {off : Int} (tgt : Nat) (hdg : decode cc pc = .ok (.if_icmp .ne off, 3)) (ht : (pc : Int) + off = (tgt : Int))
    (kt : ¬ x = y → G K cs sl tgt lv st ws) (kf : x = y → G K cs sl (pc + 3) lv st ws) : G K cs sl pc lv (.int y :: .int x :: st) ws := by
  obtain ⟨p, l, e, R, s, m, args, below, meth, c, E, A, nL, Q⟩ := K
  obtain ⟨hx, hb, hml, hown, hts, hK, hA, rfl, rfl, rfl, rfl⟩ := C
  exact fun H locs ls hP hD hS h => lv_icmp_ne hx hb hdg ht (fun q => kt q H locs ls hP hD hS h) (fun q => kf q H locs ls hP hD hS h)

theorem g_icmp_lt (C : CX K l0 E0 own Ts cc rm n0) {x y : Int32} {off : Int} (tgt : Nat) (hdg : decode cc pc = .ok (.if_icmp .lt off, 3)) (ht : (pc : Int) + off = (tgt : Int))
    (kt : x < y → G K cs sl tgt lv st ws) (kf : ¬ x < y → G K cs sl (pc + 3) lv st ws) : G K cs sl pc lv (.int y :: .int x :: st) ws := by
  obtain ⟨p, l, e, R, s, m, args, below, meth, c, E, A, nL, Q⟩ := K
  obtain ⟨hx, hb, hml, hown, hts, hK, hA, rfl, rfl, rfl, rfl⟩ := C
  exact fun H locs ls hP hD hS h => lv_icmp_lt hx hb hdg ht (fun q => kt q H locs ls hP hD hS h) (fun q => kf q H locs ls hP hD hS h)

theorem g_icmp_ge (C : CX K l0 E0 own Ts cc rm n0) {x y : Int32} {off : Int} (tgt : Nat) (hdg : decode cc pc = .ok (.if_icmp .ge off, 3)) (ht : (pc : Int) + off = (tgt : Int))
    (kt : y ≤ x → G K cs sl tgt lv st ws) (kf : ¬ y ≤ x → G K cs sl (pc + 3) lv st ws) : G K cs sl pc lv (.int y :: .int x :: st) ws := by
  obtain ⟨p, l, e, R, s, m, args, below, meth, c, E, A, nL, Q⟩ := K
  obtain ⟨hx, hb, hml, hown, hts, hK, hA, rfl, rfl, rfl, rfl⟩ := C
  exact fun H locs ls hP hD hS h => lv_icmp_ge hx hb hdg ht (fun q => kt q H locs ls hP hD hS h) (fun q => kf q H locs ls hP hD hS h)

theorem g_icmp_gt (C : CX K l0 E0 own Ts cc rm n0) {x y : Int32} {off : Int} (tgt : Nat) (hdg : decode cc pc = .ok (.if_icmp .gt off, 3)) (ht : (pc : Int) + off = (tgt : Int))
    (kt : y < x → G K cs sl tgt lv st ws) (kf : ¬ y < x → G K cs sl (pc + 3) lv st ws) : G K cs sl pc lv (.int y :: .int x :: st) ws := by
  obtain ⟨p, l, e, R, s, m, args, below, meth, c, E, A, nL, Q⟩ := K
  obtain ⟨hx, hb, hml, hown, hts, hK, hA, rfl, rfl, rfl, rfl⟩ := C
  exact fun H locs ls hP hD hS h => lv_icmp_gt hx hb hdg ht (fun q => kt q H locs ls hP hD hS h) (fun q => kf q H locs ls hP hD hS h)

theorem g_icmp_le (C : CX K l0 E0 own Ts cc rm n0) {x y : Int32} {off : Int} (tgt : Nat) (hdg : decode cc pc = .ok (.if_icmp .le off, 3)) (ht : (pc : Int) + off = (tgt : Int))
    (kt : x ≤ y → G K cs sl tgt lv st ws) (kf : ¬ x ≤ y → G K cs sl (pc + 3) lv st ws) : G K cs sl pc lv (.int y :: .int x :: st) ws := by
  obtain ⟨p, l, e, R, s, m, args, below, meth, c, E, A, nL, Q⟩ := K
  obtain ⟨hx, hb, hml, hown, hts, hK, hA, rfl, rfl, rfl, rfl⟩ := C
  exact fun H locs ls hP hD hS h => lv_icmp_le hx hb hdg ht (fun q => kt q H locs ls hP hD hS h) (fun q => kf q H locs ls hP hD hS h)

theorem nI_zero : (0 : Int32) = nI 0 := rfl
theorem g_icmp_eqN (C : CX K l0 E0 own Ts cc rm n0) {a b : Nat} {off : Int} (tgt : Nat) (hdg : decode cc pc = .ok (.if_icmp .eq off, 3)) (ht : (pc : Int) + off = (tgt : Int)) (ha : a < 2 ^ 31) (hb : b < 2 ^ 31)
    (kt : a = b → G K cs sl tgt lv st ws) (kf : ¬ a = b → G K cs sl (pc + 3) lv st ws) : G K cs sl pc lv (.int (nI b) :: .int (nI a) :: st) ws :=
  g_icmp_eq C tgt hdg ht (fun q => kt ((nI_eq ha hb).mp q)) (fun q => kf (fun z => q ((nI_eq ha hb).mpr z)))

theorem g_icmp_neN (C : CX K l0 E0 own Ts cc rm n0) {a b : Nat} {off : Int} (tgt : Nat) (hdg : decode cc pc = .ok (.if_icmp .ne off, 3)) (ht : (pc : Int) + off = (tgt : Int)) (ha : a < 2 ^ 31) (hb : b < 2 ^ 31)
    (kt : ¬ a = b → G K cs sl tgt lv st ws) (kf : a = b → G K cs sl (pc + 3) lv st ws) : G K cs sl pc lv (.int (nI b) :: .int (nI a) :: st) ws :=
  g_icmp_ne C tgt hdg ht (fun q => kt (fun z => q ((nI_eq ha hb).mpr z))) (fun q => kf ((nI_eq ha hb).mp q))

theorem g_icmp_ltN (C : CX K l0 E0 own Ts cc rm n0) {a b : Nat} {off : Int} (tgt : Nat) (hdg : decode cc pc = .ok (.if_icmp .lt off, 3)) (ht : (pc : Int) + off = (tgt : Int)) (ha : a < 2 ^ 31) (hb : b < 2 ^ 31)
    (kt : a < b → G K cs sl tgt lv st ws) (kf : b ≤ a → G K cs sl (pc + 3) lv st ws) : G K cs sl pc lv (.int (nI b) :: .int (nI a) :: st) ws :=
  g_icmp_lt C tgt hdg ht (fun q => kt ((nI_ltI ha hb).mp q)) (fun q => kf (Nat.not_lt.mp (fun z => q ((nI_ltI ha hb).mpr z))))

theorem g_icmp_geN (C : CX K l0 E0 own Ts cc rm n0) {a b : Nat} {off : Int} (tgt : Nat) (hdg : decode cc pc = .ok (.if_icmp .ge off, 3)) (ht : (pc : Int) + off = (tgt : Int)) (ha : a < 2 ^ 31) (hb : b < 2 ^ 31)
    (kt : b ≤ a → G K cs sl tgt lv st ws) (kf : a < b → G K cs sl (pc + 3) lv st ws) : G K cs sl pc lv (.int (nI b) :: .int (nI a) :: st) ws :=
  g_icmp_ge C tgt hdg ht (fun q => kt ((nI_leI hb ha).mp q)) (fun q => kf (Nat.not_le.mp (fun z => q ((nI_leI hb ha).mpr z))))

theorem g_icmp_gtN (C : CX K l0 E0 own Ts cc rm n0) {a b : Nat} {off : Int} (tgt : Nat) (hdg : decode cc pc = .ok (.if_icmp .gt off, 3)) (ht : (pc : Int) + off = (tgt : Int)) (ha : a < 2 ^ 31) (hb : b < 2 ^ 31)
    (kt : b < a → G K cs sl tgt lv st ws) (kf : a ≤ b → G K cs sl (pc + 3) lv st ws) : G K cs sl pc lv (.int (nI b) :: .int (nI a) :: st) ws :=
  g_icmp_gt C tgt hdg ht (fun q => kt ((nI_ltI hb ha).mp q)) (fun q => kf (Nat.not_lt.mp (fun z => q ((nI_ltI hb ha).mpr z))))

theorem g_icmp_leN (C : CX K l0 E0 own Ts cc rm n0) {a b : Nat} {off : Int} (tgt : Nat) (hdg : decode cc pc = .ok (.if_icmp .le off, 3)) (ht : (pc : Int) + off = (tgt : Int)) (ha : a < 2 ^ 31) (hb : b < 2 ^ 31)
    (kt : a ≤ b → G K cs sl tgt lv st ws) (kf : b < a → G K cs sl (pc + 3) lv st ws) : G K cs sl pc lv (.int (nI b) :: .int (nI a) :: st) ws :=
  g_icmp_le C tgt hdg ht (fun q => kt ((nI_leI ha hb).mp q)) (fun q => kf (Nat.not_le.mp (fun z => q ((nI_leI ha hb).mpr z))))

theorem g_if_eqN (C : CX K l0 E0 own Ts cc rm n0) {a : Nat} {off : Int} (tgt : Nat) (hdg : decode cc pc = .ok (.ifCond .eq off, 3)) (ht : (pc : Int) + off = (tgt : Int)) (ha : a < 2 ^ 31)
    (kt : a = 0 → G K cs sl tgt lv st ws) (kf : ¬ a = 0 → G K cs sl (pc + 3) lv st ws) : G K cs sl pc lv (.int (nI a) :: st) ws :=
  g_if_eq C tgt hdg ht (fun q => kt ((nI_eq ha (by decide)).mp q)) (fun q => kf (fun z => q ((nI_eq ha (by decide)).mpr z)))

theorem g_if_neN (C : CX K l0 E0 own Ts cc rm n0) {a : Nat} {off : Int} (tgt : Nat) (hdg : decode cc pc = .ok (.ifCond .ne off, 3)) (ht : (pc : Int) + off = (tgt : Int)) (ha : a < 2 ^ 31)
    (kt : ¬ a = 0 → G K cs sl tgt lv st ws) (kf : a = 0 → G K cs sl (pc + 3) lv st ws) : G K cs sl pc lv (.int (nI a) :: st) ws :=
  g_if_ne C tgt hdg ht (fun q => kt (fun z => q ((nI_eq ha (by decide)).mpr z))) (fun q => kf ((nI_eq ha (by decide)).mp q))

theorem g_if_leN (C : CX K l0 E0 own Ts cc rm n0) {a : Nat} {off : Int} (tgt : Nat) (hdg : decode cc pc = .ok (.ifCond .le off, 3)) (ht : (pc : Int) + off = (tgt : Int)) (ha : a < 2 ^ 31)
    (kt : a = 0 → G K cs sl tgt lv st ws) (kf : 0 < a → G K cs sl (pc + 3) lv st ws) : G K cs sl pc lv (.int (nI a) :: st) ws :=
  g_if_le C tgt hdg ht (fun q => kt (Nat.le_zero.mp ((nI_leI ha (by decide)).mp q))) (fun q => kf (Nat.not_le.mp (fun z => q ((nI_leI ha (by decide)).mpr z))))

theorem g_if_gtN (C : CX K l0 E0 own Ts cc rm n0) {a : Nat} {off : Int} (tgt : Nat) (hdg : decode cc pc = .ok (.ifCond .gt off, 3)) (ht : (pc : Int) + off = (tgt : Int)) (ha : a < 2 ^ 31)
    (kt : 0 < a → G K cs sl tgt lv st ws) (kf : a = 0 → G K cs sl (pc + 3) lv st ws) : G K cs sl pc lv (.int (nI a) :: st) ws :=
  g_if_gt C tgt hdg ht (fun q => kt ((nI_ltI (by decide) ha).mp q)) (fun q => kf (Nat.le_zero.mp (Nat.not_lt.mp (fun z => q ((nI_ltI (by decide) ha).mpr z)))))

theorem g_if_ltN (C : CX K l0 E0 own Ts cc rm n0) {a : Nat} {off : Int} (tgt : Nat) (hdg : decode cc pc = .ok (.ifCond .lt off, 3)) (ht : (pc : Int) + off = (tgt : Int)) (ha : a < 2 ^ 31)
    (kf : G K cs sl (pc + 3) lv st ws) : G K cs sl pc lv (.int (nI a) :: st) ws :=
  g_if_lt C tgt hdg ht (fun q => absurd q (nI_pos ha)) (fun _ => kf)
theorem g_if_geN (C : CX K l0 E0 own Ts cc rm n0) {a : Nat} {off : Int} (tgt : Nat) (hdg : decode cc pc = .ok (.ifCond .ge off, 3)) (ht : (pc : Int) + off = (tgt : Int)) (ha : a < 2 ^ 31)
    (kt : G K cs sl tgt lv st ws) : G K cs sl pc lv (.int (nI a) :: st) ws :=
  g_if_ge C tgt hdg ht (fun _ => kt) (fun q => absurd (nI_pos' ha) q)
/-- a truth value as the machine has it -/
def bI (c : Prop) [Decidable c] : Int32 := if c then nI 1 else nI 0
theorem bI_t {c : Prop} [Decidable c] (h : c) : bI c = nI 1 := if_pos h
theorem bI_f {c : Prop} [Decidable c] (h : ¬ c) : bI c = nI 0 := if_neg h
theorem bI_0 {c : Prop} [Decidable c] : bI c = 0 ↔ ¬ c := by
  unfold bI
  by_cases h : c
  · rw [if_pos h]; exact ⟨fun q => absurd q (by decide), fun q => absurd h q⟩
  · rw [if_neg h]; exact ⟨fun _ => h, fun _ => rfl⟩
theorem g_if_eqB (C : CX K l0 E0 own Ts cc rm n0) {c : Prop} [Decidable c] {off : Int} (tgt : Nat) (hdg : decode cc pc = .ok (.ifCond .eq off, 3)) (ht : (pc : Int) + off = (tgt : Int))
    (kt : ¬ c → G K cs sl tgt lv st ws) (kf : c → G K cs sl (pc + 3) lv st ws) : G K cs sl pc lv (.int (bI c) :: st) ws :=
  g_if_eq C tgt hdg ht (fun q => kt (bI_0.mp q)) (fun q => kf (Decidable.not_not.mp (fun z => q (bI_0.mpr z))))
theorem g_if_neB (C : CX K l0 E0 own Ts cc rm n0) {c : Prop} [Decidable c] {off : Int} (tgt : Nat) (hdg : decode cc pc = .ok (.ifCond .ne off, 3)) (ht : (pc : Int) + off = (tgt : Int))
    (kt : c → G K cs sl tgt lv st ws) (kf : ¬ c → G K cs sl (pc + 3) lv st ws) : G K cs sl pc lv (.int (bI c) :: st) ws :=
  g_if_ne C tgt hdg ht (fun q => kt (Decidable.not_not.mp (fun z => q (bI_0.mpr z)))) (fun q => kf (bI_0.mp q))
theorem g_iaddN (C : CX K l0 E0 own Ts cc rm n0) {a b : Nat} (hdg : decode cc pc = .ok (.iadd, 1)) (kk : G K cs sl (pc + 1) lv (.int (nI (a + b)) :: st) ws) : G K cs sl pc lv (.int (nI b) :: .int (nI a) :: st) ws :=
  g_iadd C hdg (g_as (nI_add a b) kk)
theorem g_imulN (C : CX K l0 E0 own Ts cc rm n0) {a b : Nat} (hdg : decode cc pc = .ok (.imul, 1)) (kk : G K cs sl (pc + 1) lv (.int (nI (a * b)) :: st) ws) : G K cs sl pc lv (.int (nI b) :: .int (nI a) :: st) ws :=
  g_imul C hdg (g_as (pk_mul a b) kk)
theorem g_isubN (C : CX K l0 E0 own Ts cc rm n0) {a b : Nat} (hdg : decode cc pc = .ok (.isub, 1)) (h : b ≤ a) (kk : G K cs sl (pc + 1) lv (.int (nI (a - b)) :: st) ws) : G K cs sl pc lv (.int (nI b) :: .int (nI a) :: st) ws :=
  g_isub C hdg (g_as (pk_sub h) kk)
theorem g_idivN (C : CX K l0 E0 own Ts cc rm n0) {a b : Nat} (hdg : decode cc pc = .ok (.idiv, 1)) (ha : a < 2 ^ 31) (h0 : 0 < b) (hb : b < 2 ^ 31) (kk : G K cs sl (pc + 1) lv (.int (nI (a / b)) :: st) ws) : G K cs sl pc lv (.int (nI b) :: .int (nI a) :: st) ws :=
  g_idiv C hdg (nI_ne0 h0 hb) (g_as (pk_div ha h0 hb) kk)
theorem g_iremN (C : CX K l0 E0 own Ts cc rm n0) {a b : Nat} (hdg : decode cc pc = .ok (.irem, 1)) (ha : a < 2 ^ 31) (h0 : 0 < b) (hb : b < 2 ^ 31) (kk : G K cs sl (pc + 1) lv (.int (nI (a % b)) :: st) ws) : G K cs sl pc lv (.int (nI b) :: .int (nI a) :: st) ws :=
  g_irem C hdg (nI_ne0 h0 hb) (g_as (pk_rem ha h0 hb) kk)
theorem shl_cnt : ∀ k : Nat, k < 32 → ((nI k &&& 31).toBitVec.smod 32).toNat = k := by decide +kernel
theorem shl_1 {k : Nat} (h : k < 31) : nI 1 <<< (nI k &&& 31) = nI (2 ^ k) := by
  have e := pk_shlN (n := 1) (nI k &&& 31) k (shl_cnt k (by omega)) (by rw [Nat.one_mul]; exact Nat.pow_lt_pow_right (by decide) (by omega))
  rw [e, Nat.one_mul]
theorem g_ishl1 (C : CX K l0 E0 own Ts cc rm n0) {k : Nat} (hdg : decode cc pc = .ok (.ishl, 1)) (h : k < 31) (kk : G K cs sl (pc + 1) lv (.int (nI (2 ^ k)) :: st) ws) : G K cs sl pc lv (.int (nI k) :: .int (nI 1) :: st) ws :=
  g_ishl C hdg (g_as (shl_1 h) kk)
theorem g_iincN (C : CX K l0 E0 own Ts cc rm n0) {i a : Nat} (hdg : decode cc pc = .ok (.iinc i 1, 3)) (j : Nat) (hk : lv[j]? = some (i, .int (nI a))) (hn : i < n0) (hl : (i, Value.int (nI (a + 1))) :: lv.filter (fun q => !(q.1 == i) && !(q.1 + 1 == i && q.2.category == 2)) = lv') (kk : G K cs sl (pc + 3) lv' st ws) : G K cs sl pc lv st ws :=
  g_iinc C (nI (a + 1)) hdg j hk (nI_1 a) hn hl kk
theorem g_iincM (C : CX K l0 E0 own Ts cc rm n0) {i a : Nat} (hdg : decode cc pc = .ok (.iinc i (-1), 3)) (j : Nat) (hk : lv[j]? = some (i, .int (nI (a + 1)))) (hn : i < n0) (hl : (i, Value.int (nI a)) :: lv.filter (fun q => !(q.1 == i) && !(q.1 + 1 == i && q.2.category == 2)) = lv') (kk : G K cs sl (pc + 3) lv' st ws) : G K cs sl pc lv st ws :=
  g_iinc C (nI a) hdg j hk (pk_m1 a) hn hl kk
theorem g_iandN (C : CX K l0 E0 own Ts cc rm n0) {a b : Nat} (hdg : decode cc pc = .ok (.iand, 1)) (kk : G K cs sl (pc + 1) lv (.int (nI (a &&& b)) :: st) ws) : G K cs sl pc lv (.int (nI b) :: .int (nI a) :: st) ws :=
  g_iand C hdg (g_as (by rw [← Int32.toBitVec_inj]; simp [nI, BitVec.ofNat_and]) kk)
theorem g_iorN (C : CX K l0 E0 own Ts cc rm n0) {a b : Nat} (hdg : decode cc pc = .ok (.ior, 1)) (kk : G K cs sl (pc + 1) lv (.int (nI (a ||| b)) :: st) ws) : G K cs sl pc lv (.int (nI b) :: .int (nI a) :: st) ws :=
  g_ior C hdg (g_as (by rw [← Int32.toBitVec_inj]; simp [nI, BitVec.ofNat_or]) kk)

theorem g_get (C : CX K l0 E0 own Ts cc rm n0) {Cn ref : String} {T : u_T} {N ci index a : Nat} (hin : ∀ w ∈ u_ws Cn T N, w ∈ Ts) (q0 : Nat) {fs : List Value} (he : ws[q0]? = some (a, .inr (ci, fs))) (hc : vwCl[ci]? = some (Cn, T, N)) (k : Nat) (hk : k < N) (hlink : Cond.fieldLink own index ref (T k).2.1 (T k).2.2.1 ∈ Ts) (hsame : ref = (T k).1) {v : Value} (hv : fs[k]? = some v) (hdg : decode cc pc = .ok (.getfield index, 3))
    (kk : G K cs sl (pc + 3) lv (v :: st) ws) : G K cs sl pc lv (.ref a :: st) ws := by
  obtain ⟨p, l, e, R, s, m, args, below, meth, c, E, A, nL, Q⟩ := K
  obtain ⟨hx, hb, hml, hown, hts, hK, hA, rfl, rfl, rfl, rfl⟩ := C
  subst hsame
  exact fun H locs ls hP hD hS h => va_get hx hb hts hin hown hK hP q0 he hc k hk (hts _ hlink) (fun _ z => z) hv hdg (kk H locs ls hP hD hS h)
theorem g_put (C : CX K l0 E0 own Ts cc rm n0) {Cn ref : String} {T : u_T} {N ci index a : Nat} (hin : ∀ w ∈ u_ws Cn T N, w ∈ Ts) (ty0 : Nat → FieldType) (hty : ∀ k, k < N → parseFieldDescriptor (T k).2.2.1 = some (ty0 k)) (hnm : ∀ a, a < N → ∀ b, b < N → a ≠ b → (T a).2.1 ≠ (T b).2.1) (q0 : Nat) {fs : List Value} (he : ws[q0]? = some (a, .inr (ci, fs))) (hc : vwCl[ci]? = some (Cn, T, N)) (k : Nat) (hk : k < N) (hlink : Cond.fieldLink own index ref (T k).2.1 (T k).2.2.1 ∈ Ts) (hsame : ref = (T k).1) (hfin : (T k).2.2.2 = false) {ty : FieldType} {v : Value} (hd : ty0 k = ty) (hn : narrow ty v = v) (hfit : fits ty v = true) (hl : k < fs.length) (hdg : decode cc pc = .ok (.putfield index, 3)) (hw : ws.set q0 (a, .inr (ci, fs.set k v)) = ws')
    (kk : G K cs sl (pc + 3) lv st ws') : G K cs sl pc lv (v :: .ref a :: st) ws := by
  obtain ⟨p, l, e, R, s, m, args, below, meth, c, E, A, nL, Q⟩ := K
  obtain ⟨hx, hb, hml, hown, hts, hK, hA, rfl, rfl, rfl, rfl⟩ := C
  subst hsame
  subst hw
  subst hd
  exact fun H locs ls hP hD hS h => va_put hx hb hts hin ty0 hty hnm hown hK hP hD hS q0 he hc k hk (hts _ hlink) (fun _ z => z) hfin (hty k hk) hn hfit hl hdg (fun H1 locs1 hP hD hS => kk H1 locs1 ls hP hD hS h)
theorem g_putF (C : CX K l0 E0 own Ts cc rm n0) (I : IX K) {Cn ref : String} {T : u_T} {N ci index a : Nat} (hin : ∀ w ∈ u_ws Cn T N, w ∈ Ts) (ty0 : Nat → FieldType) (hty : ∀ k, k < N → parseFieldDescriptor (T k).2.2.1 = some (ty0 k)) (hnm : ∀ a, a < N → ∀ b, b < N → a ≠ b → (T a).2.1 ≠ (T b).2.1) (q0 : Nat) {fs : List Value} (he : ws[q0]? = some (a, .inr (ci, fs))) (hc : vwCl[ci]? = some (Cn, T, N)) (k : Nat) (hk : k < N) (hlink : Cond.fieldLink own index ref (T k).2.1 (T k).2.2.1 ∈ Ts) (hsame : ref = (T k).1) (hfin : (T k).2.2.2 = true) (hdecl : (T k).1 = own) {ty : FieldType} {v : Value} (hd : ty0 k = ty) (hn : narrow ty v = v) (hfit : fits ty v = true) (hl : k < fs.length) (hdg : decode cc pc = .ok (.putfield index, 3)) (hw : ws.set q0 (a, .inr (ci, fs.set k v)) = ws')
    (kk : G K cs sl (pc + 3) lv st ws') : G K cs sl pc lv (v :: .ref a :: st) ws := by
  obtain ⟨p, l, e, R, s, m, args, below, meth, c, E, A, nL, Q⟩ := K
  obtain ⟨hx, hb, hml, hown, hts, hK, hA, rfl, rfl, rfl, rfl⟩ := C
  subst hsame
  subst hw
  subst hd
  exact fun H locs ls hP hD hS h => va_putF hx hb hts hin ty0 hty hnm hown hK hP hD hS q0 he hc k hk (hts _ hlink) (fun _ z => z) hfin I hdecl (hty k hk) hn hfit hl hdg (fun H1 locs1 hP hD hS => kk H1 locs1 ls hP hD hS h)

theorem clN {k n : Nat} (h : k < n) (hn : n < 2 ^ 31) : vp_in (nI k) n ∧ (nI k).toNatClampNeg = k := ⟨vp_in_nI h hn, nI_clamp (Nat.lt_trans h hn)⟩
theorem g_iald (C : CX K l0 E0 own Ts cc rm n0) (q0 : Nat) {a n k : Nat} {f : Nat → Int32} (ha : ws[q0]? = some (a, .inl (E0.2.1, n, .inl f))) (hk : k < n) (hn : n < 2 ^ 31) (hdg : decode cc pc = .ok (.iaload, 1))
    (kk : G K cs sl (pc + 1) lv (.int (f k) :: st) ws) : G K cs sl pc lv (.int (nI k) :: .ref a :: st) ws := by
  obtain ⟨p, l, e, R, s, m, args, below, meth, c, E, A, nL, Q⟩ := K
  obtain ⟨hx, hb, hml, hown, hts, hK, hA, rfl, rfl, rfl, rfl⟩ := C
  obtain ⟨h1, h2⟩ := clN hk hn
  exact fun H locs ls hP hD hS h => va_iald hx hb hK hP q0 0 ha rfl h1 hdg (by rw [h2]; exact kk H locs ls hP hD hS h)
theorem g_zald (C : CX K l0 E0 own Ts cc rm n0) (q0 : Nat) {a n k : Nat} {f : Nat → Int32} (ha : ws[q0]? = some (a, .inl (E0.2.2.1, n, .inl f))) (hk : k < n) (hn : n < 2 ^ 31) (hdg : decode cc pc = .ok (.baload, 1))
    (kk : G K cs sl (pc + 1) lv (.int (f k) :: st) ws) : G K cs sl pc lv (.int (nI k) :: .ref a :: st) ws := by
  obtain ⟨p, l, e, R, s, m, args, below, meth, c, E, A, nL, Q⟩ := K
  obtain ⟨hx, hb, hml, hown, hts, hK, hA, rfl, rfl, rfl, rfl⟩ := C
  obtain ⟨h1, h2⟩ := clN hk hn
  exact fun H locs ls hP hD hS h => va_zald hx hb hK hP q0 1 ha rfl h1 hdg (by rw [h2]; exact kk H locs ls hP hD hS h)
theorem g_aald (C : CX K l0 E0 own Ts cc rm n0) (q0 : Nat) {a n k r : Nat} {f : Nat → Option Nat} (ha : ws[q0]? = some (a, .inl (E0.2.2.2, n, .inr (.inr (.inr (.inr f)))))) (hk : k < n) (hn : n < 2 ^ 31) (hr : f k = some r) (hdg : decode cc pc = .ok (.aaload, 1))
    (kk : G K cs sl (pc + 1) lv (.ref r :: st) ws) : G K cs sl pc lv (.int (nI k) :: .ref a :: st) ws := by
  obtain ⟨p, l, e, R, s, m, args, below, meth, c, E, A, nL, Q⟩ := K
  obtain ⟨hx, hb, hml, hown, hts, hK, hA, rfl, rfl, rfl, rfl⟩ := C
  obtain ⟨h1, h2⟩ := clN hk hn
  exact fun H locs ls hP hD hS h => va_aldq hx hb hK hP q0 2 ha rfl h1 hdg (by rw [h2, hr]; exact kk H locs ls hP hD hS h)
theorem g_iast (C : CX K l0 E0 own Ts cc rm n0) {ws' : (Nat → Int32) → va_W} (q0 : Nat) {a n k : Nat} {f : Nat → Int32} {x : Int32} (ha : ws[q0]? = some (a, .inl (E0.2.1, n, .inl f))) (hk : k < n) (hn : n < 2 ^ 31) (hdg : decode cc pc = .ok (.iastore, 1)) (hw : ∀ f' : Nat → Int32, f' = upd f k x → ws.set q0 (a, .inl (E0.2.1, n, .inl f')) = ws' f')
    (kk : ∀ f' : Nat → Int32, f' = upd f k x → G K cs sl (pc + 1) lv st (ws' f')) : G K cs sl pc lv (.int x :: .int (nI k) :: .ref a :: st) ws := by
  obtain ⟨p, l, e, R, s, m, args, below, meth, c, E, A, nL, Q⟩ := K
  obtain ⟨hx, hb, hml, hown, hts, hK, hA, rfl, rfl, rfl, rfl⟩ := C
  obtain ⟨h1, h2⟩ := clN hk hn
  intro H locs ls hP hD hS h
  refine va_iast hx hb hK hP hD hS q0 0 ha rfl h1 hdg (fun H1 locs1 hP hD hS => ?_)
  rw [h2, hw _ rfl] at hP hD
  exact kk _ rfl H1 locs1 ls hP hD hS h
theorem g_zast (C : CX K l0 E0 own Ts cc rm n0) {ws' : (Nat → Int32) → va_W} (q0 : Nat) {a n k : Nat} {f : Nat → Int32} {x : Int32} (ha : ws[q0]? = some (a, .inl (E0.2.2.1, n, .inl f))) (hk : k < n) (hn : n < 2 ^ 31) (hx01 : vp_nar .boolean x = x) (hdg : decode cc pc = .ok (.bastore, 1)) (hw : ∀ f' : Nat → Int32, f' = upd f k x → ws.set q0 (a, .inl (E0.2.2.1, n, .inl f')) = ws' f')
    (kk : ∀ f' : Nat → Int32, f' = upd f k x → G K cs sl (pc + 1) lv st (ws' f')) : G K cs sl pc lv (.int x :: .int (nI k) :: .ref a :: st) ws := by
  obtain ⟨p, l, e, R, s, m, args, below, meth, c, E, A, nL, Q⟩ := K
  obtain ⟨hx, hb, hml, hown, hts, hK, hA, rfl, rfl, rfl, rfl⟩ := C
  obtain ⟨h1, h2⟩ := clN hk hn
  intro H locs ls hP hD hS h
  refine va_zast hx hb hK hP hD hS q0 1 ha rfl h1 hdg (fun H1 locs1 hP hD hS => ?_)
  rw [h2, hx01, hw _ rfl] at hP hD
  exact kk _ rfl H1 locs1 ls hP hD hS h
theorem g_alen (C : CX K l0 E0 own Ts cc rm n0) (q0 : Nat) {a n : Nat} {f : Nat → Int32} (ha : ws[q0]? = some (a, .inl (E0.2.1, n, .inl f))) (hdg : decode cc pc = .ok (.arraylength, 1))
    (kk : G K cs sl (pc + 1) lv (.int (nI n) :: st) ws) : G K cs sl pc lv (.ref a :: st) ws := by
  obtain ⟨p, l, e, R, s, m, args, below, meth, c, E, A, nL, Q⟩ := K
  obtain ⟨hx, hb, hml, hown, hts, hK, hA, rfl, rfl, rfl, rfl⟩ := C
  exact fun H locs ls hP hD hS h => va_alen hx hb hK hP q0 0 ha (ty := .int) rfl rfl hdg (kk H locs ls hP hD hS h)
theorem g_alenK (C : CX K l0 E0 own Ts cc rm n0) (q0 : Nat) {a n : Nat} {f : Nat → Option Nat} (ha : ws[q0]? = some (a, .inl (E0.2.2.2, n, .inr (.inr (.inr (.inr f)))))) (hdg : decode cc pc = .ok (.arraylength, 1))
    (kk : G K cs sl (pc + 1) lv (.int (nI n) :: st) ws) : G K cs sl pc lv (.ref a :: st) ws := by
  obtain ⟨p, l, e, R, s, m, args, below, meth, c, E, A, nL, Q⟩ := K
  obtain ⟨hx, hb, hml, hown, hts, hK, hA, rfl, rfl, rfl, rfl⟩ := C
  exact fun H locs ls hP hD hS h => va_alen hx hb hK hP q0 2 ha (ty := .object RX6) rfl rfl hdg (kk H locs ls hP hD hS h)

theorem g_iret (C : CX K l0 E0 own Ts cc rm n0) {Po : Option Value → va_W → Prop} (X : RX K (some .int) cs sl Po) {v : Int32} (hdg : decode cc pc = .ok (.ireturn, 1)) (kk : Po (some (.int v)) ws) : G K cs sl pc lv [.int v] ws := by
  obtain ⟨p, l, e, R, s, m, args, below, meth, c, E, A, nL, Q⟩ := K
  obtain ⟨hx, hb, hml, hown, hts, hK, hA, rfl, rfl, rfl, rfl⟩ := C
  obtain ⟨rfl, hr, hlk⟩ := X
  exact fun H locs ls hP hD hS h => W.iret hx hb hr (fun t ht hW => ⟨⟨_, _, rfl, kk, by rw [ht]; exact hP, va_K.moved hW.alike hK, hD⟩, hS.F ht⟩) hS.2.2 hdg hlk
theorem g_zret (C : CX K l0 E0 own Ts cc rm n0) {Po : Option Value → va_W → Prop} (X : RX K (some .boolean) cs sl Po) {v : Int32} (hn : narrow .boolean (.int v) = .int v) (hdg : decode cc pc = .ok (.ireturn, 1)) (kk : Po (some (.int v)) ws) : G K cs sl pc lv [.int v] ws := by
  obtain ⟨p, l, e, R, s, m, args, below, meth, c, E, A, nL, Q⟩ := K
  obtain ⟨hx, hb, hml, hown, hts, hK, hA, rfl, rfl, rfl, rfl⟩ := C
  obtain ⟨rfl, hr, hlk⟩ := X
  exact fun H locs ls hP hD hS h => W.zret hx hb hr hn (fun t ht hW => ⟨⟨_, _, rfl, kk, by rw [ht]; exact hP, va_K.moved hW.alike hK, hD⟩, hS.F ht⟩) hS.2.2 hdg hlk
theorem g_lret (C : CX K l0 E0 own Ts cc rm n0) {Po : Option Value → va_W → Prop} (X : RX K (some .long) cs sl Po) {v : Int64} (hdg : decode cc pc = .ok (.lreturn, 1)) (kk : Po (some (.long v)) ws) : G K cs sl pc lv [.long v] ws := by
  obtain ⟨p, l, e, R, s, m, args, below, meth, c, E, A, nL, Q⟩ := K
  obtain ⟨hx, hb, hml, hown, hts, hK, hA, rfl, rfl, rfl, rfl⟩ := C
  obtain ⟨rfl, hr, hlk⟩ := X
  exact fun H locs ls hP hD hS h => W.lret hx hb hr (fun t ht hW => ⟨⟨_, _, rfl, kk, by rw [ht]; exact hP, va_K.moved hW.alike hK, hD⟩, hS.F ht⟩) hS.2.2 hdg hlk
theorem g_vret (C : CX K l0 E0 own Ts cc rm n0) {Po : Option Value → va_W → Prop} (X : RX K none cs sl Po) (hdg : decode cc pc = .ok (.return_, 1)) (kk : Po none ws) : G K cs sl pc lv [] ws := by
  obtain ⟨p, l, e, R, s, m, args, below, meth, c, E, A, nL, Q⟩ := K
  obtain ⟨hx, hb, hml, hown, hts, hK, hA, rfl, rfl, rfl, rfl⟩ := C
  obtain ⟨rfl, hr, hlk⟩ := X
  exact fun H locs ls hP hD hS h => W.vret hx hb hr (fun t ht hW => ⟨⟨_, _, rfl, kk, by rw [ht]; exact hP, va_K.moved hW.alike hK, hD⟩, hS.F ht⟩) hS.2.2 hdg hlk
theorem nar_bI (c : Prop) [Decidable c] : narrow .boolean (.int (bI c)) = .int (bI c) := by
  unfold bI; by_cases h : c
  · rw [if_pos h]; rfl
  · rw [if_neg h]; rfl

theorem va_callo {p : Program} {l : Launch} {e : Env} {R : Room} {s : State} {m : MethodId} {args : Array Value} {below : List Frame} {meth : Method} {c : Code} {H : Heap} {locs : List Loc} {cells slots : Nat} {Q : State → Prop} {pc : Nat} {ls : Array Slot} {rest st0 : List Value} {a : Array Value} {A0 A1 : Nat → Prop} {H0 : Heap} {mc ms : Nat} {free : Addr → Prop} {E : EX} {Po : Option Value → va_W → Prop}
    (hr : va_Run p l e R s m args below meth c H locs cells slots mc ms (F0 m pc ls st0) rest (Qo E A1 Po a) free) (hS : va_S A0 H0 H locs) (hA : ∀ q, q < H.size → A1 q → A0 q) (hf : ∀ q, free q → A0 q)
    (kk : ∀ (v : Option Value) (w' : va_W) (H1 : Heap) (locs1 : List Loc), Po v w' → va_P E.1 vwCl w' H1 → va_D A1 w' → (∀ q : Nat, q < H.size → ¬ A1 q → H1[q]? = H[q]?) → va_S A0 H0 H1 locs1 → W p l e R s m args below meth c H1 locs1 (cells + mc) (slots + ms) Q (F0 m (pc + 3) ls (v.toList ++ rest))) : W p l e R s m args below meth c H locs cells slots Q (F0 m pc ls st0) := by
  intro T hT X
  obtain ⟨v, st₀, t, T', L, h0, X', hL, e1, e2, ⟨⟨v2, w', hv, hp, hP1, hK1, hD1⟩, hz, hk⟩, st⟩ := hr T hT X
  cases hv
  rw [h0] at hz hk
  obtain ⟨t2, a1, b1⟩ := kk v w' T'.heap (locs ++ L) hp (by rw [e1]; exact hP1) hD1 (fun q h1 h2 => by rw [e1]; exact hk q h1 h2)
    ⟨Nat.le_trans hS.1 (by rw [e1]; exact hz), fun q h1 h2 => by rw [e1, hk q (Nat.lt_of_lt_of_le h1 hS.1) (fun z => h2 (hA q (Nat.lt_of_lt_of_le h1 hS.1) z))]; exact hS.2.1 q h1 h2, fun q hq => by
      rcases List.mem_append.mp hq with h | h
      · exact hS.2.2 q h
      · exact hf _ (hL q h)⟩ T' rfl X'
  exact ⟨t2, st t2 a1, b1⟩
theorem va_P.pick {D : va_G} {cl : List vw_C} {ws ws' : va_W} {H : Heap} (h : va_P D cl ws H) (is : List Nat) (hs : is.map (fun i => ws[i]?) = ws'.map some) : va_P D cl ws' H := by
  intro k q hk
  have h1 : (is.map (fun i => ws[i]?))[k]? = some (some q) := by rw [hs, List.getElem?_map, hk]; rfl
  rw [List.getElem?_map] at h1
  cases hi : is[k]? with
  | none => rw [hi] at h1; cases h1
  | some i => rw [hi] at h1; exact h i q (Option.some.inj h1)
def wpk (ws : va_W) (is : List Nat) : va_W := is.filterMap (fun i => ws[i]?)
theorem wpk_ok (ws : va_W) : ∀ is : List Nat, is.all (fun i => decide (i < ws.length)) = true → is.map (fun i => ws[i]?) = (wpk ws is).map some
  | [], _ => rfl
  | i :: is, h => by
    simp only [List.all_cons, Bool.and_eq_true, decide_eq_true_eq] at h
    have ih := wpk_ok ws is h.2
    have e : ws[i]? = some (ws[i]'h.1) := List.getElem?_eq_getElem h.1
    unfold wpk at ih ⊢
    rw [List.map_cons, List.filterMap_cons, e, ih]
    rfl
theorem frameBlind {E : EX} {av : List Value} {sz : Nat} {w : va_W} : FrameBlind (va_Pc av (fun U => U.heap.size = sz ∧ va_P E.1 vwCl w U.heap ∧ va_K E.1 vwCl (tyE E) U ∧ va_D (fun _ => True) w)) :=
  fun a U g mk q => by obtain ⟨q0, q1, qP, qK, qD⟩ := q; exact ⟨q0, q1, qP, va_K.moved (u := U) (U := U.calling g mk a) (Vm.Alike.refl U.vm) qK, qD⟩
/-- the places of a call: the callee's cells, the rest's, and whether they are apart and there -/
def okP (n : Nat) (isC isR : List Nat) : Bool := va_nd isC && (va_nd isR && (isR.all (fun i => decide (i < n)) && isR.all (fun i => !(isC.contains i))))
theorem okP_dis {n : Nat} {isC isR : List Nat} (h : okP n isC isR = true) : va_nd isC = true ∧ va_nd isR = true ∧ isR.all (fun i => decide (i < n)) = true ∧ ∀ i ∈ isR, i ∉ isC := by
  simp only [okP, Bool.and_eq_true] at h
  refine ⟨h.1, h.2.1, h.2.2.1, fun i hi hc => ?_⟩
  have := List.all_eq_true.mp h.2.2.2 i hi
  simp at this
  exact this hc
/-- a call behind its run: the callee's cells come back, the rest stays -/
theorem g_run {p : Program} {l : Launch} {e : Env} {R : Room} {s : State} {m : MethodId} {args : Array Value} {below : List Frame} {meth : Method} {c : Code} {E : EX} {A : Nat → Prop} {nL : Nat} {Q : State → Prop} {H : Heap} {locs : List Loc} {ls : Array Slot} {a : Array Value} {mc ms : Nat} {rest : List Value} {Po : Option Value → va_W → Prop} {wc : va_W} (hA : ∀ q, s.heap.size ≤ q → A q) (isC isR : List Nat) (ok : okP ws.length isC isR = true) (hC : isC.map (fun i => ws[i]?) = wc.map some)
    (hP : va_P E.1 vwCl ws H) (hD : va_D A ws) (hS : va_S A s.heap H locs) (h : lv_has ls nL lv)
    (hr : va_P E.1 vwCl wc H → va_D (fun _ => True) wc → va_Run p l e R s m args below meth c H locs cs sl mc ms (F0 m pc ls st) rest (Qo E (va_A wc H.size) Po a) (va_A wc H.size))
    (kk : ∀ v w', Po v w' → G (p, l, e, R, s, m, args, below, meth, c, E, A, nL, Q) (cs + mc) (sl + ms) (pc + 3) lv (v.toList ++ rest) (wpk ws isR ++ w')) : W p l e R s m args below meth c H locs cs sl Q (F0 m pc ls st) := by
  obtain ⟨n1, n2, n3, n4⟩ := okP_dis ok
  have hF := va_free (wc := wc) hD hS hA isC hC
  refine va_callo (hr (hP.pick isC hC) ((hD.sub isC n1 hC).weaken (fun _ _ _ _ => trivial))) hS (fun q _ z => hF q z) hF (fun v w' H1 locs1 hp hP1 hD1 hk hS1 => ?_)
  obtain ⟨hP2, hD2⟩ := va_join (wr := wpk ws isR) (w1 := w') hP hD isC isR hC (wpk_ok ws isR n3) n2 n4 hk hF hP1 hD1
  exact kk v w' hp H1 locs1 ls hP2 hD2 hS1 h

theorem g_callV (C : CX K l0 E0 own Ts cc rm n0) {y : MethodName} {wsy wsy' : List Cond} {rmy : Room} {bytes : ByteArray} {maxL index mc ms : Nat} {ret : Option FieldType} {Po : Option Value → va_W → Prop} {wc : va_W} {rest As : List Value} {n : Nat} {b : Nat} {Cn : String} (hM : M l0 E0 y wsy rmy mc ms (.ref b :: As) wc Po) (hG : GoodIn Ts (wsV own index Cn y wsy)) (hw : wsy = Cond.code y bytes maxL ret :: wsy') (hcs : rmy.cells = mc ∧ rmy.slots = ms) (hR : rmy.frames + 1 ≤ rm.frames ∧ 8 + (maxL + 11) + rmy.locals ≤ rm.locals ∧ cs + mc ≤ rm.cells ∧ sl + ms ≤ rm.slots) (hcat : (rest.map fun v => v.category).sum ≤ 8) (hn : As.length = n) (hd : y.cls = Cn ∧ y.cls ≠ "java/lang/invoke/MethodHandle" ∧ y.cls ≠ "java/lang/invoke/VarHandle" ∧ (parseMethodDescriptor y.desc).map (fun d => d.parameters.length) = some n)
    (hst : st = As.reverse ++ .ref b :: rest) (hdg : decode cc pc = .ok (.invokevirtual index, 3)) {ci : Nat} {T : u_T} {N : Nat} {fs : List Value} (q0 : Nat) (hq : wc[q0]? = some (b, .inr (ci, fs))) (hcl : vwCl[ci]? = some (Cn, T, N)) (isC isR : List Nat) (ok : okP ws.length isC isR = true) (hC : isC.map (fun i => ws[i]?) = wc.map some) (kk : ∀ v w', Po v w' → G K (cs + mc) (sl + ms) (pc + 3) lv (v.toList ++ rest) (wpk ws isR ++ w')) : G K cs sl pc lv st ws := by
  obtain ⟨p, l, e, R, s, m, args, below, meth, c, E, A, nL, Q⟩ := K
  obtain ⟨hx, hb, hml, hown, hts, hK, hA, rfl, rfl, rfl, rfl⟩ := C
  intro H locs ls hP hD hS h
  subst hst
  refine g_run (a := (Value.ref b :: As).toArray) hA isC isR ok hC hP hD hS h (fun hPc hDc => ?_) kk
  exact va_runV ⟨hx, hb, hml, hown, hts⟩ (hM H.size) (cwV n hts hG hw hcs.1 hcs.2 hd ⟨hR.1, hR.2.1⟩) ⟨frameBlind, va_recv hK hPc hcl hq, fun U hU hW => ⟨rfl, by rw [hU], by rw [hU]; exact hPc, va_K.moved hW.alike hK, hDc⟩⟩ rfl hn h.1 rfl (lv_room hcat) hdg ⟨hR.2.2.1, hR.2.2.2⟩
theorem g_callS (C : CX K l0 E0 own Ts cc rm n0) {y : MethodName} {wsy wsy' : List Cond} {rmy : Room} {bytes : ByteArray} {maxL index mc ms : Nat} {ret : Option FieldType} {Po : Option Value → va_W → Prop} {wc : va_W} {rest As : List Value} {n : Nat} (hM : M l0 E0 y wsy rmy mc ms As wc Po) (hG : GoodIn Ts (va_wsS own index y wsy)) (hw : wsy = Cond.code y bytes maxL ret :: wsy') (hcs : rmy.cells = mc ∧ rmy.slots = ms) (hR : rmy.frames + 1 ≤ rm.frames ∧ 8 + (maxL + 11) + rmy.locals ≤ rm.locals ∧ cs + mc ≤ rm.cells ∧ sl + ms ≤ rm.slots) (hcat : (rest.map fun v => v.category).sum ≤ 8) (hn : As.length = n) (hd : y.cls ≠ "java/lang/invoke/MethodHandle" ∧ y.cls ≠ "java/lang/invoke/VarHandle" ∧ (parseMethodDescriptor y.desc).map (fun d => d.parameters.length) = some n)
    (hst : st = As.reverse ++ rest) (hdg : decode cc pc = .ok (.invokestatic index, 3)) (isC isR : List Nat) (ok : okP ws.length isC isR = true) (hC : isC.map (fun i => ws[i]?) = wc.map some) (kk : ∀ v w', Po v w' → G K (cs + mc) (sl + ms) (pc + 3) lv (v.toList ++ rest) (wpk ws isR ++ w')) : G K cs sl pc lv st ws := by
  obtain ⟨p, l, e, R, s, m, args, below, meth, c, E, A, nL, Q⟩ := K
  obtain ⟨hx, hb, hml, hown, hts, hK, hA, rfl, rfl, rfl, rfl⟩ := C
  intro H locs ls hP hD hS h
  subst hst
  refine g_run (a := As.toArray) hA isC isR ok hC hP hD hS h (fun hPc hDc => ?_) kk
  exact va_runS ⟨hx, hb, hml, hown, hts⟩ (hM H.size) (va_cwS n hts hG hw hcs.1 hcs.2 hd ⟨hR.1, hR.2.1⟩) ⟨frameBlind, fun U hU hW => ⟨rfl, by rw [hU], by rw [hU]; exact hPc, va_K.moved hW.alike hK, hDc⟩⟩ rfl hn h.1 rfl (lv_room hcat) hdg ⟨hR.2.2.1, hR.2.2.2⟩
/-- one outcome: the world behind the call in the caller's order -/
theorem g_is1 {r : Option Value} {w1 wr ws2 : va_W} {st2 : List Value} (pm : List Nat) (hn : va_nd pm = true) (hp : pm.map (fun i => (wr ++ w1)[i]?) = ws2.map some) (hs : r.toList ++ st = st2) (kk : G K cs sl pc lv st2 ws2) : ∀ v w', is1 r w1 v w' → G K cs sl pc lv (v.toList ++ st) (wr ++ w') := by
  intro v w' hv
  obtain ⟨rfl, rfl⟩ := hv
  subst hs
  obtain ⟨p, l, e, R, s, m, args, below, meth, c, E, A, nL, Q⟩ := K
  exact fun H locs ls hP hD hS h => kk H locs ls (hP.pick pm hp) (hD.sub pm hn hp) hS h
theorem g_tableIn (C : CX K l0 E0 own Ts cc rm n0) {dflt lo hi : Int} {offs : Array Int} {len : Nat} {x : Int32} {off : Int} (tgt : Nat) (hdg : decode cc pc = .ok (.tableswitch dflt lo hi offs, len)) (h1 : ¬ x.toInt < lo) (h2 : ¬ hi < x.toInt) (ho : offs[(x.toInt - lo).toNat]? = some off) (ht : (pc : Int) + off = (tgt : Int)) (kk : G K cs sl tgt lv st ws) : G K cs sl pc lv (.int x :: st) ws := by
  obtain ⟨p, l, e, R, s, m, args, below, meth, c, E, A, nL, Q⟩ := K
  obtain ⟨hx, hb, hml, hown, hts, hK, hA, rfl, rfl, rfl, rfl⟩ := C
  exact fun H locs ls hP hD hS h => lv_tableIn hx hb hdg h1 h2 ho ht (kk H locs ls hP hD hS h)
theorem g_tableOut (C : CX K l0 E0 own Ts cc rm n0) {dflt lo hi : Int} {offs : Array Int} {len : Nat} {x : Int32} (tgt : Nat) (hdg : decode cc pc = .ok (.tableswitch dflt lo hi offs, len)) (h : x.toInt < lo ∨ hi < x.toInt) (ht : (pc : Int) + dflt = (tgt : Int)) (kk : G K cs sl tgt lv st ws) : G K cs sl pc lv (.int x :: st) ws := by
  obtain ⟨p, l, e, R, s, m, args, below, meth, c, E, A, nL, Q⟩ := K
  obtain ⟨hx, hb, hml, hown, hts, hK, hA, rfl, rfl, rfl, rfl⟩ := C
  exact fun H locs ls hP hD hS z => lv_tableOut hx hb hdg h ht (kk H locs ls hP hD hS z)
theorem g_lookup (C : CX K l0 E0 own Ts cc rm n0) {dflt : Int} {ps : Array (Int × Int)} {len : Nat} {x : Int32} {off : Int} (tgt : Nat) (hdg : decode cc pc = .ok (.lookupswitch dflt ps, len)) (hp : (ps.toList.zip (ps.toList.drop 1)).all (fun (a, next) => a.1 < next.1) = true) (ho : Op.lookupswitch.offset ps.toList dflt x.toInt = off) (ht : (pc : Int) + off = (tgt : Int)) (kk : G K cs sl tgt lv st ws) : G K cs sl pc lv (.int x :: st) ws := by
  obtain ⟨p, l, e, R, s, m, args, below, meth, c, E, A, nL, Q⟩ := K
  obtain ⟨hx, hb, hml, hown, hts, hK, hA, rfl, rfl, rfl, rfl⟩ := C
  exact fun H locs ls hP hD hS z => lv_lookup hx hb hdg hp ho ht (kk H locs ls hP hD hS z)
def imin (x y : Int32) : Int32 := if y < x then y else x
def imax (x y : Int32) : Int32 := if x < y then y else x
theorem g_mmin (C : CX K l0 E0 own Ts cc rm n0) {index : Nat} (h1 : Cond.methodLink own index Lib.Math.min.name ∈ Ts) (h2 : Cond.static Lib.Math.min.name ∈ Ts) (h3 : Cond.initialized "java/lang/Math" ∈ Ts) (h4 : Cond.code Lib.Math.min.name Lib.Math.min.code 2 (some .int) ∈ Ts) (hf : 1 ≤ rm.frames) {x y : Int32} (hl : (st.map fun v => v.category).sum + 13 ≤ rm.locals) (hc : cs ≤ rm.cells ∧ sl ≤ rm.slots) (hdg : decode cc pc = .ok (.invokestatic index, 3)) (kk : G K cs sl (pc + 3) lv (.int (imin x y) :: st) ws) : G K cs sl pc lv (.int y :: .int x :: st) ws := by
  obtain ⟨p, l, e, R, s, m, args, below, meth, c, E, A, nL, Q⟩ := K
  obtain ⟨hx, hb, hml, hown, hts, hK, hA, rfl, rfl, rfl, rfl⟩ := C
  exact fun H locs ls hP hD hS h => va_mmin hx hb (hml.trans h.1.symm) hown (hts _ h1) (hts _ h2) (hts _ h3) (hts _ h4) hf hl hc.1 hc.2 hdg (kk H locs ls hP hD hS h)
theorem g_mmax (C : CX K l0 E0 own Ts cc rm n0) {index : Nat} (h1 : Cond.methodLink own index Lib.Math.max.name ∈ Ts) (h2 : Cond.static Lib.Math.max.name ∈ Ts) (h3 : Cond.initialized "java/lang/Math" ∈ Ts) (h4 : Cond.code Lib.Math.max.name Lib.Math.max.code 2 (some .int) ∈ Ts) (hf : 1 ≤ rm.frames) {x y : Int32} (hl : (st.map fun v => v.category).sum + 13 ≤ rm.locals) (hc : cs ≤ rm.cells ∧ sl ≤ rm.slots) (hdg : decode cc pc = .ok (.invokestatic index, 3)) (kk : G K cs sl (pc + 3) lv (.int (imax x y) :: st) ws) : G K cs sl pc lv (.int y :: .int x :: st) ws := by
  obtain ⟨p, l, e, R, s, m, args, below, meth, c, E, A, nL, Q⟩ := K
  obtain ⟨hx, hb, hml, hown, hts, hK, hA, rfl, rfl, rfl, rfl⟩ := C
  exact fun H locs ls hP hD hS h => va_mmax hx hb (hml.trans h.1.symm) hown (hts _ h1) (hts _ h2) (hts _ h3) (hts _ h4) hf hl hc.1 hc.2 hdg (kk H locs ls hP hD hS h)
theorem g_copy (C : CX K l0 E0 own Ts cc rm n0) {ws' : (Nat → Int32) → va_W} {index : Nat} (h1 : Cond.methodLink own index arraycopyName ∈ Ts) (h2 : Cond.native arraycopyName ∈ Ts) (h3 : Cond.static arraycopyName ∈ Ts) (h4 : Cond.initialized "java/lang/System" ∈ Ts) (q0 q1 : Nat) {a a0 m0 m1 sp dp n : Nat} {f g : Nat → Int32} (ha0 : ws[q0]? = some (a0, .inl (E0.2.1, m0, .inl f))) (ha1 : ws[q1]? = some (a, .inl (E0.2.1, m1, .inl g))) (hs0 : sp + n ≤ m0) (hs1 : dp + n ≤ m1) (hm0 : m0 < 2 ^ 31) (hm1 : m1 < 2 ^ 31) (hf : 1 ≤ rm.frames) (hl : (st.map fun v => v.category).sum + 18 ≤ rm.locals) (hdg : decode cc pc = .ok (.invokestatic index, 3)) (hw : ∀ f' : Nat → Int32, f' = va_cpy f g sp dp n → ws.set q1 (a, .inl (E0.2.1, m1, .inl f')) = ws' f') (kk : ∀ f' : Nat → Int32, f' = va_cpy f g sp dp n → G K cs sl (pc + 3) lv st (ws' f')) : G K cs sl pc lv (.int (nI n) :: .int (nI dp) :: .ref a :: .int (nI sp) :: .ref a0 :: st) ws := by
  obtain ⟨p, l, e, R, s, m, args, below, meth, c, E, A, nL, Q⟩ := K
  obtain ⟨hx, hb, hml, hown, hts, hK, hA, rfl, rfl, rfl, rfl⟩ := C
  intro H locs ls hP hD hS h
  have e1 : (nI n).toNatClampNeg = n := nI_clamp (by omega)
  have e2 : (nI sp).toNatClampNeg = sp := nI_clamp (by omega)
  have e3 : (nI dp).toNatClampNeg = dp := nI_clamp (by omega)
  refine va_copyi hx hb (hml.trans h.1.symm) hown (hts _ h1) (hts _ h2) (hts _ h3) (hts _ h4) hK hP hD hS q0 q1 0 0 ha0 ha1 (ty := .int) rfl rfl rfl (nI_pos (by omega)) (nI_pos (by omega)) (nI_pos (by omega)) (by rw [e1, e2]; exact hs0) (by rw [e1, e3]; exact hs1) (fun _ _ => rfl) hf (by exact hl) hdg (fun H1 locs1 hP hD hS => ?_)
  rw [e1, e2, e3, hw _ rfl] at hP hD
  exact kk _ rfl H1 locs1 ls hP hD hS h
end GR
theorem toInt_ne {x : Int32} {j : Nat} (hj : j < 2 ^ 31) (h : ¬ x = nI j) : x.toInt ≠ (j : Int) := fun z => h (Int32.toInt_inj.mp (by rw [z, nI_toInt hj]))
theorem ts_out3 {x : Int32} (h0 : ¬ x = nI 0) (h1 : ¬ x = nI 1) (h2 : ¬ x = nI 2) : x.toInt < 0 ∨ 2 < x.toInt := by
  have a0 := toInt_ne (by decide) h0; have a1 := toInt_ne (by decide) h1; have a2 := toInt_ne (by decide) h2
  omega
theorem ts_out4 {x : Int32} (h0 : ¬ x = nI 0) (h1 : ¬ x = nI 1) (h2 : ¬ x = nI 2) (h3 : ¬ x = nI 3) : x.toInt < 0 ∨ 3 < x.toInt := by
  have a0 := toInt_ne (by decide) h0; have a1 := toInt_ne (by decide) h1; have a2 := toInt_ne (by decide) h2; have a3 := toInt_ne (by decide) h3
  omega
theorem ts_out5 {x : Int32} (h0 : ¬ x = nI 0) (h1 : ¬ x = nI 1) (h2 : ¬ x = nI 2) (h3 : ¬ x = nI 3) (h4 : ¬ x = nI 4) : x.toInt < 0 ∨ 4 < x.toInt := by
  have a0 := toInt_ne (by decide) h0; have a1 := toInt_ne (by decide) h1; have a2 := toInt_ne (by decide) h2; have a3 := toInt_ne (by decide) h3; have a4 := toInt_ne (by decide) h4
  omega
theorem ts_out6 {x : Int32} (h0 : ¬ x = nI 0) (h1 : ¬ x = nI 1) (h2 : ¬ x = nI 2) (h3 : ¬ x = nI 3) (h4 : ¬ x = nI 4) (h5 : ¬ x = nI 5) : x.toInt < 0 ∨ 5 < x.toInt := by
  have a0 := toInt_ne (by decide) h0; have a1 := toInt_ne (by decide) h1; have a2 := toInt_ne (by decide) h2; have a3 := toInt_ne (by decide) h3; have a4 := toInt_ne (by decide) h4; have a5 := toInt_ne (by decide) h5
  omega
end
section
/-! Scene: the row of 50 numbers (42 times heard, 6 beds, the examined, the night) -/
abbrev tb (x : Int32) (k : Nat) : Int32 := (x >>> (nI k &&& 31)) &&& nI 1
def thOn (f : Nat → Int32) (q : Nat) : Nat → Int32
  | 0 => nI 0
  | k + 1 => if f (q * 7 + k) ≤ 0 then thOn f q k else thOn f q k ||| nI (2 ^ k)
def thSet (f : Nat → Int32) (x : Int32) : Nat → Int32
  | 0 => nI 0
  | k + 1 => if tb x k = 0 then thSet f x k else thSet f x k ||| thOn f k 7
def tiOn (f : Nat → Int32) (q : Nat) (x : Int32) : Nat → Int32
  | 0 => nI 0
  | k + 1 => if tb x k = 0 then tiOn f q x k else tiOn f q x k + f (q * 7 + k)
def tiSet (f : Nat → Int32) (x : Int32) : Nat → Int32
  | 0 => nI 0
  | k + 1 => tiSet f x k + tiOn f k x 7
def slOn (f : Nat → Int32) (q : Nat) : Nat → Int32
  | 0 => nI 0
  | k + 1 => if f (42 + k) = nI q then slOn f q k ||| nI (2 ^ k) else slOn f q k
def filA (g : Nat → Int32) (x : Int32) (k : Nat) : Nat → Int32 := fun j => if j < k then x else g j
theorem filA_s (g : Nat → Int32) (x : Int32) (k : Nat) : upd (filA g x k) k x = filA g x (k + 1) := by
  funext j
  unfold upd filA
  by_cases h : j = k
  · rw [if_pos h, if_pos (by omega)]
  · rw [if_neg h]
    by_cases h2 : j < k
    · rw [if_pos h2, if_pos (by omega)]
    · rw [if_neg h2, if_neg (by omega)]
theorem filA_0 (g : Nat → Int32) (x : Int32) : filA g x 0 = g := by
  funext j
  unfold filA
  rw [if_neg (Nat.not_lt_zero j)]

set_option maxHeartbeats 4000000 in
set_option maxRecDepth 100000 in
theorem kJ7_fill_53178 (l : Launch) (E : EX) (h0 n : Nat) (g : Nat → Int32) (x : Int32) (hn : n < 2147483648) : M l E yJ7_fill_53178 wsJ7_fill_53178 { frames := 0, cells := 0, slots := 0, locals := 0 } 0 0 [.ref h0, .int x] [(h0, iA E n g)] (is1 none [(h0, iA E n (filA g x n))]) := by
  refine M.ofG (cc := cJ7_fill_53178) (maxL := 4) (ret := none) (lv := [(0, .ref h0), (1, .int x)]) (own := RJ7) (by decide) rfl rfl (Nat.le_of_ble_eq_true rfl) rfl ?_
  intro K C X _
  refine g_iconst C (nI 0) dJ7_fill_53178_0 (by decide) ?_
  refine g_istore_n C (lv' := [(2, .int (nI 0)), (0, .ref h0), (1, .int x)]) dJ7_fill_53178_1 rfl (by decide) rfl ?_
  refine g_aload_n C dJ7_fill_53178_2 rfl 1 rfl ?_
  refine g_alen C 0 rfl dJ7_fill_53178_3 ?_
  refine g_istore_n C (lv' := [(3, .int (nI n)), (2, .int (nI 0)), (0, .ref h0), (1, .int x)]) dJ7_fill_53178_4 rfl (by decide) rfl ?_
  have L5 : ∀ (zz k : Nat) (u : Nat → Int32), k + zz = n + 1 → k ≤ n → (u = filA g x k) → G K 0 0 5 [(0, .ref h0), (1, .int x), (2, .int (nI k)), (3, .int (nI n))] [] [(h0, iA E n u)] := by
    intro zz
    induction zz with
    | zero => intro k u hL5 gL5; exfalso; omega
    | succ zz ihL5 =>
      intro k u hL5 gL5 hu
      refine g_iload_n C dJ7_fill_53178_5 rfl 2 rfl ?_
      refine g_iload_n C dJ7_fill_53178_6 rfl 3 rfl ?_
      refine g_icmp_geN C 20 dJ7_fill_53178_7 (by decide) (by omega) (by omega) (fun c1 => ?_) (fun c1 => ?_)
      · have hk : k = n := by omega
        exact g_vret C X dJ7_fill_53178_20 (⟨rfl, by rw [hu, hk]⟩)
      · refine g_aload_n C dJ7_fill_53178_10 rfl 0 rfl ?_
        refine g_iload_n C dJ7_fill_53178_11 rfl 2 rfl ?_
        refine g_iload_n C dJ7_fill_53178_12 rfl 1 rfl ?_
        refine g_iast C (ws' := fun f2 => [(h0, iA E n f2)]) 0 rfl (by omega) (by omega) dJ7_fill_53178_13 (fun _ _ => rfl) (fun f2 ef2 => ?_)
        refine g_iincN C (lv' := [(2, .int (nI (k + 1))), (0, .ref h0), (1, .int x), (3, .int (nI n))]) dJ7_fill_53178_14 2 rfl (by decide) rfl ?_
        refine g_goto C 5 dJ7_fill_53178_17 (by decide) ?_
        refine g_sub (lv' := [(0, .ref h0), (1, .int x), (2, .int (nI (k + 1))), (3, .int (nI n))]) [1, 2, 0, 3] rfl ?_
        exact ihL5 (k + 1) f2 (by omega) (by omega) (by simp [hu, c1, ef2, filA_s])
  refine g_sub (lv' := [(0, .ref h0), (1, .int x), (2, .int (nI 0)), (3, .int (nI n))]) [2, 3, 1, 0] rfl ?_
  exact L5 (n + 1 - 0) 0 g (by omega) (by omega) ((filA_0 g x).symm)

set_option maxHeartbeats 4000000 in
set_option maxRecDepth 100000 in
theorem kX8_times (l : Launch) (E : EX) (h0 h1 : Nat) (f : Nat → Int32) (q t : Nat) (hq : q < 6) (ht : t < 7) : M l E yX8_times wsX8_times { frames := 0, cells := 0, slots := 0, locals := 0 } 0 0 [.ref h0, .int (nI q), .int (nI t)] [(h0, oB 8 [.ref h1]), (h1, iA E 50 f)] (is1 (some (.int (f (q * 7 + t)))) [(h0, oB 8 [.ref h1]), (h1, iA E 50 f)]) := by
  refine M.ofG (cc := cX8_times) (maxL := 3) (ret := (some .int)) (lv := [(0, .ref h0), (1, .int (nI q)), (2, .int (nI t))]) (own := RX8) (by decide) rfl rfl (Nat.le_of_ble_eq_true rfl) rfl ?_
  intro K C X _
  have i8 : ∀ w ∈ wsX80, w ∈ wsX8_times := by decide +kernel
  refine g_aload_n C dX8_times_0 rfl 0 rfl ?_
  refine g_get C i8 0 rfl rfl 0 (by decide) (List.mem_of_getElem? (i := 1) rfl) rfl rfl dX8_times_1 ?_
  refine g_iload_n C dX8_times_4 rfl 1 rfl ?_
  refine g_bipush C (nI 7) dX8_times_5 (by decide) ?_
  refine g_imulN C dX8_times_7 ?_
  refine g_iload_n C dX8_times_8 rfl 2 rfl ?_
  refine g_iaddN C dX8_times_9 ?_
  refine g_iald C 1 rfl (by omega) (by decide) dX8_times_10 ?_
  exact g_iret C X dX8_times_11 (⟨rfl, rfl⟩)

set_option maxHeartbeats 4000000 in
set_option maxRecDepth 100000 in
theorem kX8_setTimes (l : Launch) (E : EX) (h0 h1 : Nat) (f : Nat → Int32) (q t : Nat) (x : Int32) (hq : q < 6) (ht : t < 7) : M l E yX8_setTimes wsX8_setTimes { frames := 1, cells := 0, slots := 0, locals := 15 } 0 0 [.ref h0, .int (nI q), .int (nI t), .int x] [(h0, oB 8 [.ref h1]), (h1, iA E 50 f)] (is1 none [(h0, oB 8 [.ref h1]), (h1, iA E 50 (upd f (q * 7 + t) (imin x (nI 99))))]) := by
  refine M.ofG (cc := cX8_setTimes) (maxL := 4) (ret := none) (lv := [(0, .ref h0), (1, .int (nI q)), (2, .int (nI t)), (3, .int x)]) (own := RX8) (by decide) rfl rfl (Nat.le_of_ble_eq_true rfl) rfl ?_
  intro K C X _
  have i8 : ∀ w ∈ wsX80, w ∈ wsX8_setTimes := by decide +kernel
  refine g_aload_n C dX8_setTimes_0 rfl 0 rfl ?_
  refine g_get C i8 0 rfl rfl 0 (by decide) (List.mem_of_getElem? (i := 1) rfl) rfl rfl dX8_setTimes_1 ?_
  refine g_iload_n C dX8_setTimes_4 rfl 1 rfl ?_
  refine g_bipush C (nI 7) dX8_setTimes_5 (by decide) ?_
  refine g_imulN C dX8_setTimes_7 ?_
  refine g_iload_n C dX8_setTimes_8 rfl 2 rfl ?_
  refine g_iaddN C dX8_setTimes_9 ?_
  refine g_iload_n C dX8_setTimes_10 rfl 3 rfl ?_
  refine g_bipush C (nI 99) dX8_setTimes_11 (by decide) ?_
  refine g_mmin C (List.mem_of_getElem? (i := 2) rfl) (List.mem_of_getElem? (i := 3) rfl) (List.mem_of_getElem? (i := 4) rfl) (List.mem_of_getElem? (i := 5) rfl) (by decide) (Nat.le_of_ble_eq_true rfl) (by decide) dX8_setTimes_13 ?_
  refine g_iast C (ws' := fun f1 => [(h0, oB 8 [.ref h1]), (h1, iA E 50 f1)]) 1 rfl (by omega) (by decide) dX8_setTimes_16 (fun _ _ => rfl) (fun f1 ef1 => ?_)
  exact g_vret C X dX8_setTimes_17 (⟨rfl, by simp [ef1]⟩)

set_option maxHeartbeats 4000000 in
set_option maxRecDepth 100000 in
theorem kX8_bedOf (l : Launch) (E : EX) (h0 h1 : Nat) (f : Nat → Int32) (p : Nat) (hp : p < 6) : M l E yX8_bedOf wsX8_bedOf { frames := 0, cells := 0, slots := 0, locals := 0 } 0 0 [.ref h0, .int (nI p)] [(h0, oB 8 [.ref h1]), (h1, iA E 50 f)] (is1 (some (.int (f (42 + p)))) [(h0, oB 8 [.ref h1]), (h1, iA E 50 f)]) := by
  refine M.ofG (cc := cX8_bedOf) (maxL := 2) (ret := (some .int)) (lv := [(0, .ref h0), (1, .int (nI p))]) (own := RX8) (by decide) rfl rfl (Nat.le_of_ble_eq_true rfl) rfl ?_
  intro K C X _
  have i8 : ∀ w ∈ wsX80, w ∈ wsX8_bedOf := by decide +kernel
  refine g_aload_n C dX8_bedOf_0 rfl 0 rfl ?_
  refine g_get C i8 0 rfl rfl 0 (by decide) (List.mem_of_getElem? (i := 1) rfl) rfl rfl dX8_bedOf_1 ?_
  refine g_bipush C (nI 42) dX8_bedOf_4 (by decide) ?_
  refine g_iload_n C dX8_bedOf_6 rfl 1 rfl ?_
  refine g_iaddN C dX8_bedOf_7 ?_
  refine g_iald C 1 rfl (by omega) (by decide) dX8_bedOf_8 ?_
  exact g_iret C X dX8_bedOf_9 (⟨rfl, rfl⟩)

set_option maxHeartbeats 4000000 in
set_option maxRecDepth 100000 in
theorem kX8_lay (l : Launch) (E : EX) (h0 h1 : Nat) (f : Nat → Int32) (p : Nat) (x : Int32) (hp : p < 6) : M l E yX8_lay wsX8_lay { frames := 0, cells := 0, slots := 0, locals := 0 } 0 0 [.ref h0, .int (nI p), .int x] [(h0, oB 8 [.ref h1]), (h1, iA E 50 f)] (is1 none [(h0, oB 8 [.ref h1]), (h1, iA E 50 (upd f (42 + p) x))]) := by
  refine M.ofG (cc := cX8_lay) (maxL := 3) (ret := none) (lv := [(0, .ref h0), (1, .int (nI p)), (2, .int x)]) (own := RX8) (by decide) rfl rfl (Nat.le_of_ble_eq_true rfl) rfl ?_
  intro K C X _
  have i8 : ∀ w ∈ wsX80, w ∈ wsX8_lay := by decide +kernel
  refine g_aload_n C dX8_lay_0 rfl 0 rfl ?_
  refine g_get C i8 0 rfl rfl 0 (by decide) (List.mem_of_getElem? (i := 1) rfl) rfl rfl dX8_lay_1 ?_
  refine g_bipush C (nI 42) dX8_lay_4 (by decide) ?_
  refine g_iload_n C dX8_lay_6 rfl 1 rfl ?_
  refine g_iaddN C dX8_lay_7 ?_
  refine g_iload_n C dX8_lay_8 rfl 2 rfl ?_
  refine g_iast C (ws' := fun f1 => [(h0, oB 8 [.ref h1]), (h1, iA E 50 f1)]) 1 rfl (by omega) (by decide) dX8_lay_9 (fun _ _ => rfl) (fun f1 ef1 => ?_)
  exact g_vret C X dX8_lay_10 (⟨rfl, by simp [ef1]⟩)

set_option maxHeartbeats 4000000 in
set_option maxRecDepth 100000 in
theorem kX8_nightNumber (l : Launch) (E : EX) (h0 h1 : Nat) (f : Nat → Int32)  : M l E yX8_nightNumber wsX8_nightNumber { frames := 0, cells := 0, slots := 0, locals := 0 } 0 0 [.ref h0] [(h0, oB 8 [.ref h1]), (h1, iA E 50 f)] (is1 (some (.int (f 49))) [(h0, oB 8 [.ref h1]), (h1, iA E 50 f)]) := by
  refine M.ofG (cc := cX8_nightNumber) (maxL := 1) (ret := (some .int)) (lv := [(0, .ref h0)]) (own := RX8) (by decide) rfl rfl (Nat.le_of_ble_eq_true rfl) rfl ?_
  intro K C X _
  have i8 : ∀ w ∈ wsX80, w ∈ wsX8_nightNumber := by decide +kernel
  refine g_aload_n C dX8_nightNumber_0 rfl 0 rfl ?_
  refine g_get C i8 0 rfl rfl 0 (by decide) (List.mem_of_getElem? (i := 1) rfl) rfl rfl dX8_nightNumber_1 ?_
  refine g_bipush C (nI 49) dX8_nightNumber_4 (by decide) ?_
  refine g_iald C 1 rfl (by omega) (by decide) dX8_nightNumber_6 ?_
  exact g_iret C X dX8_nightNumber_7 (⟨rfl, rfl⟩)

set_option maxHeartbeats 4000000 in
set_option maxRecDepth 100000 in
theorem kX8_isExamined (l : Launch) (E : EX) (h0 h1 : Nat) (f : Nat → Int32) (q : Nat)  : M l E yX8_isExamined wsX8_isExamined { frames := 0, cells := 0, slots := 0, locals := 0 } 0 0 [.ref h0, .int (nI q)] [(h0, oB 8 [.ref h1]), (h1, iA E 50 f)] (is1 (some (.int (bI (¬ tb (f 48) q = 0)))) [(h0, oB 8 [.ref h1]), (h1, iA E 50 f)]) := by
  refine M.ofG (cc := cX8_isExamined) (maxL := 2) (ret := (some .boolean)) (lv := [(0, .ref h0), (1, .int (nI q))]) (own := RX8) (by decide) rfl rfl (Nat.le_of_ble_eq_true rfl) rfl ?_
  intro K C X _
  have i8 : ∀ w ∈ wsX80, w ∈ wsX8_isExamined := by decide +kernel
  refine g_aload_n C dX8_isExamined_0 rfl 0 rfl ?_
  refine g_get C i8 0 rfl rfl 0 (by decide) (List.mem_of_getElem? (i := 1) rfl) rfl rfl dX8_isExamined_1 ?_
  refine g_bipush C (nI 48) dX8_isExamined_4 (by decide) ?_
  refine g_iald C 1 rfl (by omega) (by decide) dX8_isExamined_6 ?_
  refine g_iload_n C dX8_isExamined_7 rfl 1 rfl ?_
  refine g_ishr C dX8_isExamined_8 ?_
  refine g_iconst C (nI 1) dX8_isExamined_9 (by decide) ?_
  refine g_iand C dX8_isExamined_10 ?_
  refine g_if_eq C 18 dX8_isExamined_11 (by decide) (fun c1 => ?_) (fun c1 => ?_)
  · refine g_iconst C (nI 0) dX8_isExamined_18 (by decide) ?_
    exact g_zret C X rfl dX8_isExamined_19 (⟨congrArg (fun z => some (Value.int z)) (bI_f (fun z => z c1)).symm, rfl⟩)
  · refine g_iconst C (nI 1) dX8_isExamined_14 (by decide) ?_
    refine g_goto C 19 dX8_isExamined_15 (by decide) ?_
    exact g_zret C X rfl dX8_isExamined_19 (⟨congrArg (fun z => some (Value.int z)) (bI_t (c1)).symm, rfl⟩)

set_option maxHeartbeats 4000000 in
set_option maxRecDepth 100000 in
theorem kX8_examine (l : Launch) (E : EX) (h0 h1 : Nat) (f : Nat → Int32) (q : Nat) (hq : q < 6) : M l E yX8_examine wsX8_examine { frames := 0, cells := 0, slots := 0, locals := 0 } 0 0 [.ref h0, .int (nI q)] [(h0, oB 8 [.ref h1]), (h1, iA E 50 f)] (is1 none [(h0, oB 8 [.ref h1]), (h1, iA E 50 (upd f 48 (f 48 ||| nI (2 ^ q))))]) := by
  refine M.ofG (cc := cX8_examine) (maxL := 2) (ret := none) (lv := [(0, .ref h0), (1, .int (nI q))]) (own := RX8) (by decide) rfl rfl (Nat.le_of_ble_eq_true rfl) rfl ?_
  intro K C X _
  have i8 : ∀ w ∈ wsX80, w ∈ wsX8_examine := by decide +kernel
  refine g_aload_n C dX8_examine_0 rfl 0 rfl ?_
  refine g_get C i8 0 rfl rfl 0 (by decide) (List.mem_of_getElem? (i := 1) rfl) rfl rfl dX8_examine_1 ?_
  refine g_bipush C (nI 48) dX8_examine_4 (by decide) ?_
  refine g_dup2 C dX8_examine_6 rfl rfl ?_
  refine g_iald C 1 rfl (by omega) (by decide) dX8_examine_7 ?_
  refine g_iconst C (nI 1) dX8_examine_8 (by decide) ?_
  refine g_iload_n C dX8_examine_9 rfl 1 rfl ?_
  refine g_ishl1 C dX8_examine_10 (by omega) ?_
  refine g_ior C dX8_examine_11 ?_
  refine g_iast C (ws' := fun f1 => [(h0, oB 8 [.ref h1]), (h1, iA E 50 f1)]) 1 rfl (by omega) (by decide) dX8_examine_12 (fun _ _ => rfl) (fun f1 ef1 => ?_)
  exact g_vret C X dX8_examine_13 (⟨rfl, by simp [ef1]⟩)

set_option maxHeartbeats 4000000 in
set_option maxRecDepth 100000 in
theorem kX8_thingsOn (l : Launch) (E : EX) (h0 h1 : Nat) (f : Nat → Int32) (q : Nat) (hq : q < 6) : M l E yX8_thingsOn wsX8_thingsOn { frames := 1, cells := 0, slots := 0, locals := 22 } 0 0 [.ref h0, .int (nI q)] [(h0, oB 8 [.ref h1]), (h1, iA E 50 f)] (is1 (some (.int (thOn f q 7))) [(h0, oB 8 [.ref h1]), (h1, iA E 50 f)]) := by
  refine M.ofG (cc := cX8_thingsOn) (maxL := 4) (ret := (some .int)) (lv := [(0, .ref h0), (1, .int (nI q))]) (own := RX8) (by decide) rfl rfl (Nat.le_of_ble_eq_true rfl) rfl ?_
  intro K C X _
  refine g_iconst C (nI 0) dX8_thingsOn_0 (by decide) ?_
  refine g_istore_n C (lv' := [(2, .int (nI 0)), (0, .ref h0), (1, .int (nI q))]) dX8_thingsOn_1 rfl (by decide) rfl ?_
  refine g_iconst C (nI 0) dX8_thingsOn_2 (by decide) ?_
  refine g_istore_n C (lv' := [(3, .int (nI 0)), (2, .int (nI 0)), (0, .ref h0), (1, .int (nI q))]) dX8_thingsOn_3 rfl (by decide) rfl ?_
  have L4 : ∀ (zz k : Nat) (a : Int32), k + zz = 7 + 1 → k ≤ 7 → (a = thOn f q k) → G K 0 0 4 [(0, .ref h0), (1, .int (nI q)), (2, .int a), (3, .int (nI k))] [] [(h0, oB 8 [.ref h1]), (h1, iA E 50 f)] := by
    intro zz
    induction zz with
    | zero => intro k a hL4 gL4; exfalso; omega
    | succ zz ihL4 =>
      intro k a hL4 gL4 ha
      refine g_iload_n C dX8_thingsOn_4 rfl 3 rfl ?_
      refine g_bipush C (nI 7) dX8_thingsOn_5 (by decide) ?_
      refine g_icmp_geN C 31 dX8_thingsOn_7 (by decide) (by omega) (by omega) (fun c1 => ?_) (fun c1 => ?_)
      · have hk : k = 7 := by omega
        refine g_iload_n C dX8_thingsOn_31 rfl 2 rfl ?_
        exact g_iret C X dX8_thingsOn_32 (⟨by rw [ha, hk], rfl⟩)
      · refine g_aload_n C dX8_thingsOn_10 rfl 0 rfl ?_
        refine g_iload_n C dX8_thingsOn_11 rfl 1 rfl ?_
        refine g_iload_n C dX8_thingsOn_12 rfl 3 rfl ?_
        refine g_callV C (rest := []) (n := 2) (kX8_times l E h0 h1 f q k (by omega) (by omega)) gX8_thingsOn_X8_times rfl ⟨rfl, rfl⟩ (by decide) (Nat.le_of_ble_eq_true rfl) rfl (by decide +kernel) rfl dX8_thingsOn_13 0 rfl rfl [0, 1] [] rfl rfl ?_
        refine g_is1 (ws2 := [(h0, oB 8 [.ref h1]), (h1, iA E 50 f)]) (st2 := [.int (f (q * 7 + k))]) [0, 1] rfl rfl rfl ?_
        refine g_if_le C 25 dX8_thingsOn_16 (by decide) (fun c2 => ?_) (fun c2 => ?_)
        · refine g_iincN C (lv' := [(3, .int (nI (k + 1))), (0, .ref h0), (1, .int (nI q)), (2, .int a)]) dX8_thingsOn_25 3 rfl (by decide) rfl ?_
          refine g_goto C 4 dX8_thingsOn_28 (by decide) ?_
          refine g_sub (lv' := [(0, .ref h0), (1, .int (nI q)), (2, .int a), (3, .int (nI (k + 1)))]) [1, 2, 3, 0] rfl ?_
          exact ihL4 (k + 1) a (by omega) (by omega) (by first | omega | (simp [thOn, ha, c1, c2]; done))
        · refine g_iload_n C dX8_thingsOn_19 rfl 2 rfl ?_
          refine g_iconst C (nI 1) dX8_thingsOn_20 (by decide) ?_
          refine g_iload_n C dX8_thingsOn_21 rfl 3 rfl ?_
          refine g_ishl1 C dX8_thingsOn_22 (by omega) ?_
          refine g_ior C dX8_thingsOn_23 ?_
          refine g_nm (fun y3 ey3 => ?_)
          refine g_istore_n C (lv' := [(2, .int y3), (0, .ref h0), (1, .int (nI q)), (3, .int (nI k))]) dX8_thingsOn_24 rfl (by decide) rfl ?_
          refine g_iincN C (lv' := [(3, .int (nI (k + 1))), (2, .int y3), (0, .ref h0), (1, .int (nI q))]) dX8_thingsOn_25 3 rfl (by decide) rfl ?_
          refine g_goto C 4 dX8_thingsOn_28 (by decide) ?_
          refine g_sub (lv' := [(0, .ref h0), (1, .int (nI q)), (2, .int y3), (3, .int (nI (k + 1)))]) [2, 3, 1, 0] rfl ?_
          exact ihL4 (k + 1) y3 (by omega) (by omega) (by first | omega | (simp [thOn, ha, c1, c2, ey3]; done))
  refine g_sub (lv' := [(0, .ref h0), (1, .int (nI q)), (2, .int (nI 0)), (3, .int (nI 0))]) [2, 3, 1, 0] rfl ?_
  exact L4 (7 + 1 - 0) 0 (nI 0) (by omega) (by omega) (by first | rfl | omega | (simp [thOn]; done))

set_option maxHeartbeats 4000000 in
set_option maxRecDepth 100000 in
theorem kX8_thingsOnSet (l : Launch) (E : EX) (h0 h1 : Nat) (f : Nat → Int32) (x : Int32)  : M l E yX8_thingsOnSet wsX8_thingsOnSet { frames := 2, cells := 0, slots := 0, locals := 45 } 0 0 [.ref h0, .int x] [(h0, oB 8 [.ref h1]), (h1, iA E 50 f)] (is1 (some (.int (thSet f x 6))) [(h0, oB 8 [.ref h1]), (h1, iA E 50 f)]) := by
  refine M.ofG (cc := cX8_thingsOnSet) (maxL := 4) (ret := (some .int)) (lv := [(0, .ref h0), (1, .int x)]) (own := RX8) (by decide) rfl rfl (Nat.le_of_ble_eq_true rfl) rfl ?_
  intro K C X _
  refine g_iconst C (nI 0) dX8_thingsOnSet_0 (by decide) ?_
  refine g_istore_n C (lv' := [(2, .int (nI 0)), (0, .ref h0), (1, .int x)]) dX8_thingsOnSet_1 rfl (by decide) rfl ?_
  refine g_iconst C (nI 0) dX8_thingsOnSet_2 (by decide) ?_
  refine g_istore_n C (lv' := [(3, .int (nI 0)), (2, .int (nI 0)), (0, .ref h0), (1, .int x)]) dX8_thingsOnSet_3 rfl (by decide) rfl ?_
  have L4 : ∀ (zz k : Nat) (a : Int32), k + zz = 6 + 1 → k ≤ 6 → (a = thSet f x k) → G K 0 0 4 [(0, .ref h0), (1, .int x), (2, .int a), (3, .int (nI k))] [] [(h0, oB 8 [.ref h1]), (h1, iA E 50 f)] := by
    intro zz
    induction zz with
    | zero => intro k a hL4 gL4; exfalso; omega
    | succ zz ihL4 =>
      intro k a hL4 gL4 ha
      refine g_iload_n C dX8_thingsOnSet_4 rfl 3 rfl ?_
      refine g_bipush C (nI 6) dX8_thingsOnSet_5 (by decide) ?_
      refine g_icmp_geN C 32 dX8_thingsOnSet_7 (by decide) (by omega) (by omega) (fun c1 => ?_) (fun c1 => ?_)
      · have hk : k = 6 := by omega
        refine g_iload_n C dX8_thingsOnSet_32 rfl 2 rfl ?_
        exact g_iret C X dX8_thingsOnSet_33 (⟨by rw [ha, hk], rfl⟩)
      · refine g_iload_n C dX8_thingsOnSet_10 rfl 1 rfl ?_
        refine g_iload_n C dX8_thingsOnSet_11 rfl 3 rfl ?_
        refine g_ishr C dX8_thingsOnSet_12 ?_
        refine g_iconst C (nI 1) dX8_thingsOnSet_13 (by decide) ?_
        refine g_iand C dX8_thingsOnSet_14 ?_
        refine g_if_eq C 26 dX8_thingsOnSet_15 (by decide) (fun c2 => ?_) (fun c2 => ?_)
        · refine g_iincN C (lv' := [(3, .int (nI (k + 1))), (0, .ref h0), (1, .int x), (2, .int a)]) dX8_thingsOnSet_26 3 rfl (by decide) rfl ?_
          refine g_goto C 4 dX8_thingsOnSet_29 (by decide) ?_
          refine g_sub (lv' := [(0, .ref h0), (1, .int x), (2, .int a), (3, .int (nI (k + 1)))]) [1, 2, 3, 0] rfl ?_
          exact ihL4 (k + 1) a (by omega) (by omega) (by first | omega | (simp [thSet, ha, c1, c2]; done))
        · refine g_iload_n C dX8_thingsOnSet_18 rfl 2 rfl ?_
          refine g_aload_n C dX8_thingsOnSet_19 rfl 0 rfl ?_
          refine g_iload_n C dX8_thingsOnSet_20 rfl 3 rfl ?_
          refine g_callV C (rest := [.int a]) (n := 1) (kX8_thingsOn l E h0 h1 f k (by omega)) gX8_thingsOnSet_X8_thingsOn rfl ⟨rfl, rfl⟩ (by decide) (Nat.le_of_ble_eq_true rfl) rfl (by decide +kernel) rfl dX8_thingsOnSet_21 0 rfl rfl [0, 1] [] rfl rfl ?_
          refine g_is1 (ws2 := [(h0, oB 8 [.ref h1]), (h1, iA E 50 f)]) (st2 := [.int (thOn f k 7), .int a]) [0, 1] rfl rfl rfl ?_
          refine g_ior C dX8_thingsOnSet_24 ?_
          refine g_nm (fun y3 ey3 => ?_)
          refine g_istore_n C (lv' := [(2, .int y3), (0, .ref h0), (1, .int x), (3, .int (nI k))]) dX8_thingsOnSet_25 rfl (by decide) rfl ?_
          refine g_iincN C (lv' := [(3, .int (nI (k + 1))), (2, .int y3), (0, .ref h0), (1, .int x)]) dX8_thingsOnSet_26 3 rfl (by decide) rfl ?_
          refine g_goto C 4 dX8_thingsOnSet_29 (by decide) ?_
          refine g_sub (lv' := [(0, .ref h0), (1, .int x), (2, .int y3), (3, .int (nI (k + 1)))]) [2, 3, 1, 0] rfl ?_
          exact ihL4 (k + 1) y3 (by omega) (by omega) (by first | omega | (simp [thSet, ha, c1, c2, ey3]; done))
  refine g_sub (lv' := [(0, .ref h0), (1, .int x), (2, .int (nI 0)), (3, .int (nI 0))]) [2, 3, 1, 0] rfl ?_
  exact L4 (6 + 1 - 0) 0 (nI 0) (by omega) (by omega) (by first | rfl | omega | (simp [thSet]; done))

set_option maxHeartbeats 4000000 in
set_option maxRecDepth 100000 in
theorem kX8_allThings (l : Launch) (E : EX) (h0 h1 : Nat) (f : Nat → Int32)  : M l E yX8_allThings wsX8_allThings { frames := 3, cells := 0, slots := 0, locals := 68 } 0 0 [.ref h0] [(h0, oB 8 [.ref h1]), (h1, iA E 50 f)] (is1 (some (.int (thSet f (nI 63) 6))) [(h0, oB 8 [.ref h1]), (h1, iA E 50 f)]) := by
  refine M.ofG (cc := cX8_allThings) (maxL := 1) (ret := (some .int)) (lv := [(0, .ref h0)]) (own := RX8) (by decide) rfl rfl (Nat.le_of_ble_eq_true rfl) rfl ?_
  intro K C X _
  refine g_aload_n C dX8_allThings_0 rfl 0 rfl ?_
  refine g_bipush C (nI 63) dX8_allThings_1 (by decide) ?_
  refine g_callV C (rest := []) (n := 1) (kX8_thingsOnSet l E h0 h1 f (nI 63) ) gX8_allThings_X8_thingsOnSet rfl ⟨rfl, rfl⟩ (by decide) (Nat.le_of_ble_eq_true rfl) rfl (by decide +kernel) rfl dX8_allThings_3 0 rfl rfl [0, 1] [] rfl rfl ?_
  refine g_is1 (ws2 := [(h0, oB 8 [.ref h1]), (h1, iA E 50 f)]) (st2 := [.int (thSet f (nI 63) 6)]) [0, 1] rfl rfl rfl ?_
  exact g_iret C X dX8_allThings_6 (⟨rfl, rfl⟩)

set_option maxHeartbeats 4000000 in
set_option maxRecDepth 100000 in
theorem kX8_knownThings (l : Launch) (E : EX) (h0 h1 : Nat) (f : Nat → Int32)  : M l E yX8_knownThings wsX8_knownThings { frames := 3, cells := 0, slots := 0, locals := 68 } 0 0 [.ref h0] [(h0, oB 8 [.ref h1]), (h1, iA E 50 f)] (is1 (some (.int (thSet f (f 48) 6))) [(h0, oB 8 [.ref h1]), (h1, iA E 50 f)]) := by
  refine M.ofG (cc := cX8_knownThings) (maxL := 1) (ret := (some .int)) (lv := [(0, .ref h0)]) (own := RX8) (by decide) rfl rfl (Nat.le_of_ble_eq_true rfl) rfl ?_
  intro K C X _
  have i8 : ∀ w ∈ wsX80, w ∈ wsX8_knownThings := by decide +kernel
  refine g_aload_n C dX8_knownThings_0 rfl 0 rfl ?_
  refine g_aload_n C dX8_knownThings_1 rfl 0 rfl ?_
  refine g_get C i8 0 rfl rfl 0 (by decide) (List.mem_of_getElem? (i := 1) rfl) rfl rfl dX8_knownThings_2 ?_
  refine g_bipush C (nI 48) dX8_knownThings_5 (by decide) ?_
  refine g_iald C 1 rfl (by omega) (by decide) dX8_knownThings_7 ?_
  refine g_callV C (rest := []) (n := 1) (kX8_thingsOnSet l E h0 h1 f (f 48) ) gX8_knownThings_X8_thingsOnSet rfl ⟨rfl, rfl⟩ (by decide) (Nat.le_of_ble_eq_true rfl) rfl (by decide +kernel) rfl dX8_knownThings_8 0 rfl rfl [0, 1] [] rfl rfl ?_
  refine g_is1 (ws2 := [(h0, oB 8 [.ref h1]), (h1, iA E 50 f)]) (st2 := [.int (thSet f (f 48) 6)]) [0, 1] rfl rfl rfl ?_
  exact g_iret C X dX8_knownThings_11 (⟨rfl, rfl⟩)

set_option maxHeartbeats 4000000 in
set_option maxRecDepth 100000 in
theorem kX8_timesOn (l : Launch) (E : EX) (h0 h1 : Nat) (f : Nat → Int32) (q : Nat) (x : Int32) (hq : q < 6) : M l E yX8_timesOn wsX8_timesOn { frames := 1, cells := 0, slots := 0, locals := 22 } 0 0 [.ref h0, .int (nI q), .int x] [(h0, oB 8 [.ref h1]), (h1, iA E 50 f)] (is1 (some (.int (tiOn f q x 7))) [(h0, oB 8 [.ref h1]), (h1, iA E 50 f)]) := by
  refine M.ofG (cc := cX8_timesOn) (maxL := 5) (ret := (some .int)) (lv := [(0, .ref h0), (1, .int (nI q)), (2, .int x)]) (own := RX8) (by decide) rfl rfl (Nat.le_of_ble_eq_true rfl) rfl ?_
  intro K C X _
  refine g_iconst C (nI 0) dX8_timesOn_0 (by decide) ?_
  refine g_istore_n C (lv' := [(3, .int (nI 0)), (0, .ref h0), (1, .int (nI q)), (2, .int x)]) dX8_timesOn_1 rfl (by decide) rfl ?_
  refine g_iconst C (nI 0) dX8_timesOn_2 (by decide) ?_
  refine g_istore C (lv' := [(4, .int (nI 0)), (3, .int (nI 0)), (0, .ref h0), (1, .int (nI q)), (2, .int x)]) dX8_timesOn_3 (by decide) rfl ?_
  have L5 : ∀ (zz k : Nat) (a : Int32), k + zz = 7 + 1 → k ≤ 7 → (a = tiOn f q x k) → G K 0 0 5 [(0, .ref h0), (1, .int (nI q)), (2, .int x), (3, .int a), (4, .int (nI k))] [] [(h0, oB 8 [.ref h1]), (h1, iA E 50 f)] := by
    intro zz
    induction zz with
    | zero => intro k a hL5 gL5; exfalso; omega
    | succ zz ihL5 =>
      intro k a hL5 gL5 ha
      refine g_iload C dX8_timesOn_5 4 rfl ?_
      refine g_bipush C (nI 7) dX8_timesOn_7 (by decide) ?_
      refine g_icmp_geN C 37 dX8_timesOn_9 (by decide) (by omega) (by omega) (fun c1 => ?_) (fun c1 => ?_)
      · have hk : k = 7 := by omega
        refine g_iload_n C dX8_timesOn_37 rfl 3 rfl ?_
        exact g_iret C X dX8_timesOn_38 (⟨by rw [ha, hk], rfl⟩)
      · refine g_iload_n C dX8_timesOn_12 rfl 2 rfl ?_
        refine g_iload C dX8_timesOn_13 4 rfl ?_
        refine g_ishr C dX8_timesOn_15 ?_
        refine g_iconst C (nI 1) dX8_timesOn_16 (by decide) ?_
        refine g_iand C dX8_timesOn_17 ?_
        refine g_if_eq C 31 dX8_timesOn_18 (by decide) (fun c2 => ?_) (fun c2 => ?_)
        · refine g_iincN C (lv' := [(4, .int (nI (k + 1))), (0, .ref h0), (1, .int (nI q)), (2, .int x), (3, .int a)]) dX8_timesOn_31 4 rfl (by decide) rfl ?_
          refine g_goto C 5 dX8_timesOn_34 (by decide) ?_
          refine g_sub (lv' := [(0, .ref h0), (1, .int (nI q)), (2, .int x), (3, .int a), (4, .int (nI (k + 1)))]) [1, 2, 3, 4, 0] rfl ?_
          exact ihL5 (k + 1) a (by omega) (by omega) (by first | omega | (simp [tiOn, ha, c1, c2]; done))
        · refine g_iload_n C dX8_timesOn_21 rfl 3 rfl ?_
          refine g_aload_n C dX8_timesOn_22 rfl 0 rfl ?_
          refine g_iload_n C dX8_timesOn_23 rfl 1 rfl ?_
          refine g_iload C dX8_timesOn_24 4 rfl ?_
          refine g_callV C (rest := [.int a]) (n := 2) (kX8_times l E h0 h1 f q k (by omega) (by omega)) gX8_timesOn_X8_times rfl ⟨rfl, rfl⟩ (by decide) (Nat.le_of_ble_eq_true rfl) rfl (by decide +kernel) rfl dX8_timesOn_26 0 rfl rfl [0, 1] [] rfl rfl ?_
          refine g_is1 (ws2 := [(h0, oB 8 [.ref h1]), (h1, iA E 50 f)]) (st2 := [.int (f (q * 7 + k)), .int a]) [0, 1] rfl rfl rfl ?_
          refine g_iadd C dX8_timesOn_29 ?_
          refine g_nm (fun y3 ey3 => ?_)
          refine g_istore_n C (lv' := [(3, .int y3), (0, .ref h0), (1, .int (nI q)), (2, .int x), (4, .int (nI k))]) dX8_timesOn_30 rfl (by decide) rfl ?_
          refine g_iincN C (lv' := [(4, .int (nI (k + 1))), (3, .int y3), (0, .ref h0), (1, .int (nI q)), (2, .int x)]) dX8_timesOn_31 4 rfl (by decide) rfl ?_
          refine g_goto C 5 dX8_timesOn_34 (by decide) ?_
          refine g_sub (lv' := [(0, .ref h0), (1, .int (nI q)), (2, .int x), (3, .int y3), (4, .int (nI (k + 1)))]) [2, 3, 4, 1, 0] rfl ?_
          exact ihL5 (k + 1) y3 (by omega) (by omega) (by first | omega | (simp [tiOn, ha, c1, c2, ey3]; done))
  refine g_sub (lv' := [(0, .ref h0), (1, .int (nI q)), (2, .int x), (3, .int (nI 0)), (4, .int (nI 0))]) [2, 3, 4, 1, 0] rfl ?_
  exact L5 (7 + 1 - 0) 0 (nI 0) (by omega) (by omega) (by first | rfl | omega | (simp [tiOn]; done))

set_option maxHeartbeats 4000000 in
set_option maxRecDepth 100000 in
theorem kX8_timesOfSet (l : Launch) (E : EX) (h0 h1 : Nat) (f : Nat → Int32) (x : Int32)  : M l E yX8_timesOfSet wsX8_timesOfSet { frames := 2, cells := 0, slots := 0, locals := 46 } 0 0 [.ref h0, .int x] [(h0, oB 8 [.ref h1]), (h1, iA E 50 f)] (is1 (some (.int (tiSet f x 6))) [(h0, oB 8 [.ref h1]), (h1, iA E 50 f)]) := by
  refine M.ofG (cc := cX8_timesOfSet) (maxL := 4) (ret := (some .int)) (lv := [(0, .ref h0), (1, .int x)]) (own := RX8) (by decide) rfl rfl (Nat.le_of_ble_eq_true rfl) rfl ?_
  intro K C X _
  refine g_iconst C (nI 0) dX8_timesOfSet_0 (by decide) ?_
  refine g_istore_n C (lv' := [(2, .int (nI 0)), (0, .ref h0), (1, .int x)]) dX8_timesOfSet_1 rfl (by decide) rfl ?_
  refine g_iconst C (nI 0) dX8_timesOfSet_2 (by decide) ?_
  refine g_istore_n C (lv' := [(3, .int (nI 0)), (2, .int (nI 0)), (0, .ref h0), (1, .int x)]) dX8_timesOfSet_3 rfl (by decide) rfl ?_
  have L4 : ∀ (zz k : Nat) (a : Int32), k + zz = 6 + 1 → k ≤ 6 → (a = tiSet f x k) → G K 0 0 4 [(0, .ref h0), (1, .int x), (2, .int a), (3, .int (nI k))] [] [(h0, oB 8 [.ref h1]), (h1, iA E 50 f)] := by
    intro zz
    induction zz with
    | zero => intro k a hL4 gL4; exfalso; omega
    | succ zz ihL4 =>
      intro k a hL4 gL4 ha
      refine g_iload_n C dX8_timesOfSet_4 rfl 3 rfl ?_
      refine g_bipush C (nI 6) dX8_timesOfSet_5 (by decide) ?_
      refine g_icmp_geN C 25 dX8_timesOfSet_7 (by decide) (by omega) (by omega) (fun c1 => ?_) (fun c1 => ?_)
      · have hk : k = 6 := by omega
        refine g_iload_n C dX8_timesOfSet_25 rfl 2 rfl ?_
        exact g_iret C X dX8_timesOfSet_26 (⟨by rw [ha, hk], rfl⟩)
      · refine g_iload_n C dX8_timesOfSet_10 rfl 2 rfl ?_
        refine g_aload_n C dX8_timesOfSet_11 rfl 0 rfl ?_
        refine g_iload_n C dX8_timesOfSet_12 rfl 3 rfl ?_
        refine g_iload_n C dX8_timesOfSet_13 rfl 1 rfl ?_
        refine g_callV C (rest := [.int a]) (n := 2) (kX8_timesOn l E h0 h1 f k x (by omega)) gX8_timesOfSet_X8_timesOn rfl ⟨rfl, rfl⟩ (by decide) (Nat.le_of_ble_eq_true rfl) rfl (by decide +kernel) rfl dX8_timesOfSet_14 0 rfl rfl [0, 1] [] rfl rfl ?_
        refine g_is1 (ws2 := [(h0, oB 8 [.ref h1]), (h1, iA E 50 f)]) (st2 := [.int (tiOn f k x 7), .int a]) [0, 1] rfl rfl rfl ?_
        refine g_iadd C dX8_timesOfSet_17 ?_
        refine g_nm (fun y2 ey2 => ?_)
        refine g_istore_n C (lv' := [(2, .int y2), (0, .ref h0), (1, .int x), (3, .int (nI k))]) dX8_timesOfSet_18 rfl (by decide) rfl ?_
        refine g_iincN C (lv' := [(3, .int (nI (k + 1))), (2, .int y2), (0, .ref h0), (1, .int x)]) dX8_timesOfSet_19 3 rfl (by decide) rfl ?_
        refine g_goto C 4 dX8_timesOfSet_22 (by decide) ?_
        refine g_sub (lv' := [(0, .ref h0), (1, .int x), (2, .int y2), (3, .int (nI (k + 1)))]) [2, 3, 1, 0] rfl ?_
        exact ihL4 (k + 1) y2 (by omega) (by omega) (by first | omega | (simp [tiSet, ha, c1, ey2]; done))
  refine g_sub (lv' := [(0, .ref h0), (1, .int x), (2, .int (nI 0)), (3, .int (nI 0))]) [2, 3, 1, 0] rfl ?_
  exact L4 (6 + 1 - 0) 0 (nI 0) (by omega) (by omega) (by first | rfl | omega | (simp [tiSet]; done))

set_option maxHeartbeats 4000000 in
set_option maxRecDepth 100000 in
theorem kX8_sleepersOn (l : Launch) (E : EX) (h0 h1 : Nat) (f : Nat → Int32) (q : Nat)  : M l E yX8_sleepersOn wsX8_sleepersOn { frames := 1, cells := 0, slots := 0, locals := 21 } 0 0 [.ref h0, .int (nI q)] [(h0, oB 8 [.ref h1]), (h1, iA E 50 f)] (is1 (some (.int (slOn f q 6))) [(h0, oB 8 [.ref h1]), (h1, iA E 50 f)]) := by
  refine M.ofG (cc := cX8_sleepersOn) (maxL := 4) (ret := (some .int)) (lv := [(0, .ref h0), (1, .int (nI q))]) (own := RX8) (by decide) rfl rfl (Nat.le_of_ble_eq_true rfl) rfl ?_
  intro K C X _
  refine g_iconst C (nI 0) dX8_sleepersOn_0 (by decide) ?_
  refine g_istore_n C (lv' := [(2, .int (nI 0)), (0, .ref h0), (1, .int (nI q))]) dX8_sleepersOn_1 rfl (by decide) rfl ?_
  refine g_iconst C (nI 0) dX8_sleepersOn_2 (by decide) ?_
  refine g_istore_n C (lv' := [(3, .int (nI 0)), (2, .int (nI 0)), (0, .ref h0), (1, .int (nI q))]) dX8_sleepersOn_3 rfl (by decide) rfl ?_
  have L4 : ∀ (zz k : Nat) (a : Int32), k + zz = 6 + 1 → k ≤ 6 → (a = slOn f q k) → G K 0 0 4 [(0, .ref h0), (1, .int (nI q)), (2, .int a), (3, .int (nI k))] [] [(h0, oB 8 [.ref h1]), (h1, iA E 50 f)] := by
    intro zz
    induction zz with
    | zero => intro k a hL4 gL4; exfalso; omega
    | succ zz ihL4 =>
      intro k a hL4 gL4 ha
      refine g_iload_n C dX8_sleepersOn_4 rfl 3 rfl ?_
      refine g_bipush C (nI 6) dX8_sleepersOn_5 (by decide) ?_
      refine g_icmp_geN C 31 dX8_sleepersOn_7 (by decide) (by omega) (by omega) (fun c1 => ?_) (fun c1 => ?_)
      · have hk : k = 6 := by omega
        refine g_iload_n C dX8_sleepersOn_31 rfl 2 rfl ?_
        exact g_iret C X dX8_sleepersOn_32 (⟨by rw [ha, hk], rfl⟩)
      · refine g_aload_n C dX8_sleepersOn_10 rfl 0 rfl ?_
        refine g_iload_n C dX8_sleepersOn_11 rfl 3 rfl ?_
        refine g_callV C (rest := []) (n := 1) (kX8_bedOf l E h0 h1 f k (by omega)) gX8_sleepersOn_X8_bedOf rfl ⟨rfl, rfl⟩ (by decide) (Nat.le_of_ble_eq_true rfl) rfl (by decide +kernel) rfl dX8_sleepersOn_12 0 rfl rfl [0, 1] [] rfl rfl ?_
        refine g_is1 (ws2 := [(h0, oB 8 [.ref h1]), (h1, iA E 50 f)]) (st2 := [.int (f (42 + k))]) [0, 1] rfl rfl rfl ?_
        refine g_iload_n C dX8_sleepersOn_15 rfl 1 rfl ?_
        refine g_icmp_ne C 25 dX8_sleepersOn_16 (by decide) (fun c2 => ?_) (fun c2 => ?_)
        · refine g_iincN C (lv' := [(3, .int (nI (k + 1))), (0, .ref h0), (1, .int (nI q)), (2, .int a)]) dX8_sleepersOn_25 3 rfl (by decide) rfl ?_
          refine g_goto C 4 dX8_sleepersOn_28 (by decide) ?_
          refine g_sub (lv' := [(0, .ref h0), (1, .int (nI q)), (2, .int a), (3, .int (nI (k + 1)))]) [1, 2, 3, 0] rfl ?_
          exact ihL4 (k + 1) a (by omega) (by omega) (by first | omega | (simp [slOn, ha, c1, c2]; done))
        · refine g_iload_n C dX8_sleepersOn_19 rfl 2 rfl ?_
          refine g_iconst C (nI 1) dX8_sleepersOn_20 (by decide) ?_
          refine g_iload_n C dX8_sleepersOn_21 rfl 3 rfl ?_
          refine g_ishl1 C dX8_sleepersOn_22 (by omega) ?_
          refine g_ior C dX8_sleepersOn_23 ?_
          refine g_nm (fun y3 ey3 => ?_)
          refine g_istore_n C (lv' := [(2, .int y3), (0, .ref h0), (1, .int (nI q)), (3, .int (nI k))]) dX8_sleepersOn_24 rfl (by decide) rfl ?_
          refine g_iincN C (lv' := [(3, .int (nI (k + 1))), (2, .int y3), (0, .ref h0), (1, .int (nI q))]) dX8_sleepersOn_25 3 rfl (by decide) rfl ?_
          refine g_goto C 4 dX8_sleepersOn_28 (by decide) ?_
          refine g_sub (lv' := [(0, .ref h0), (1, .int (nI q)), (2, .int y3), (3, .int (nI (k + 1)))]) [2, 3, 1, 0] rfl ?_
          exact ihL4 (k + 1) y3 (by omega) (by omega) (by first | omega | (simp [slOn, ha, c1, c2, ey3]; done))
  refine g_sub (lv' := [(0, .ref h0), (1, .int (nI q)), (2, .int (nI 0)), (3, .int (nI 0))]) [2, 3, 1, 0] rfl ?_
  exact L4 (6 + 1 - 0) 0 (nI 0) (by omega) (by omega) (by first | rfl | omega | (simp [slOn]; done))
end
