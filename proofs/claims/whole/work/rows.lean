section
-- ===== PART A: goes FIRST, ahead of the names: the tables' words, and 'selects' of the private methods out of them =====
/-- a private method of a class that the tables say can be made, by its rows of tables_1 -/
def lw_okq (q : MethodName × Nat) : Prop := (q.1.cls ≠ "java/lang/invoke/MethodHandle" ∧ q.1.cls ≠ "java/lang/invoke/VarHandle") ∧ Cond.instantiable q.1.cls q.2 ∈ tables_1 ∧ Cond.privateMethod q.1 ∈ tables_1 ∧ Cond.instanceMethod q.1 ∈ tables_1
theorem lw_p0 : lw_okq (⟨"ProofMarks", "recorded", "(I)I"⟩, 5) := ⟨⟨by decide +kernel, by decide +kernel⟩, List.mem_of_getElem? (i := 10) (by decide +kernel), List.mem_of_getElem? (i := 167) (by decide +kernel), List.mem_of_getElem? (i := 168) (by decide +kernel)⟩
theorem lw_p1 : lw_okq (⟨"ProofMarks$Sheet", "markOf", "(II)I"⟩, 15) := ⟨⟨by decide +kernel, by decide +kernel⟩, List.mem_of_getElem? (i := 18) (by decide +kernel), List.mem_of_getElem? (i := 189) (by decide +kernel), List.mem_of_getElem? (i := 190) (by decide +kernel)⟩
theorem lw_p2 : lw_okq (⟨"ProofMarks$Sheet", "vetoesLeft", "(I)I"⟩, 15) := ⟨⟨by decide +kernel, by decide +kernel⟩, List.mem_of_getElem? (i := 18) (by decide +kernel), List.mem_of_getElem? (i := 193) (by decide +kernel), List.mem_of_getElem? (i := 194) (by decide +kernel)⟩
theorem lw_p3 : lw_okq (⟨"ProofMarks$Sheet", "marksOf", "(II)I"⟩, 15) := ⟨⟨by decide +kernel, by decide +kernel⟩, List.mem_of_getElem? (i := 18) (by decide +kernel), List.mem_of_getElem? (i := 197) (by decide +kernel), List.mem_of_getElem? (i := 198) (by decide +kernel)⟩
theorem lw_p4 : lw_okq (⟨"ProofMarks$Sheet", "settle", "(I)I"⟩, 15) := ⟨⟨by decide +kernel, by decide +kernel⟩, List.mem_of_getElem? (i := 18) (by decide +kernel), List.mem_of_getElem? (i := 223) (by decide +kernel), List.mem_of_getElem? (i := 224) (by decide +kernel)⟩
theorem lw_p5 : lw_okq (⟨"ProofMarks$Sheet", "afterRound", "(I)I"⟩, 15) := ⟨⟨by decide +kernel, by decide +kernel⟩, List.mem_of_getElem? (i := 18) (by decide +kernel), List.mem_of_getElem? (i := 227) (by decide +kernel), List.mem_of_getElem? (i := 228) (by decide +kernel)⟩
theorem lw_p6 : lw_okq (⟨"ProofMarks$Sheet", "isWanted", "(II)Z"⟩, 15) := ⟨⟨by decide +kernel, by decide +kernel⟩, List.mem_of_getElem? (i := 18) (by decide +kernel), List.mem_of_getElem? (i := 237) (by decide +kernel), List.mem_of_getElem? (i := 238) (by decide +kernel)⟩
theorem lw_p7 : lw_okq (⟨"ProofMarks$Sheet", "dullAfterRound", "(I)I"⟩, 15) := ⟨⟨by decide +kernel, by decide +kernel⟩, List.mem_of_getElem? (i := 18) (by decide +kernel), List.mem_of_getElem? (i := 241) (by decide +kernel), List.mem_of_getElem? (i := 242) (by decide +kernel)⟩
theorem lw_p8 : lw_okq (⟨"ProofMarks$Sheet", "noteChoice", "(I)V"⟩, 15) := ⟨⟨by decide +kernel, by decide +kernel⟩, List.mem_of_getElem? (i := 18) (by decide +kernel), List.mem_of_getElem? (i := 245) (by decide +kernel), List.mem_of_getElem? (i := 246) (by decide +kernel)⟩
theorem lw_p9 : lw_okq (⟨"ProofMarks$Sheet", "isPicked", "(I)Z"⟩, 15) := ⟨⟨by decide +kernel, by decide +kernel⟩, List.mem_of_getElem? (i := 18) (by decide +kernel), List.mem_of_getElem? (i := 303) (by decide +kernel), List.mem_of_getElem? (i := 304) (by decide +kernel)⟩
theorem lw_p10 : lw_okq (⟨"ProofMarks$Sheet", "framesThatAre", "(I)I"⟩, 15) := ⟨⟨by decide +kernel, by decide +kernel⟩, List.mem_of_getElem? (i := 18) (by decide +kernel), List.mem_of_getElem? (i := 315) (by decide +kernel), List.mem_of_getElem? (i := 316) (by decide +kernel)⟩
theorem lw_p11 : lw_okq (⟨"ProofMarks$Sheet", "longestRow", "()I"⟩, 15) := ⟨⟨by decide +kernel, by decide +kernel⟩, List.mem_of_getElem? (i := 18) (by decide +kernel), List.mem_of_getElem? (i := 319) (by decide +kernel), List.mem_of_getElem? (i := 320) (by decide +kernel)⟩
theorem lw_p12 : lw_okq (⟨"ProofMarks$Sheet", "framesThatBecome", "(I)I"⟩, 15) := ⟨⟨by decide +kernel, by decide +kernel⟩, List.mem_of_getElem? (i := 18) (by decide +kernel), List.mem_of_getElem? (i := 339) (by decide +kernel), List.mem_of_getElem? (i := 340) (by decide +kernel)⟩
theorem lw_p13 : lw_okq (⟨"ProofMarks$Sheet", "markDecides", "(II)Z"⟩, 15) := ⟨⟨by decide +kernel, by decide +kernel⟩, List.mem_of_getElem? (i := 18) (by decide +kernel), List.mem_of_getElem? (i := 351) (by decide +kernel), List.mem_of_getElem? (i := 352) (by decide +kernel)⟩
theorem lw_p14 : lw_okq (⟨"ProofMarks$Pad", "take", "(C)Z"⟩, 8) := ⟨⟨by decide +kernel, by decide +kernel⟩, List.mem_of_getElem? (i := 89) (by decide +kernel), List.mem_of_getElem? (i := 409) (by decide +kernel), List.mem_of_getElem? (i := 410) (by decide +kernel)⟩
theorem lw_p15 : lw_okq (⟨"ProofMarks$Pad", "here", "()C"⟩, 8) := ⟨⟨by decide +kernel, by decide +kernel⟩, List.mem_of_getElem? (i := 89) (by decide +kernel), List.mem_of_getElem? (i := 413) (by decide +kernel), List.mem_of_getElem? (i := 414) (by decide +kernel)⟩
def lw_privs_1 : List (MethodName × Nat) := [(⟨"ProofMarks", "recorded", "(I)I"⟩, 5), (⟨"ProofMarks$Sheet", "markOf", "(II)I"⟩, 15), (⟨"ProofMarks$Sheet", "vetoesLeft", "(I)I"⟩, 15), (⟨"ProofMarks$Sheet", "marksOf", "(II)I"⟩, 15), (⟨"ProofMarks$Sheet", "settle", "(I)I"⟩, 15), (⟨"ProofMarks$Sheet", "afterRound", "(I)I"⟩, 15), (⟨"ProofMarks$Sheet", "isWanted", "(II)Z"⟩, 15), (⟨"ProofMarks$Sheet", "dullAfterRound", "(I)I"⟩, 15), (⟨"ProofMarks$Sheet", "noteChoice", "(I)V"⟩, 15), (⟨"ProofMarks$Sheet", "isPicked", "(I)Z"⟩, 15), (⟨"ProofMarks$Sheet", "framesThatAre", "(I)I"⟩, 15), (⟨"ProofMarks$Sheet", "longestRow", "()I"⟩, 15), (⟨"ProofMarks$Sheet", "framesThatBecome", "(I)I"⟩, 15), (⟨"ProofMarks$Sheet", "markDecides", "(II)Z"⟩, 15), (⟨"ProofMarks$Pad", "take", "(C)Z"⟩, 8), (⟨"ProofMarks$Pad", "here", "()C"⟩, 8)]
theorem lw_r1 : ∀ q ∈ lw_privs_1, lw_okq q := List.forall_mem_cons.mpr ⟨lw_p0, List.forall_mem_cons.mpr ⟨lw_p1, List.forall_mem_cons.mpr ⟨lw_p2, List.forall_mem_cons.mpr ⟨lw_p3, List.forall_mem_cons.mpr ⟨lw_p4, List.forall_mem_cons.mpr ⟨lw_p5, List.forall_mem_cons.mpr ⟨lw_p6, List.forall_mem_cons.mpr ⟨lw_p7, List.forall_mem_cons.mpr ⟨lw_p8, List.forall_mem_cons.mpr ⟨lw_p9, List.forall_mem_cons.mpr ⟨lw_p10, List.forall_mem_cons.mpr ⟨lw_p11, List.forall_mem_cons.mpr ⟨lw_p12, List.forall_mem_cons.mpr ⟨lw_p13, List.forall_mem_cons.mpr ⟨lw_p14, List.forall_mem_cons.mpr ⟨lw_p15, fun _ h => absurd h List.not_mem_nil⟩⟩⟩⟩⟩⟩⟩⟩⟩⟩⟩⟩⟩⟩⟩⟩
theorem lw_p16 : lw_okq (⟨"ProofMarks$Pad", "takeOrder", "()Z"⟩, 8) := ⟨⟨by decide +kernel, by decide +kernel⟩, List.mem_of_getElem? (i := 89) (by decide +kernel), List.mem_of_getElem? (i := 417) (by decide +kernel), List.mem_of_getElem? (i := 418) (by decide +kernel)⟩
theorem lw_p17 : lw_okq (⟨"ProofMarks$Pad", "takeEditor", "()Z"⟩, 8) := ⟨⟨by decide +kernel, by decide +kernel⟩, List.mem_of_getElem? (i := 89) (by decide +kernel), List.mem_of_getElem? (i := 421) (by decide +kernel), List.mem_of_getElem? (i := 422) (by decide +kernel)⟩
theorem lw_p18 : lw_okq (⟨"ProofMarks$Pad", "digitHere", "()I"⟩, 8) := ⟨⟨by decide +kernel, by decide +kernel⟩, List.mem_of_getElem? (i := 89) (by decide +kernel), List.mem_of_getElem? (i := 425) (by decide +kernel), List.mem_of_getElem? (i := 426) (by decide +kernel)⟩
theorem lw_p19 : lw_okq (⟨"ProofMarks$Pad", "pass", "(I)Z"⟩, 8) := ⟨⟨by decide +kernel, by decide +kernel⟩, List.mem_of_getElem? (i := 89) (by decide +kernel), List.mem_of_getElem? (i := 429) (by decide +kernel), List.mem_of_getElem? (i := 430) (by decide +kernel)⟩
theorem lw_p20 : lw_okq (⟨"ProofMarks$Pad", "takeNumber", "()Z"⟩, 8) := ⟨⟨by decide +kernel, by decide +kernel⟩, List.mem_of_getElem? (i := 89) (by decide +kernel), List.mem_of_getElem? (i := 433) (by decide +kernel), List.mem_of_getElem? (i := 434) (by decide +kernel)⟩
theorem lw_p21 : lw_okq (⟨"ProofMarks$Pad", "takeOther", "()Z"⟩, 8) := ⟨⟨by decide +kernel, by decide +kernel⟩, List.mem_of_getElem? (i := 89) (by decide +kernel), List.mem_of_getElem? (i := 437) (by decide +kernel), List.mem_of_getElem? (i := 438) (by decide +kernel)⟩
theorem lw_p22 : lw_okq (⟨"ProofMarks$Pad", "takeSize", "()Z"⟩, 8) := ⟨⟨by decide +kernel, by decide +kernel⟩, List.mem_of_getElem? (i := 89) (by decide +kernel), List.mem_of_getElem? (i := 441) (by decide +kernel), List.mem_of_getElem? (i := 442) (by decide +kernel)⟩
theorem lw_p23 : lw_okq (⟨"ProofMarks", "carryOrders", "()I"⟩, 5) := ⟨⟨by decide +kernel, by decide +kernel⟩, List.mem_of_getElem? (i := 10) (by decide +kernel), List.mem_of_getElem? (i := 449) (by decide +kernel), List.mem_of_getElem? (i := 450) (by decide +kernel)⟩
theorem lw_p24 : lw_okq (⟨"ProofMarks", "obey", "()I"⟩, 5) := ⟨⟨by decide +kernel, by decide +kernel⟩, List.mem_of_getElem? (i := 10) (by decide +kernel), List.mem_of_getElem? (i := 455) (by decide +kernel), List.mem_of_getElem? (i := 456) (by decide +kernel)⟩
theorem lw_p25 : lw_okq (⟨"ProofMarksModel", "whyNotMark", "(III)I"⟩, 7) := ⟨⟨by decide +kernel, by decide +kernel⟩, List.mem_of_getElem? (i := 479) (by decide +kernel), List.mem_of_getElem? (i := 517) (by decide +kernel), List.mem_of_getElem? (i := 518) (by decide +kernel)⟩
theorem lw_p26 : lw_okq (⟨"ProofMarksModel", "isOpen", "(I)Z"⟩, 7) := ⟨⟨by decide +kernel, by decide +kernel⟩, List.mem_of_getElem? (i := 479) (by decide +kernel), List.mem_of_getElem? (i := 530) (by decide +kernel), List.mem_of_getElem? (i := 531) (by decide +kernel)⟩
theorem lw_p27 : lw_okq (⟨"ProofMarksModel", "markOf", "(II)I"⟩, 7) := ⟨⟨by decide +kernel, by decide +kernel⟩, List.mem_of_getElem? (i := 479) (by decide +kernel), List.mem_of_getElem? (i := 534) (by decide +kernel), List.mem_of_getElem? (i := 535) (by decide +kernel)⟩
theorem lw_p28 : lw_okq (⟨"ProofMarksModel", "marked", "(II)I"⟩, 7) := ⟨⟨by decide +kernel, by decide +kernel⟩, List.mem_of_getElem? (i := 479) (by decide +kernel), List.mem_of_getElem? (i := 541) (by decide +kernel), List.mem_of_getElem? (i := 542) (by decide +kernel)⟩
theorem lw_p29 : lw_okq (⟨"ProofMarksModel", "remembers", "()V"⟩, 7) := ⟨⟨by decide +kernel, by decide +kernel⟩, List.mem_of_getElem? (i := 479) (by decide +kernel), List.mem_of_getElem? (i := 545) (by decide +kernel), List.mem_of_getElem? (i := 546) (by decide +kernel)⟩
theorem lw_p30 : lw_okq (⟨"ProofMarksModel", "marks", "(III)V"⟩, 7) := ⟨⟨by decide +kernel, by decide +kernel⟩, List.mem_of_getElem? (i := 479) (by decide +kernel), List.mem_of_getElem? (i := 549) (by decide +kernel), List.mem_of_getElem? (i := 550) (by decide +kernel)⟩
theorem lw_p31 : lw_okq (⟨"ProofMarksModel", "whyNotArgue", "(III)I"⟩, 7) := ⟨⟨by decide +kernel, by decide +kernel⟩, List.mem_of_getElem? (i := 479) (by decide +kernel), List.mem_of_getElem? (i := 557) (by decide +kernel), List.mem_of_getElem? (i := 558) (by decide +kernel)⟩
def lw_privs_2 : List (MethodName × Nat) := [(⟨"ProofMarks$Pad", "takeOrder", "()Z"⟩, 8), (⟨"ProofMarks$Pad", "takeEditor", "()Z"⟩, 8), (⟨"ProofMarks$Pad", "digitHere", "()I"⟩, 8), (⟨"ProofMarks$Pad", "pass", "(I)Z"⟩, 8), (⟨"ProofMarks$Pad", "takeNumber", "()Z"⟩, 8), (⟨"ProofMarks$Pad", "takeOther", "()Z"⟩, 8), (⟨"ProofMarks$Pad", "takeSize", "()Z"⟩, 8), (⟨"ProofMarks", "carryOrders", "()I"⟩, 5), (⟨"ProofMarks", "obey", "()I"⟩, 5), (⟨"ProofMarksModel", "whyNotMark", "(III)I"⟩, 7), (⟨"ProofMarksModel", "isOpen", "(I)Z"⟩, 7), (⟨"ProofMarksModel", "markOf", "(II)I"⟩, 7), (⟨"ProofMarksModel", "marked", "(II)I"⟩, 7), (⟨"ProofMarksModel", "remembers", "()V"⟩, 7), (⟨"ProofMarksModel", "marks", "(III)V"⟩, 7), (⟨"ProofMarksModel", "whyNotArgue", "(III)I"⟩, 7)]
theorem lw_r2 : ∀ q ∈ lw_privs_2, lw_okq q := List.forall_mem_cons.mpr ⟨lw_p16, List.forall_mem_cons.mpr ⟨lw_p17, List.forall_mem_cons.mpr ⟨lw_p18, List.forall_mem_cons.mpr ⟨lw_p19, List.forall_mem_cons.mpr ⟨lw_p20, List.forall_mem_cons.mpr ⟨lw_p21, List.forall_mem_cons.mpr ⟨lw_p22, List.forall_mem_cons.mpr ⟨lw_p23, List.forall_mem_cons.mpr ⟨lw_p24, List.forall_mem_cons.mpr ⟨lw_p25, List.forall_mem_cons.mpr ⟨lw_p26, List.forall_mem_cons.mpr ⟨lw_p27, List.forall_mem_cons.mpr ⟨lw_p28, List.forall_mem_cons.mpr ⟨lw_p29, List.forall_mem_cons.mpr ⟨lw_p30, List.forall_mem_cons.mpr ⟨lw_p31, fun _ h => absurd h List.not_mem_nil⟩⟩⟩⟩⟩⟩⟩⟩⟩⟩⟩⟩⟩⟩⟩⟩
theorem lw_p32 : lw_okq (⟨"ProofMarksModel", "argues", "(III)I"⟩, 7) := ⟨⟨by decide +kernel, by decide +kernel⟩, List.mem_of_getElem? (i := 479) (by decide +kernel), List.mem_of_getElem? (i := 561) (by decide +kernel), List.mem_of_getElem? (i := 562) (by decide +kernel)⟩
theorem lw_p33 : lw_okq (⟨"ProofMarksModel", "rounds", "()I"⟩, 7) := ⟨⟨by decide +kernel, by decide +kernel⟩, List.mem_of_getElem? (i := 479) (by decide +kernel), List.mem_of_getElem? (i := 569) (by decide +kernel), List.mem_of_getElem? (i := 570) (by decide +kernel)⟩
theorem lw_p34 : lw_okq (⟨"ProofMarksModel", "judges", "(I)V"⟩, 7) := ⟨⟨by decide +kernel, by decide +kernel⟩, List.mem_of_getElem? (i := 479) (by decide +kernel), List.mem_of_getElem? (i := 573) (by decide +kernel), List.mem_of_getElem? (i := 574) (by decide +kernel)⟩
theorem lw_p35 : lw_okq (⟨"ProofMarksModel", "then", "(I)I"⟩, 7) := ⟨⟨by decide +kernel, by decide +kernel⟩, List.mem_of_getElem? (i := 479) (by decide +kernel), List.mem_of_getElem? (i := 577) (by decide +kernel), List.mem_of_getElem? (i := 578) (by decide +kernel)⟩
theorem lw_p36 : lw_okq (⟨"ProofMarksModel", "withMark", "(II)I"⟩, 7) := ⟨⟨by decide +kernel, by decide +kernel⟩, List.mem_of_getElem? (i := 479) (by decide +kernel), List.mem_of_getElem? (i := 581) (by decide +kernel), List.mem_of_getElem? (i := 582) (by decide +kernel)⟩
theorem lw_p37 : lw_okq (⟨"ProofMarksModel", "whyNotPrint", "(II)I"⟩, 7) := ⟨⟨by decide +kernel, by decide +kernel⟩, List.mem_of_getElem? (i := 479) (by decide +kernel), List.mem_of_getElem? (i := 592) (by decide +kernel), List.mem_of_getElem? (i := 593) (by decide +kernel)⟩
theorem lw_p38 : lw_okq (⟨"ProofMarksModel", "prints", "(II)I"⟩, 7) := ⟨⟨by decide +kernel, by decide +kernel⟩, List.mem_of_getElem? (i := 479) (by decide +kernel), List.mem_of_getElem? (i := 599) (by decide +kernel), List.mem_of_getElem? (i := 600) (by decide +kernel)⟩
theorem lw_p39 : lw_okq (⟨"ProofMarksModel", "buys", "(I)I"⟩, 7) := ⟨⟨by decide +kernel, by decide +kernel⟩, List.mem_of_getElem? (i := 479) (by decide +kernel), List.mem_of_getElem? (i := 607) (by decide +kernel), List.mem_of_getElem? (i := 608) (by decide +kernel)⟩
theorem lw_p40 : lw_okq (⟨"ProofMarksModel", "vetoesLeft", "(I)I"⟩, 7) := ⟨⟨by decide +kernel, by decide +kernel⟩, List.mem_of_getElem? (i := 479) (by decide +kernel), List.mem_of_getElem? (i := 630) (by decide +kernel), List.mem_of_getElem? (i := 631) (by decide +kernel)⟩
theorem lw_p41 : lw_okq (⟨"ProofMarksModel", "isTaken", "(I)Z"⟩, 7) := ⟨⟨by decide +kernel, by decide +kernel⟩, List.mem_of_getElem? (i := 479) (by decide +kernel), List.mem_of_getElem? (i := 638) (by decide +kernel), List.mem_of_getElem? (i := 639) (by decide +kernel)⟩
theorem lw_p42 : lw_okq (⟨"ProofMarksModel", "ahead", "(I)I"⟩, 7) := ⟨⟨by decide +kernel, by decide +kernel⟩, List.mem_of_getElem? (i := 479) (by decide +kernel), List.mem_of_getElem? (i := 642) (by decide +kernel), List.mem_of_getElem? (i := 643) (by decide +kernel)⟩
theorem lw_p43 : lw_okq (⟨"ProofMarksModel", "howMany", "(I)I"⟩, 7) := ⟨⟨by decide +kernel, by decide +kernel⟩, List.mem_of_getElem? (i := 479) (by decide +kernel), List.mem_of_getElem? (i := 650) (by decide +kernel), List.mem_of_getElem? (i := 651) (by decide +kernel)⟩
theorem lw_p44 : lw_okq (⟨"ProofMarksModel", "longestRow", "()I"⟩, 7) := ⟨⟨by decide +kernel, by decide +kernel⟩, List.mem_of_getElem? (i := 479) (by decide +kernel), List.mem_of_getElem? (i := 654) (by decide +kernel), List.mem_of_getElem? (i := 655) (by decide +kernel)⟩
theorem lw_p45 : lw_okq (⟨"ProofMarksModel", "reason", "(I)I"⟩, 7) := ⟨⟨by decide +kernel, by decide +kernel⟩, List.mem_of_getElem? (i := 479) (by decide +kernel), List.mem_of_getElem? (i := 662) (by decide +kernel), List.mem_of_getElem? (i := 663) (by decide +kernel)⟩
theorem lw_p46 : lw_okq (⟨"ProofMarksModel", "matters", "(II)Z"⟩, 7) := ⟨⟨by decide +kernel, by decide +kernel⟩, List.mem_of_getElem? (i := 479) (by decide +kernel), List.mem_of_getElem? (i := 674) (by decide +kernel), List.mem_of_getElem? (i := 675) (by decide +kernel)⟩
theorem lw_p47 : lw_okq (⟨"ProofMarksModel", "orderEnd", "(I)I"⟩, 7) := ⟨⟨by decide +kernel, by decide +kernel⟩, List.mem_of_getElem? (i := 479) (by decide +kernel), List.mem_of_getElem? (i := 699) (by decide +kernel), List.mem_of_getElem? (i := 700) (by decide +kernel)⟩
def lw_privs_3 : List (MethodName × Nat) := [(⟨"ProofMarksModel", "argues", "(III)I"⟩, 7), (⟨"ProofMarksModel", "rounds", "()I"⟩, 7), (⟨"ProofMarksModel", "judges", "(I)V"⟩, 7), (⟨"ProofMarksModel", "then", "(I)I"⟩, 7), (⟨"ProofMarksModel", "withMark", "(II)I"⟩, 7), (⟨"ProofMarksModel", "whyNotPrint", "(II)I"⟩, 7), (⟨"ProofMarksModel", "prints", "(II)I"⟩, 7), (⟨"ProofMarksModel", "buys", "(I)I"⟩, 7), (⟨"ProofMarksModel", "vetoesLeft", "(I)I"⟩, 7), (⟨"ProofMarksModel", "isTaken", "(I)Z"⟩, 7), (⟨"ProofMarksModel", "ahead", "(I)I"⟩, 7), (⟨"ProofMarksModel", "howMany", "(I)I"⟩, 7), (⟨"ProofMarksModel", "longestRow", "()I"⟩, 7), (⟨"ProofMarksModel", "reason", "(I)I"⟩, 7), (⟨"ProofMarksModel", "matters", "(II)Z"⟩, 7), (⟨"ProofMarksModel", "orderEnd", "(I)I"⟩, 7)]
theorem lw_r3 : ∀ q ∈ lw_privs_3, lw_okq q := List.forall_mem_cons.mpr ⟨lw_p32, List.forall_mem_cons.mpr ⟨lw_p33, List.forall_mem_cons.mpr ⟨lw_p34, List.forall_mem_cons.mpr ⟨lw_p35, List.forall_mem_cons.mpr ⟨lw_p36, List.forall_mem_cons.mpr ⟨lw_p37, List.forall_mem_cons.mpr ⟨lw_p38, List.forall_mem_cons.mpr ⟨lw_p39, List.forall_mem_cons.mpr ⟨lw_p40, List.forall_mem_cons.mpr ⟨lw_p41, List.forall_mem_cons.mpr ⟨lw_p42, List.forall_mem_cons.mpr ⟨lw_p43, List.forall_mem_cons.mpr ⟨lw_p44, List.forall_mem_cons.mpr ⟨lw_p45, List.forall_mem_cons.mpr ⟨lw_p46, List.forall_mem_cons.mpr ⟨lw_p47, fun _ h => absurd h List.not_mem_nil⟩⟩⟩⟩⟩⟩⟩⟩⟩⟩⟩⟩⟩⟩⟩⟩
theorem lw_p48 : lw_okq (⟨"ProofMarksModel", "sign", "(I)I"⟩, 7) := ⟨⟨by decide +kernel, by decide +kernel⟩, List.mem_of_getElem? (i := 479) (by decide +kernel), List.mem_of_getElem? (i := 703) (by decide +kernel), List.mem_of_getElem? (i := 704) (by decide +kernel)⟩
theorem lw_p49 : lw_okq (⟨"ProofMarksModel", "digitEnd", "(I)I"⟩, 7) := ⟨⟨by decide +kernel, by decide +kernel⟩, List.mem_of_getElem? (i := 479) (by decide +kernel), List.mem_of_getElem? (i := 707) (by decide +kernel), List.mem_of_getElem? (i := 708) (by decide +kernel)⟩
theorem lw_p50 : lw_okq (⟨"ProofMarksModel", "digit", "(I)I"⟩, 7) := ⟨⟨by decide +kernel, by decide +kernel⟩, List.mem_of_getElem? (i := 479) (by decide +kernel), List.mem_of_getElem? (i := 711) (by decide +kernel), List.mem_of_getElem? (i := 712) (by decide +kernel)⟩
theorem lw_p51 : lw_okq (⟨"ProofMarksModel", "behind", "(II)I"⟩, 7) := ⟨⟨by decide +kernel, by decide +kernel⟩, List.mem_of_getElem? (i := 479) (by decide +kernel), List.mem_of_getElem? (i := 715) (by decide +kernel), List.mem_of_getElem? (i := 716) (by decide +kernel)⟩
theorem lw_p52 : lw_okq (⟨"ProofMarksModel", "numberEnd", "(I)I"⟩, 7) := ⟨⟨by decide +kernel, by decide +kernel⟩, List.mem_of_getElem? (i := 479) (by decide +kernel), List.mem_of_getElem? (i := 719) (by decide +kernel), List.mem_of_getElem? (i := 720) (by decide +kernel)⟩
theorem lw_p53 : lw_okq (⟨"ProofMarksModel", "whyNot", "(I)I"⟩, 7) := ⟨⟨by decide +kernel, by decide +kernel⟩, List.mem_of_getElem? (i := 479) (by decide +kernel), List.mem_of_getElem? (i := 728) (by decide +kernel), List.mem_of_getElem? (i := 729) (by decide +kernel)⟩
theorem lw_p54 : lw_okq (⟨"ProofMarksModel", "numberAt", "(I)I"⟩, 7) := ⟨⟨by decide +kernel, by decide +kernel⟩, List.mem_of_getElem? (i := 479) (by decide +kernel), List.mem_of_getElem? (i := 732) (by decide +kernel), List.mem_of_getElem? (i := 733) (by decide +kernel)⟩
theorem lw_p55 : lw_okq (⟨"ProofMarksModel", "markIn", "(I)I"⟩, 7) := ⟨⟨by decide +kernel, by decide +kernel⟩, List.mem_of_getElem? (i := 479) (by decide +kernel), List.mem_of_getElem? (i := 736) (by decide +kernel), List.mem_of_getElem? (i := 737) (by decide +kernel)⟩
theorem lw_p56 : lw_okq (⟨"ProofMarksModel", "does", "(I)I"⟩, 7) := ⟨⟨by decide +kernel, by decide +kernel⟩, List.mem_of_getElem? (i := 479) (by decide +kernel), List.mem_of_getElem? (i := 740) (by decide +kernel), List.mem_of_getElem? (i := 741) (by decide +kernel)⟩
def lw_privs_4 : List (MethodName × Nat) := [(⟨"ProofMarksModel", "sign", "(I)I"⟩, 7), (⟨"ProofMarksModel", "digitEnd", "(I)I"⟩, 7), (⟨"ProofMarksModel", "digit", "(I)I"⟩, 7), (⟨"ProofMarksModel", "behind", "(II)I"⟩, 7), (⟨"ProofMarksModel", "numberEnd", "(I)I"⟩, 7), (⟨"ProofMarksModel", "whyNot", "(I)I"⟩, 7), (⟨"ProofMarksModel", "numberAt", "(I)I"⟩, 7), (⟨"ProofMarksModel", "markIn", "(I)I"⟩, 7), (⟨"ProofMarksModel", "does", "(I)I"⟩, 7)]
theorem lw_r4 : ∀ q ∈ lw_privs_4, lw_okq q := List.forall_mem_cons.mpr ⟨lw_p48, List.forall_mem_cons.mpr ⟨lw_p49, List.forall_mem_cons.mpr ⟨lw_p50, List.forall_mem_cons.mpr ⟨lw_p51, List.forall_mem_cons.mpr ⟨lw_p52, List.forall_mem_cons.mpr ⟨lw_p53, List.forall_mem_cons.mpr ⟨lw_p54, List.forall_mem_cons.mpr ⟨lw_p55, List.forall_mem_cons.mpr ⟨lw_p56, fun _ h => absurd h List.not_mem_nil⟩⟩⟩⟩⟩⟩⟩⟩⟩
def lw_privs : List (MethodName × Nat) := lw_privs_1 ++ (lw_privs_2 ++ (lw_privs_3 ++ (lw_privs_4)))
def lw_tbl : List Cond := k2_sels lw_privs ++ tables_1
theorem lw_privs_ok : ∀ q ∈ lw_privs, lw_okq q := by
  show ∀ q ∈ lw_privs_1 ++ (lw_privs_2 ++ (lw_privs_3 ++ (lw_privs_4))), lw_okq q
  exact List.forall_mem_append.mpr ⟨lw_r1, List.forall_mem_append.mpr ⟨lw_r2, List.forall_mem_append.mpr ⟨lw_r3, lw_r4⟩⟩⟩
/-! ===== BEGIN words of one list among another's, by their places ===== -/
theorem goodIn_r {big : List Cond} (ws : List Cond) (ps : List Nat) (hp : ws = ps.filterMap (fun i => big[i]?)) (h : ws.all goodWord = true) : GoodIn big ws := by
  intro w hw
  have h1 := List.all_eq_true.mp h w hw
  rw [hp] at hw
  obtain ⟨i, -, hi⟩ := List.mem_filterMap.mp hw
  have hm : w ∈ big := by first | exact List.mem_of_getElem? hi | exact List.getElem?_mem hi
  exact ⟨hm, good_of_word h1⟩
theorem goodIn_app {big a b : List Cond} (ha : GoodIn big a) (hb : GoodIn big b) : GoodIn big (a ++ b) := fun w h => (List.mem_append.mp h).elim (ha w) (hb w)
theorem goodIn_ca {big a b : List Cond} {c : Cond} (ha : GoodIn big (c :: a)) (hb : GoodIn big b) : GoodIn big (c :: (a ++ b)) := fun w h => (List.mem_cons.mp h).elim (fun e => ha w (List.mem_cons.mpr (Or.inl e))) (fun h => (List.mem_append.mp h).elim (fun h => ha w (List.mem_cons.mpr (Or.inr h))) (hb w))
theorem goodIn_sub {big ws : List Cond} (hm : ∀ w ∈ ws, w ∈ big) (h : ws.all goodWord = true) : GoodIn big ws := fun w hw => ⟨hm w hw, good_of_word (List.all_eq_true.mp h w hw)⟩
/-! ===== END ===== -/

/-! ===== BEGIN printed: names, fields, word lists, decode rows ===== -/
def RX0 : String := "ProofMarks$History"
def TX0 : u_T := fun k => match k with
  | 0 => ("ProofMarks$History", "states", "[LProofMarks$Sheet;", true)
  | _ => ("ProofMarks$History", "kept", "I", false)
def tyX0 : Nat → FieldType := fun k => match k with
  | 0 => .array (.object "ProofMarks$Sheet")
  | _ => .int
abbrev wsX00 : List Cond := u_ws RX0 TX0 2
theorem nmX0 : ∀ a, a < 2 → ∀ b, b < 2 → a ≠ b → (TX0 a).2.1 ≠ (TX0 b).2.1 := by decide +kernel
theorem tyX0_ok : ∀ k, k < 2 → parseFieldDescriptor (TX0 k).2.2.1 = some (tyX0 k) := by decide +kernel
abbrev cX0_init : ByteArray := prog_2_method_1_code
def yX0_init : MethodName := ⟨RX0, "<init>", "()V"⟩
abbrev cX0_note : ByteArray := prog_2_method_2_code
def yX0_note : MethodName := ⟨RX0, "note", "(LProofMarks$Sheet;)V"⟩
abbrev cX0_keep : ByteArray := prog_2_method_3_code
def yX0_keep : MethodName := ⟨RX0, "keep", "()V"⟩
abbrev cX0_bringBack : ByteArray := prog_2_method_4_code
def yX0_bringBack : MethodName := ⟨RX0, "bringBack", "(LProofMarks$Sheet;)V"⟩
def RX1 : String := "ProofMarks$Pad"
def TX1 : u_T := fun k => match k with
  | 0 => ("ProofMarks$Pad", "signs", "[C", true)
  | 1 => ("ProofMarks$Pad", "length", "I", false)
  | 2 => ("ProofMarks$Pad", "at", "I", false)
  | 3 => ("ProofMarks$Pad", "order", "C", false)
  | 4 => ("ProofMarks$Pad", "editor", "I", false)
  | 5 => ("ProofMarks$Pad", "other", "I", false)
  | 6 => ("ProofMarks$Pad", "number", "I", false)
  | _ => ("ProofMarks$Pad", "size", "I", false)
def tyX1 : Nat → FieldType := fun k => match k with
  | 0 => .array .char
  | 1 => .int
  | 2 => .int
  | 3 => .char
  | 4 => .int
  | 5 => .int
  | 6 => .int
  | _ => .int
abbrev wsX10 : List Cond := u_ws RX1 TX1 8
theorem nmX1 : ∀ a, a < 8 → ∀ b, b < 8 → a ≠ b → (TX1 a).2.1 ≠ (TX1 b).2.1 := by decide +kernel
theorem tyX1_ok : ∀ k, k < 8 → parseFieldDescriptor (TX1 k).2.2.1 = some (tyX1 k) := by decide +kernel
abbrev cX1_init : ByteArray := prog_3_method_1_code
def yX1_init : MethodName := ⟨RX1, "<init>", "()V"⟩
abbrev cX1_append : ByteArray := prog_3_method_2_code
def yX1_append : MethodName := ⟨RX1, "append", "(J)I"⟩
abbrev cX1_empty : ByteArray := prog_3_method_3_code
def yX1_empty : MethodName := ⟨RX1, "empty", "()I"⟩
abbrev cX1_charactersIn : ByteArray := prog_3_method_4_code
def yX1_charactersIn : MethodName := ⟨RX1, "charactersIn", "(J)I"⟩
abbrev cX1_faultAt : ByteArray := prog_3_method_5_code
def yX1_faultAt : MethodName := ⟨RX1, "faultAt", "()I"⟩
abbrev cX1_rewind : ByteArray := prog_3_method_6_code
def yX1_rewind : MethodName := ⟨RX1, "rewind", "()V"⟩
abbrev cX1_nextOrder : ByteArray := prog_3_method_7_code
def yX1_nextOrder : MethodName := ⟨RX1, "nextOrder", "()Z"⟩
abbrev cX1_takeOrder : ByteArray := prog_3_method_8_code
def yX1_takeOrder : MethodName := ⟨RX1, "takeOrder", "()Z"⟩
abbrev cX1_takeEditor : ByteArray := prog_3_method_9_code
def yX1_takeEditor : MethodName := ⟨RX1, "takeEditor", "()Z"⟩
abbrev cX1_takeOther : ByteArray := prog_3_method_10_code
def yX1_takeOther : MethodName := ⟨RX1, "takeOther", "()Z"⟩
abbrev cX1_takeSize : ByteArray := prog_3_method_11_code
def yX1_takeSize : MethodName := ⟨RX1, "takeSize", "()Z"⟩
abbrev cX1_takeNumber : ByteArray := prog_3_method_12_code
def yX1_takeNumber : MethodName := ⟨RX1, "takeNumber", "()Z"⟩
abbrev cX1_take : ByteArray := prog_3_method_13_code
def yX1_take : MethodName := ⟨RX1, "take", "(C)Z"⟩
abbrev cX1_pass : ByteArray := prog_3_method_14_code
def yX1_pass : MethodName := ⟨RX1, "pass", "(I)Z"⟩
abbrev cX1_digitHere : ByteArray := prog_3_method_15_code
def yX1_digitHere : MethodName := ⟨RX1, "digitHere", "()I"⟩
abbrev cX1_here : ByteArray := prog_3_method_16_code
def yX1_here : MethodName := ⟨RX1, "here", "()C"⟩
def RX2 : String := "ProofMarks$Sheet"
def TX2 : u_T := fun k => match k with
  | 0 => ("ProofMarks$Sheet", "settings", "[I", true)
  | 1 => ("ProofMarks$Sheet", "how", "[I", true)
  | 2 => ("ProofMarks$Sheet", "ticks", "[I", true)
  | 3 => ("ProofMarks$Sheet", "crosses", "[I", true)
  | 4 => ("ProofMarks$Sheet", "dull", "[I", true)
  | 5 => ("ProofMarks$Sheet", "sizes", "[I", true)
  | 6 => ("ProofMarks$Sheet", "chosenIn", "[I", true)
  | 7 => ("ProofMarks$Sheet", "points", "[I", true)
  | 8 => ("ProofMarks$Sheet", "arguments", "[I", true)
  | 9 => ("ProofMarks$Sheet", "lifted", "[I", true)
  | 10 => ("ProofMarks$Sheet", "favourites", "[I", true)
  | 11 => ("ProofMarks$Sheet", "prints", "[I", true)
  | 12 => ("ProofMarks$Sheet", "rounds", "I", false)
  | 13 => ("ProofMarks$Sheet", "paper", "I", false)
  | _ => ("ProofMarks$Sheet", "paperTaken", "I", false)
def tyX2 : Nat → FieldType := fun k => match k with
  | 0 => .array .int
  | 1 => .array .int
  | 2 => .array .int
  | 3 => .array .int
  | 4 => .array .int
  | 5 => .array .int
  | 6 => .array .int
  | 7 => .array .int
  | 8 => .array .int
  | 9 => .array .int
  | 10 => .array .int
  | 11 => .array .int
  | 12 => .int
  | 13 => .int
  | _ => .int
abbrev wsX20 : List Cond := u_ws RX2 TX2 15
theorem nmX2 : ∀ a, a < 15 → ∀ b, b < 15 → a ≠ b → (TX2 a).2.1 ≠ (TX2 b).2.1 := by decide +kernel
theorem tyX2_ok : ∀ k, k < 15 → parseFieldDescriptor (TX2 k).2.2.1 = some (tyX2 k) := by decide +kernel
abbrev cX2_init : ByteArray := prog_4_method_1_code
def yX2_init : MethodName := ⟨RX2, "<init>", "()V"⟩
abbrev cX2_takeOver : ByteArray := prog_4_method_2_code
def yX2_takeOver : MethodName := ⟨RX2, "takeOver", "(LProofMarks$Sheet;)V"⟩
abbrev cX2_changeSetting : ByteArray := prog_4_method_3_code
def yX2_changeSetting : MethodName := ⟨RX2, "changeSetting", "(II)I"⟩
abbrev cX2_putMark : ByteArray := prog_4_method_4_code
def yX2_putMark : MethodName := ⟨RX2, "putMark", "(III)I"⟩
abbrev cX2_argueAgainst : ByteArray := prog_4_method_5_code
def yX2_argueAgainst : MethodName := ⟨RX2, "argueAgainst", "(III)I"⟩
abbrev cX2_endRound : ByteArray := prog_4_method_6_code
def yX2_endRound : MethodName := ⟨RX2, "endRound", "()I"⟩
abbrev cX2_printFrame : ByteArray := prog_4_method_7_code
def yX2_printFrame : MethodName := ⟨RX2, "printFrame", "(II)I"⟩
abbrev cX2_addPaper : ByteArray := prog_4_method_8_code
def yX2_addPaper : MethodName := ⟨RX2, "addPaper", "(I)I"⟩
abbrev cX2_openAgain : ByteArray := prog_4_method_9_code
def yX2_openAgain : MethodName := ⟨RX2, "openAgain", "(I)I"⟩
abbrev cX2_aboutFrame : ByteArray := prog_4_method_10_code
def yX2_aboutFrame : MethodName := ⟨RX2, "aboutFrame", "(II)I"⟩
abbrev cX2_aboutEditor : ByteArray := prog_4_method_11_code
def yX2_aboutEditor : MethodName := ⟨RX2, "aboutEditor", "(II)I"⟩
abbrev cX2_chosenAt : ByteArray := prog_4_method_12_code
def yX2_chosenAt : MethodName := ⟨RX2, "chosenAt", "(I)I"⟩
abbrev cX2_numberOf : ByteArray := prog_4_method_13_code
def yX2_numberOf : MethodName := ⟨RX2, "numberOf", "(I)I"⟩
abbrev cX2_whyNotChosen : ByteArray := prog_4_method_14_code
def yX2_whyNotChosen : MethodName := ⟨RX2, "whyNotChosen", "(I)I"⟩
abbrev cX2_roundWouldBring : ByteArray := prog_4_method_15_code
def yX2_roundWouldBring : MethodName := ⟨RX2, "roundWouldBring", "(I)I"⟩
abbrev cX2_deciders : ByteArray := prog_4_method_16_code
def yX2_deciders : MethodName := ⟨RX2, "deciders", "(I)I"⟩
abbrev cX2_agreement : ByteArray := prog_4_method_17_code
def yX2_agreement : MethodName := ⟨RX2, "agreement", "(II)I"⟩
abbrev cX2_paperForChosen : ByteArray := prog_4_method_18_code
def yX2_paperForChosen : MethodName := ⟨RX2, "paperForChosen", "()I"⟩
abbrev cX2_settle : ByteArray := prog_4_method_19_code
def yX2_settle : MethodName := ⟨RX2, "settle", "(I)I"⟩
abbrev cX2_noteChoice : ByteArray := prog_4_method_20_code
def yX2_noteChoice : MethodName := ⟨RX2, "noteChoice", "(I)V"⟩
abbrev cX2_afterRound : ByteArray := prog_4_method_21_code
def yX2_afterRound : MethodName := ⟨RX2, "afterRound", "(I)I"⟩
abbrev cX2_dullAfterRound : ByteArray := prog_4_method_22_code
def yX2_dullAfterRound : MethodName := ⟨RX2, "dullAfterRound", "(I)I"⟩
abbrev cX2_isWanted : ByteArray := prog_4_method_23_code
def yX2_isWanted : MethodName := ⟨RX2, "isWanted", "(II)Z"⟩
abbrev cX2_markDecides : ByteArray := prog_4_method_24_code
def yX2_markDecides : MethodName := ⟨RX2, "markDecides", "(II)Z"⟩
abbrev cX2_framesThatAre : ByteArray := prog_4_method_25_code
def yX2_framesThatAre : MethodName := ⟨RX2, "framesThatAre", "(I)I"⟩
abbrev cX2_framesThatBecome : ByteArray := prog_4_method_26_code
def yX2_framesThatBecome : MethodName := ⟨RX2, "framesThatBecome", "(I)I"⟩
abbrev cX2_longestRow : ByteArray := prog_4_method_27_code
def yX2_longestRow : MethodName := ⟨RX2, "longestRow", "()I"⟩
abbrev cX2_marksOf : ByteArray := prog_4_method_28_code
def yX2_marksOf : MethodName := ⟨RX2, "marksOf", "(II)I"⟩
abbrev cX2_vetoesLeft : ByteArray := prog_4_method_29_code
def yX2_vetoesLeft : MethodName := ⟨RX2, "vetoesLeft", "(I)I"⟩
abbrev cX2_markOf : ByteArray := prog_4_method_30_code
def yX2_markOf : MethodName := ⟨RX2, "markOf", "(II)I"⟩
abbrev cX2_isPicked : ByteArray := prog_4_method_31_code
def yX2_isPicked : MethodName := ⟨RX2, "isPicked", "(I)Z"⟩
abbrev cX2_withEditor : ByteArray := prog_4_method_32_code
def yX2_withEditor : MethodName := ⟨RX2, "withEditor", "(IIZ)I"⟩
abbrev cX2_paperOf : ByteArray := prog_4_method_33_code
def yX2_paperOf : MethodName := ⟨RX2, "paperOf", "(I)I"⟩
abbrev cX2_isFrame : ByteArray := prog_4_method_34_code
def yX2_isFrame : MethodName := ⟨RX2, "isFrame", "(I)Z"⟩
abbrev cX2_isEditor : ByteArray := prog_4_method_35_code
def yX2_isEditor : MethodName := ⟨RX2, "isEditor", "(I)Z"⟩
def RX3 : String := "ProofMarks"
def TX3 : u_T := fun k => match k with
  | 0 => ("ProofMarks", "sheet", "LProofMarks$Sheet;", true)
  | 1 => ("ProofMarks", "history", "LProofMarks$History;", true)
  | 2 => ("ProofMarks", "pad", "LProofMarks$Pad;", true)
  | 3 => ("ProofMarks", "slots", "[LProofMarks$Sheet;", true)
  | _ => ("ProofMarks", "saved", "[Z", true)
def tyX3 : Nat → FieldType := fun k => match k with
  | 0 => .object "ProofMarks$Sheet"
  | 1 => .object "ProofMarks$History"
  | 2 => .object "ProofMarks$Pad"
  | 3 => .array (.object "ProofMarks$Sheet")
  | _ => .array .boolean
abbrev wsX30 : List Cond := u_ws RX3 TX3 5
theorem nmX3 : ∀ a, a < 5 → ∀ b, b < 5 → a ≠ b → (TX3 a).2.1 ≠ (TX3 b).2.1 := by decide +kernel
theorem tyX3_ok : ∀ k, k < 5 → parseFieldDescriptor (TX3 k).2.2.1 = some (tyX3 k) := by decide +kernel
abbrev cX3_init : ByteArray := prog_1_method_1_code
def yX3_init : MethodName := ⟨RX3, "<init>", "()V"⟩
abbrev cX3_set : ByteArray := prog_1_method_2_code
def yX3_set : MethodName := ⟨RX3, "set", "(II)I"⟩
abbrev cX3_mark : ByteArray := prog_1_method_3_code
def yX3_mark : MethodName := ⟨RX3, "mark", "(III)I"⟩
abbrev cX3_argue : ByteArray := prog_1_method_4_code
def yX3_argue : MethodName := ⟨RX3, "argue", "(III)I"⟩
abbrev cX3_round : ByteArray := prog_1_method_5_code
def yX3_round : MethodName := ⟨RX3, "round", "()I"⟩
abbrev cX3_print : ByteArray := prog_1_method_6_code
def yX3_print : MethodName := ⟨RX3, "print", "(II)I"⟩
abbrev cX3_buy : ByteArray := prog_1_method_7_code
def yX3_buy : MethodName := ⟨RX3, "buy", "(I)I"⟩
abbrev cX3_reopen : ByteArray := prog_1_method_8_code
def yX3_reopen : MethodName := ⟨RX3, "reopen", "(I)I"⟩
abbrev cX3_of : ByteArray := prog_1_method_9_code
def yX3_of : MethodName := ⟨RX3, "of", "(II)I"⟩
abbrev cX3_editor : ByteArray := prog_1_method_10_code
def yX3_editor : MethodName := ⟨RX3, "editor", "(II)I"⟩
abbrev cX3_chosen : ByteArray := prog_1_method_11_code
def yX3_chosen : MethodName := ⟨RX3, "chosen", "(I)I"⟩
abbrev cX3_count : ByteArray := prog_1_method_12_code
def yX3_count : MethodName := ⟨RX3, "count", "(I)I"⟩
abbrev cX3_why : ByteArray := prog_1_method_13_code
def yX3_why : MethodName := ⟨RX3, "why", "(I)I"⟩
abbrev cX3_ifRound : ByteArray := prog_1_method_14_code
def yX3_ifRound : MethodName := ⟨RX3, "ifRound", "(I)I"⟩
abbrev cX3_decides : ByteArray := prog_1_method_15_code
def yX3_decides : MethodName := ⟨RX3, "decides", "(I)I"⟩
abbrev cX3_agree : ByteArray := prog_1_method_16_code
def yX3_agree : MethodName := ⟨RX3, "agree", "(II)I"⟩
abbrev cX3_paperFor : ByteArray := prog_1_method_17_code
def yX3_paperFor : MethodName := ⟨RX3, "paperFor", "()I"⟩
abbrev cX3_put : ByteArray := prog_1_method_18_code
def yX3_put : MethodName := ⟨RX3, "put", "(J)I"⟩
abbrev cX3_wipe : ByteArray := prog_1_method_19_code
def yX3_wipe : MethodName := ⟨RX3, "wipe", "()I"⟩
abbrev cX3_fault : ByteArray := prog_1_method_20_code
def yX3_fault : MethodName := ⟨RX3, "fault", "()I"⟩
abbrev cX3_carryOut : ByteArray := prog_1_method_21_code
def yX3_carryOut : MethodName := ⟨RX3, "carryOut", "()I"⟩
abbrev cX3_undo : ByteArray := prog_1_method_22_code
def yX3_undo : MethodName := ⟨RX3, "undo", "()I"⟩
abbrev cX3_save : ByteArray := prog_1_method_23_code
def yX3_save : MethodName := ⟨RX3, "save", "(I)I"⟩
abbrev cX3_restore : ByteArray := prog_1_method_24_code
def yX3_restore : MethodName := ⟨RX3, "restore", "(I)I"⟩
abbrev cX3_recorded : ByteArray := prog_1_method_25_code
def yX3_recorded : MethodName := ⟨RX3, "recorded", "(I)I"⟩
abbrev cX3_carryOrders : ByteArray := prog_1_method_26_code
def yX3_carryOrders : MethodName := ⟨RX3, "carryOrders", "()I"⟩
abbrev cX3_obey : ByteArray := prog_1_method_27_code
def yX3_obey : MethodName := ⟨RX3, "obey", "()I"⟩
abbrev cX3_isSlot : ByteArray := prog_1_method_28_code
def yX3_isSlot : MethodName := ⟨RX3, "isSlot", "(I)Z"⟩
def RX4 : String := "ProofMarksModel"
def TX4 : u_T := fun k => match k with
  | 0 => ("ProofMarksModel", "s", "[I", true)
  | 1 => ("ProofMarksModel", "past", "[I", true)
  | 2 => ("ProofMarksModel", "known", "I", false)
  | 3 => ("ProofMarksModel", "slots", "[I", true)
  | 4 => ("ProofMarksModel", "isSaved", "[Z", true)
  | 5 => ("ProofMarksModel", "pad", "[I", true)
  | _ => ("ProofMarksModel", "length", "I", false)
def tyX4 : Nat → FieldType := fun k => match k with
  | 0 => .array .int
  | 1 => .array .int
  | 2 => .int
  | 3 => .array .int
  | 4 => .array .boolean
  | 5 => .array .int
  | _ => .int
abbrev wsX40 : List Cond := u_ws RX4 TX4 7
theorem nmX4 : ∀ a, a < 7 → ∀ b, b < 7 → a ≠ b → (TX4 a).2.1 ≠ (TX4 b).2.1 := by decide +kernel
theorem tyX4_ok : ∀ k, k < 7 → parseFieldDescriptor (TX4 k).2.2.1 = some (tyX4 k) := by decide +kernel
abbrev cX4_init : ByteArray := prog_6_method_1_code
def yX4_init : MethodName := ⟨RX4, "<init>", "()V"⟩
abbrev cX4_in : ByteArray := prog_6_method_3_code
def yX4_in : MethodName := ⟨RX4, "in", "(III)Z"⟩
abbrev cX4_isFrame : ByteArray := prog_6_method_4_code
def yX4_isFrame : MethodName := ⟨RX4, "isFrame", "(I)Z"⟩
abbrev cX4_isEditor : ByteArray := prog_6_method_5_code
def yX4_isEditor : MethodName := ⟨RX4, "isEditor", "(I)Z"⟩
abbrev cX4_at : ByteArray := prog_6_method_6_code
def yX4_at : MethodName := ⟨RX4, "at", "(II)I"⟩
abbrev cX4_of3 : ByteArray := prog_6_method_7_code
def yX4_of3 : MethodName := ⟨RX4, "of3", "(II)I"⟩
abbrev cX4_remembers : ByteArray := prog_6_method_8_code
def yX4_remembers : MethodName := ⟨RX4, "remembers", "()V"⟩
abbrev cX4_power : ByteArray := prog_6_method_9_code
def yX4_power : MethodName := ⟨RX4, "power", "(I)I"⟩
abbrev cX4_markOf : ByteArray := prog_6_method_10_code
def yX4_markOf : MethodName := ⟨RX4, "markOf", "(II)I"⟩
abbrev cX4_marks : ByteArray := prog_6_method_11_code
def yX4_marks : MethodName := ⟨RX4, "marks", "(III)V"⟩
abbrev cX4_withMark : ByteArray := prog_6_method_12_code
def yX4_withMark : MethodName := ⟨RX4, "withMark", "(II)I"⟩
abbrev cX4_ones : ByteArray := prog_6_method_13_code
def yX4_ones : MethodName := ⟨RX4, "ones", "(I)I"⟩
abbrev cX4_marked : ByteArray := prog_6_method_14_code
def yX4_marked : MethodName := ⟨RX4, "marked", "(II)I"⟩
abbrev cX4_isOpen : ByteArray := prog_6_method_15_code
def yX4_isOpen : MethodName := ⟨RX4, "isOpen", "(I)Z"⟩
abbrev cX4_whyNotMark : ByteArray := prog_6_method_16_code
def yX4_whyNotMark : MethodName := ⟨RX4, "whyNotMark", "(III)I"⟩
abbrev cX4_mark : ByteArray := prog_6_method_17_code
def yX4_mark : MethodName := ⟨RX4, "mark", "(III)I"⟩
abbrev cX4_whyNotArgue : ByteArray := prog_6_method_18_code
def yX4_whyNotArgue : MethodName := ⟨RX4, "whyNotArgue", "(III)I"⟩
abbrev cX4_argues : ByteArray := prog_6_method_19_code
def yX4_argues : MethodName := ⟨RX4, "argues", "(III)I"⟩
abbrev cX4_argue : ByteArray := prog_6_method_20_code
def yX4_argue : MethodName := ⟨RX4, "argue", "(III)I"⟩
abbrev cX4_then : ByteArray := prog_6_method_21_code
def yX4_then : MethodName := ⟨RX4, "then", "(I)I"⟩
abbrev cX4_judges : ByteArray := prog_6_method_22_code
def yX4_judges : MethodName := ⟨RX4, "judges", "(I)V"⟩
abbrev cX4_rounds : ByteArray := prog_6_method_23_code
def yX4_rounds : MethodName := ⟨RX4, "rounds", "()I"⟩
abbrev cX4_round : ByteArray := prog_6_method_24_code
def yX4_round : MethodName := ⟨RX4, "round", "()I"⟩
abbrev cX4_paperOf : ByteArray := prog_6_method_25_code
def yX4_paperOf : MethodName := ⟨RX4, "paperOf", "(I)I"⟩
abbrev cX4_whyNotPrint : ByteArray := prog_6_method_26_code
def yX4_whyNotPrint : MethodName := ⟨RX4, "whyNotPrint", "(II)I"⟩
abbrev cX4_prints : ByteArray := prog_6_method_27_code
def yX4_prints : MethodName := ⟨RX4, "prints", "(II)I"⟩
abbrev cX4_print : ByteArray := prog_6_method_28_code
def yX4_print : MethodName := ⟨RX4, "print", "(II)I"⟩
abbrev cX4_buys : ByteArray := prog_6_method_29_code
def yX4_buys : MethodName := ⟨RX4, "buys", "(I)I"⟩
abbrev cX4_buy : ByteArray := prog_6_method_30_code
def yX4_buy : MethodName := ⟨RX4, "buy", "(I)I"⟩
abbrev cX4_reopen : ByteArray := prog_6_method_31_code
def yX4_reopen : MethodName := ⟨RX4, "reopen", "(I)I"⟩
abbrev cX4_canSet : ByteArray := prog_6_method_32_code
def yX4_canSet : MethodName := ⟨RX4, "canSet", "(II)Z"⟩
abbrev cX4_set : ByteArray := prog_6_method_33_code
def yX4_set : MethodName := ⟨RX4, "set", "(II)I"⟩
abbrev cX4_of : ByteArray := prog_6_method_34_code
def yX4_of : MethodName := ⟨RX4, "of", "(II)I"⟩
abbrev cX4_vetoesLeft : ByteArray := prog_6_method_35_code
def yX4_vetoesLeft : MethodName := ⟨RX4, "vetoesLeft", "(I)I"⟩
abbrev cX4_editor : ByteArray := prog_6_method_36_code
def yX4_editor : MethodName := ⟨RX4, "editor", "(II)I"⟩
abbrev cX4_isTaken : ByteArray := prog_6_method_37_code
def yX4_isTaken : MethodName := ⟨RX4, "isTaken", "(I)Z"⟩
abbrev cX4_ahead : ByteArray := prog_6_method_38_code
def yX4_ahead : MethodName := ⟨RX4, "ahead", "(I)I"⟩
abbrev cX4_chosen : ByteArray := prog_6_method_39_code
def yX4_chosen : MethodName := ⟨RX4, "chosen", "(I)I"⟩
abbrev cX4_howMany : ByteArray := prog_6_method_40_code
def yX4_howMany : MethodName := ⟨RX4, "howMany", "(I)I"⟩
abbrev cX4_longestRow : ByteArray := prog_6_method_41_code
def yX4_longestRow : MethodName := ⟨RX4, "longestRow", "()I"⟩
abbrev cX4_count : ByteArray := prog_6_method_42_code
def yX4_count : MethodName := ⟨RX4, "count", "(I)I"⟩
abbrev cX4_reason : ByteArray := prog_6_method_43_code
def yX4_reason : MethodName := ⟨RX4, "reason", "(I)I"⟩
abbrev cX4_why : ByteArray := prog_6_method_44_code
def yX4_why : MethodName := ⟨RX4, "why", "(I)I"⟩
abbrev cX4_ifRound : ByteArray := prog_6_method_45_code
def yX4_ifRound : MethodName := ⟨RX4, "ifRound", "(I)I"⟩
abbrev cX4_matters : ByteArray := prog_6_method_46_code
def yX4_matters : MethodName := ⟨RX4, "matters", "(II)Z"⟩
abbrev cX4_decides : ByteArray := prog_6_method_47_code
def yX4_decides : MethodName := ⟨RX4, "decides", "(I)I"⟩
abbrev cX4_agree : ByteArray := prog_6_method_48_code
def yX4_agree : MethodName := ⟨RX4, "agree", "(II)I"⟩
abbrev cX4_paperFor : ByteArray := prog_6_method_49_code
def yX4_paperFor : MethodName := ⟨RX4, "paperFor", "()I"⟩
abbrev cX4_put : ByteArray := prog_6_method_50_code
def yX4_put : MethodName := ⟨RX4, "put", "(J)I"⟩
abbrev cX4_wipe : ByteArray := prog_6_method_51_code
def yX4_wipe : MethodName := ⟨RX4, "wipe", "()I"⟩
abbrev cX4_sign : ByteArray := prog_6_method_52_code
def yX4_sign : MethodName := ⟨RX4, "sign", "(I)I"⟩
abbrev cX4_digit : ByteArray := prog_6_method_53_code
def yX4_digit : MethodName := ⟨RX4, "digit", "(I)I"⟩
abbrev cX4_numberEnd : ByteArray := prog_6_method_54_code
def yX4_numberEnd : MethodName := ⟨RX4, "numberEnd", "(I)I"⟩
abbrev cX4_numberAt : ByteArray := prog_6_method_55_code
def yX4_numberAt : MethodName := ⟨RX4, "numberAt", "(I)I"⟩
abbrev cX4_digitEnd : ByteArray := prog_6_method_56_code
def yX4_digitEnd : MethodName := ⟨RX4, "digitEnd", "(I)I"⟩
abbrev cX4_behind : ByteArray := prog_6_method_57_code
def yX4_behind : MethodName := ⟨RX4, "behind", "(II)I"⟩
abbrev cX4_orderEnd : ByteArray := prog_6_method_58_code
def yX4_orderEnd : MethodName := ⟨RX4, "orderEnd", "(I)I"⟩
abbrev cX4_fault : ByteArray := prog_6_method_59_code
def yX4_fault : MethodName := ⟨RX4, "fault", "()I"⟩
abbrev cX4_markIn : ByteArray := prog_6_method_60_code
def yX4_markIn : MethodName := ⟨RX4, "markIn", "(I)I"⟩
abbrev cX4_whyNot : ByteArray := prog_6_method_61_code
def yX4_whyNot : MethodName := ⟨RX4, "whyNot", "(I)I"⟩
abbrev cX4_does : ByteArray := prog_6_method_62_code
def yX4_does : MethodName := ⟨RX4, "does", "(I)I"⟩
abbrev cX4_carryOut : ByteArray := prog_6_method_63_code
def yX4_carryOut : MethodName := ⟨RX4, "carryOut", "()I"⟩
abbrev cX4_undo : ByteArray := prog_6_method_64_code
def yX4_undo : MethodName := ⟨RX4, "undo", "()I"⟩
abbrev cX4_save : ByteArray := prog_6_method_65_code
def yX4_save : MethodName := ⟨RX4, "save", "(I)I"⟩
abbrev cX4_restore : ByteArray := prog_6_method_66_code
def yX4_restore : MethodName := ⟨RX4, "restore", "(I)I"⟩
def RJ6 : String := "java/lang/Integer"
def TJ6 : u_T := fun k => match k with
  | _ => ("", "", "", false)
def tyJ6 : Nat → FieldType := fun k => match k with
  | _ => .int
abbrev wsJ60 : List Cond := u_ws RJ6 TJ6 0
theorem nmJ6 : ∀ a, a < 0 → ∀ b, b < 0 → a ≠ b → (TJ6 a).2.1 ≠ (TJ6 b).2.1 := by decide +kernel
theorem tyJ6_ok : ∀ k, k < 0 → parseFieldDescriptor (TJ6 k).2.2.1 = some (tyJ6 k) := by decide +kernel
abbrev cJ6_bitCount_0f7a4 : ByteArray := prog_7_method_49_code
def yJ6_bitCount_0f7a4 : MethodName := ⟨RJ6, "bitCount", "(I)I"⟩
def RJ9 : String := "java/lang/Math"
def TJ9 : u_T := fun k => match k with
  | _ => ("", "", "", false)
def tyJ9 : Nat → FieldType := fun k => match k with
  | _ => .int
abbrev wsJ90 : List Cond := u_ws RJ9 TJ9 0
theorem nmJ9 : ∀ a, a < 0 → ∀ b, b < 0 → a ≠ b → (TJ9 a).2.1 ≠ (TJ9 b).2.1 := by decide +kernel
theorem tyJ9_ok : ∀ k, k < 0 → parseFieldDescriptor (TJ9 k).2.2.1 = some (tyJ9 k) := by decide +kernel
abbrev cJ9_max_7cf53 : ByteArray := prog_8_method_65_code
def yJ9_max_7cf53 : MethodName := ⟨RJ9, "max", "(II)I"⟩
abbrev cJ9_min_7cf53 : ByteArray := prog_8_method_69_code
def yJ9_min_7cf53 : MethodName := ⟨RJ9, "min", "(II)I"⟩
def RJ10 : String := "java/lang/System"
def TJ10 : u_T := fun k => match k with
  | _ => ("", "", "", false)
def tyJ10 : Nat → FieldType := fun k => match k with
  | _ => .int
abbrev wsJ100 : List Cond := u_ws RJ10 TJ10 0
theorem nmJ10 : ∀ a, a < 0 → ∀ b, b < 0 → a ≠ b → (TJ10 a).2.1 ≠ (TJ10 b).2.1 := by decide +kernel
theorem tyJ10_ok : ∀ k, k < 0 → parseFieldDescriptor (TJ10 k).2.2.1 = some (tyJ10 k) := by decide +kernel
def RL : String := "ProofMarksLaw"
abbrev cL_law : ByteArray := code
def yL_law : MethodName := ⟨RL, "law", "([I)Z"⟩
def wsX2_init : List Cond := .code yX2_init cX2_init 2 none :: ([.methodLink RX2 5 objectInit, .instanceMethod objectInit, .code objectInit ⟨#[0xb1]⟩ 1 none, .arrayClass .int, .fieldLink RX2 11 "ProofMarks$Sheet" "settings" "[I", .fieldLink RX2 15 "ProofMarks$Sheet" "how" "[I", .fieldLink RX2 18 "ProofMarks$Sheet" "ticks" "[I", .fieldLink RX2 21 "ProofMarks$Sheet" "crosses" "[I", .fieldLink RX2 24 "ProofMarks$Sheet" "dull" "[I", .fieldLink RX2 27 "ProofMarks$Sheet" "sizes" "[I", .fieldLink RX2 30 "ProofMarks$Sheet" "chosenIn" "[I", .fieldLink RX2 33 "ProofMarks$Sheet" "points" "[I", .fieldLink RX2 36 "ProofMarks$Sheet" "arguments" "[I", .fieldLink RX2 39 "ProofMarks$Sheet" "lifted" "[I", .fieldLink RX2 42 "ProofMarks$Sheet" "favourites" "[I", .fieldLink RX2 45 "ProofMarks$Sheet" "prints" "[I", .fieldLink RX2 48 "ProofMarks$Sheet" "rounds" "I", .fieldLink RX2 52 "ProofMarks$Sheet" "paper" "I", .fieldLink RX2 55 "ProofMarks$Sheet" "paperTaken" "I"] ++ wsX20)
def wsX0_init_r1 : List Cond := [Cond.methodLink RX0 1 objectInit, Cond.instanceMethod objectInit, Cond.code objectInit ⟨#[0xb1]⟩ 1 none, Cond.classLink RX0 9 RX2, Cond.fieldLink RX0 11 "ProofMarks$History" "states" "[LProofMarks$Sheet;", Cond.fieldLink RX0 15 "ProofMarks$History" "kept" "I", Cond.instantiable RX2 15, Cond.initialized RX2, Cond.methodLink RX0 19 yX2_init, Cond.instanceMethod yX2_init, Cond.code yX2_init cX2_init 2 none, Cond.methodLink RX2 5 objectInit, Cond.arrayClass .int, Cond.fieldLink RX2 11 "ProofMarks$Sheet" "settings" "[I", Cond.fieldLink RX2 15 "ProofMarks$Sheet" "how" "[I", Cond.fieldLink RX2 18 "ProofMarks$Sheet" "ticks" "[I", Cond.fieldLink RX2 21 "ProofMarks$Sheet" "crosses" "[I", Cond.fieldLink RX2 24 "ProofMarks$Sheet" "dull" "[I", Cond.fieldLink RX2 27 "ProofMarks$Sheet" "sizes" "[I", Cond.fieldLink RX2 30 "ProofMarks$Sheet" "chosenIn" "[I", Cond.fieldLink RX2 33 "ProofMarks$Sheet" "points" "[I", Cond.fieldLink RX2 36 "ProofMarks$Sheet" "arguments" "[I", Cond.fieldLink RX2 39 "ProofMarks$Sheet" "lifted" "[I", Cond.fieldLink RX2 42 "ProofMarks$Sheet" "favourites" "[I"]
def wsX0_init_r2 : List Cond := [Cond.fieldLink RX2 45 "ProofMarks$Sheet" "prints" "[I", Cond.fieldLink RX2 48 "ProofMarks$Sheet" "rounds" "I", Cond.fieldLink RX2 52 "ProofMarks$Sheet" "paper" "I", Cond.fieldLink RX2 55 "ProofMarks$Sheet" "paperTaken" "I"]
def wsX0_init : List Cond := .code yX0_init cX0_init 2 none :: ((wsX0_init_r1 ++ wsX0_init_r2) ++ wsX00 ++ wsX20)
def wsX2_takeOver : List Cond := .code yX2_takeOver cX2_takeOver 2 none :: ([.fieldLink RX2 11 "ProofMarks$Sheet" "settings" "[I", .methodLink RX2 58 arraycopyName, .native arraycopyName, .static arraycopyName, .initialized "java/lang/System", .fieldLink RX2 15 "ProofMarks$Sheet" "how" "[I", .fieldLink RX2 18 "ProofMarks$Sheet" "ticks" "[I", .fieldLink RX2 21 "ProofMarks$Sheet" "crosses" "[I", .fieldLink RX2 24 "ProofMarks$Sheet" "dull" "[I", .fieldLink RX2 27 "ProofMarks$Sheet" "sizes" "[I", .fieldLink RX2 30 "ProofMarks$Sheet" "chosenIn" "[I", .fieldLink RX2 33 "ProofMarks$Sheet" "points" "[I", .fieldLink RX2 36 "ProofMarks$Sheet" "arguments" "[I", .fieldLink RX2 39 "ProofMarks$Sheet" "lifted" "[I", .fieldLink RX2 42 "ProofMarks$Sheet" "favourites" "[I", .fieldLink RX2 45 "ProofMarks$Sheet" "prints" "[I", .fieldLink RX2 48 "ProofMarks$Sheet" "rounds" "I", .fieldLink RX2 52 "ProofMarks$Sheet" "paper" "I", .fieldLink RX2 55 "ProofMarks$Sheet" "paperTaken" "I"] ++ wsX20)
def wsX0_note_r1 : List Cond := [Cond.fieldLink RX0 11 "ProofMarks$History" "states" "[LProofMarks$Sheet;", Cond.fieldLink RX0 15 "ProofMarks$History" "kept" "I", Cond.methodLink RX0 20 yX2_takeOver, Cond.instanceMethod yX2_takeOver, Cond.selects RX2 yX2_takeOver yX2_takeOver, Cond.initialized RX2, Cond.code yX2_takeOver cX2_takeOver 2 none, Cond.fieldLink RX2 11 "ProofMarks$Sheet" "settings" "[I", Cond.methodLink RX2 58 arraycopyName, Cond.native arraycopyName, Cond.static arraycopyName, Cond.initialized "java/lang/System", Cond.fieldLink RX2 15 "ProofMarks$Sheet" "how" "[I", Cond.fieldLink RX2 18 "ProofMarks$Sheet" "ticks" "[I", Cond.fieldLink RX2 21 "ProofMarks$Sheet" "crosses" "[I", Cond.fieldLink RX2 24 "ProofMarks$Sheet" "dull" "[I", Cond.fieldLink RX2 27 "ProofMarks$Sheet" "sizes" "[I", Cond.fieldLink RX2 30 "ProofMarks$Sheet" "chosenIn" "[I", Cond.fieldLink RX2 33 "ProofMarks$Sheet" "points" "[I", Cond.fieldLink RX2 36 "ProofMarks$Sheet" "arguments" "[I", Cond.fieldLink RX2 39 "ProofMarks$Sheet" "lifted" "[I", Cond.fieldLink RX2 42 "ProofMarks$Sheet" "favourites" "[I", Cond.fieldLink RX2 45 "ProofMarks$Sheet" "prints" "[I", Cond.fieldLink RX2 48 "ProofMarks$Sheet" "rounds" "I"]
def wsX0_note_r2 : List Cond := [Cond.fieldLink RX2 52 "ProofMarks$Sheet" "paper" "I", Cond.fieldLink RX2 55 "ProofMarks$Sheet" "paperTaken" "I"]
def wsX0_note : List Cond := .code yX0_note cX0_note 2 none :: ((wsX0_note_r1 ++ wsX0_note_r2) ++ wsX00 ++ wsX20)
def wsX0_keep : List Cond := .code yX0_keep cX0_keep 3 none :: ([.fieldLink RX0 15 "ProofMarks$History" "kept" "I", .fieldLink RX0 11 "ProofMarks$History" "states" "[LProofMarks$Sheet;"] ++ wsX00)
def wsX0_bringBack_r1 : List Cond := [Cond.fieldLink RX0 15 "ProofMarks$History" "kept" "I", Cond.fieldLink RX0 11 "ProofMarks$History" "states" "[LProofMarks$Sheet;", Cond.methodLink RX0 20 yX2_takeOver, Cond.instanceMethod yX2_takeOver, Cond.selects RX2 yX2_takeOver yX2_takeOver, Cond.initialized RX2, Cond.code yX2_takeOver cX2_takeOver 2 none, Cond.fieldLink RX2 11 "ProofMarks$Sheet" "settings" "[I", Cond.methodLink RX2 58 arraycopyName, Cond.native arraycopyName, Cond.static arraycopyName, Cond.initialized "java/lang/System", Cond.fieldLink RX2 15 "ProofMarks$Sheet" "how" "[I", Cond.fieldLink RX2 18 "ProofMarks$Sheet" "ticks" "[I", Cond.fieldLink RX2 21 "ProofMarks$Sheet" "crosses" "[I", Cond.fieldLink RX2 24 "ProofMarks$Sheet" "dull" "[I", Cond.fieldLink RX2 27 "ProofMarks$Sheet" "sizes" "[I", Cond.fieldLink RX2 30 "ProofMarks$Sheet" "chosenIn" "[I", Cond.fieldLink RX2 33 "ProofMarks$Sheet" "points" "[I", Cond.fieldLink RX2 36 "ProofMarks$Sheet" "arguments" "[I", Cond.fieldLink RX2 39 "ProofMarks$Sheet" "lifted" "[I", Cond.fieldLink RX2 42 "ProofMarks$Sheet" "favourites" "[I", Cond.fieldLink RX2 45 "ProofMarks$Sheet" "prints" "[I", Cond.fieldLink RX2 48 "ProofMarks$Sheet" "rounds" "I"]
def wsX0_bringBack_r2 : List Cond := [Cond.fieldLink RX2 52 "ProofMarks$Sheet" "paper" "I", Cond.fieldLink RX2 55 "ProofMarks$Sheet" "paperTaken" "I"]
def wsX0_bringBack : List Cond := .code yX0_bringBack cX0_bringBack 2 none :: ((wsX0_bringBack_r1 ++ wsX0_bringBack_r2) ++ wsX00 ++ wsX20)
def wsX1_init : List Cond := .code yX1_init cX1_init 1 none :: ([.methodLink RX1 3 objectInit, .instanceMethod objectInit, .code objectInit ⟨#[0xb1]⟩ 1 none, .arrayClass .char, .fieldLink RX1 11 "ProofMarks$Pad" "signs" "[C", .fieldLink RX1 15 "ProofMarks$Pad" "length" "I", .fieldLink RX1 19 "ProofMarks$Pad" "at" "I", .fieldLink RX1 22 "ProofMarks$Pad" "order" "C", .fieldLink RX1 26 "ProofMarks$Pad" "editor" "I", .fieldLink RX1 29 "ProofMarks$Pad" "other" "I", .fieldLink RX1 32 "ProofMarks$Pad" "number" "I", .fieldLink RX1 35 "ProofMarks$Pad" "size" "I"] ++ wsX10)
def wsX1_charactersIn : List Cond := .code yX1_charactersIn cX1_charactersIn 7 (some .int) :: ([.constantLong RX1 42 (255), .constantLong RX1 44 (33), .constantLong RX1 46 (126)])
def wsX1_append : List Cond := .code yX1_append cX1_append 5 (some .int) :: ([.fieldLink RX1 15 "ProofMarks$Pad" "length" "I", .fieldLink RX1 11 "ProofMarks$Pad" "signs" "[C", .constantLong RX1 42 (255), .methodLink RX1 38 yX1_charactersIn, .static yX1_charactersIn, .initialized RX1, .code yX1_charactersIn cX1_charactersIn 7 (some .int), .constantLong RX1 44 (33), .constantLong RX1 46 (126)] ++ wsX10)
def wsX1_empty : List Cond := .code yX1_empty cX1_empty 2 (some .int) :: ([.fieldLink RX1 15 "ProofMarks$Pad" "length" "I"] ++ wsX10)
def wsX1_rewind : List Cond := .code yX1_rewind cX1_rewind 1 none :: ([.fieldLink RX1 19 "ProofMarks$Pad" "at" "I"] ++ wsX10)
def wsX1_here : List Cond := .code yX1_here cX1_here 1 (some .char) :: ([.fieldLink RX1 19 "ProofMarks$Pad" "at" "I", .fieldLink RX1 15 "ProofMarks$Pad" "length" "I", .fieldLink RX1 11 "ProofMarks$Pad" "signs" "[C"] ++ wsX10)
def wsX1_take : List Cond := .code yX1_take cX1_take 2 (some .boolean) :: ([.fieldLink RX1 19 "ProofMarks$Pad" "at" "I", .methodLink RX1 62 yX1_here, .instanceMethod yX1_here, .selects RX1 yX1_here yX1_here, .initialized RX1, .code yX1_here cX1_here 1 (some .char), .fieldLink RX1 15 "ProofMarks$Pad" "length" "I", .fieldLink RX1 11 "ProofMarks$Pad" "signs" "[C"] ++ wsX10)
def wsX1_digitHere : List Cond := .code yX1_digitHere cX1_digitHere 2 (some .int) :: ([.methodLink RX1 62 yX1_here, .instanceMethod yX1_here, .selects RX1 yX1_here yX1_here, .initialized RX1, .code yX1_here cX1_here 1 (some .char), .fieldLink RX1 19 "ProofMarks$Pad" "at" "I", .fieldLink RX1 15 "ProofMarks$Pad" "length" "I", .fieldLink RX1 11 "ProofMarks$Pad" "signs" "[C"] ++ wsX10)
def wsX1_pass : List Cond := .code yX1_pass cX1_pass 2 (some .boolean) :: ([.fieldLink RX1 19 "ProofMarks$Pad" "at" "I"] ++ wsX10)
def wsX1_takeEditor : List Cond := .code yX1_takeEditor cX1_takeEditor 1 (some .boolean) :: ([.fieldLink RX1 26 "ProofMarks$Pad" "editor" "I", .methodLink RX1 78 yX1_digitHere, .instanceMethod yX1_digitHere, .selects RX1 yX1_digitHere yX1_digitHere, .initialized RX1, .code yX1_digitHere cX1_digitHere 2 (some .int), .methodLink RX1 62 yX1_here, .instanceMethod yX1_here, .selects RX1 yX1_here yX1_here, .code yX1_here cX1_here 1 (some .char), .fieldLink RX1 19 "ProofMarks$Pad" "at" "I", .fieldLink RX1 15 "ProofMarks$Pad" "length" "I", .fieldLink RX1 11 "ProofMarks$Pad" "signs" "[C", .methodLink RX1 82 yX1_pass, .instanceMethod yX1_pass, .selects RX1 yX1_pass yX1_pass, .code yX1_pass cX1_pass 2 (some .boolean)] ++ wsX10)
def wsX1_takeNumber : List Cond := .code yX1_takeNumber cX1_takeNumber 2 (some .boolean) :: ([.fieldLink RX1 32 "ProofMarks$Pad" "number" "I", .methodLink RX1 78 yX1_digitHere, .instanceMethod yX1_digitHere, .selects RX1 yX1_digitHere yX1_digitHere, .initialized RX1, .code yX1_digitHere cX1_digitHere 2 (some .int), .methodLink RX1 62 yX1_here, .instanceMethod yX1_here, .selects RX1 yX1_here yX1_here, .code yX1_here cX1_here 1 (some .char), .fieldLink RX1 19 "ProofMarks$Pad" "at" "I", .fieldLink RX1 15 "ProofMarks$Pad" "length" "I", .fieldLink RX1 11 "ProofMarks$Pad" "signs" "[C", .methodLink RX1 82 yX1_pass, .instanceMethod yX1_pass, .selects RX1 yX1_pass yX1_pass, .code yX1_pass cX1_pass 2 (some .boolean)] ++ wsX10)
def wsX1_takeOther : List Cond := .code yX1_takeOther cX1_takeOther 1 (some .boolean) :: ([.fieldLink RX1 29 "ProofMarks$Pad" "other" "I", .methodLink RX1 78 yX1_digitHere, .instanceMethod yX1_digitHere, .selects RX1 yX1_digitHere yX1_digitHere, .initialized RX1, .code yX1_digitHere cX1_digitHere 2 (some .int), .methodLink RX1 62 yX1_here, .instanceMethod yX1_here, .selects RX1 yX1_here yX1_here, .code yX1_here cX1_here 1 (some .char), .fieldLink RX1 19 "ProofMarks$Pad" "at" "I", .fieldLink RX1 15 "ProofMarks$Pad" "length" "I", .fieldLink RX1 11 "ProofMarks$Pad" "signs" "[C", .methodLink RX1 82 yX1_pass, .instanceMethod yX1_pass, .selects RX1 yX1_pass yX1_pass, .code yX1_pass cX1_pass 2 (some .boolean)] ++ wsX10)
def wsX1_takeSize : List Cond := .code yX1_takeSize cX1_takeSize 1 (some .boolean) :: ([.fieldLink RX1 35 "ProofMarks$Pad" "size" "I", .methodLink RX1 78 yX1_digitHere, .instanceMethod yX1_digitHere, .selects RX1 yX1_digitHere yX1_digitHere, .initialized RX1, .code yX1_digitHere cX1_digitHere 2 (some .int), .methodLink RX1 62 yX1_here, .instanceMethod yX1_here, .selects RX1 yX1_here yX1_here, .code yX1_here cX1_here 1 (some .char), .fieldLink RX1 19 "ProofMarks$Pad" "at" "I", .fieldLink RX1 15 "ProofMarks$Pad" "length" "I", .fieldLink RX1 11 "ProofMarks$Pad" "signs" "[C", .methodLink RX1 82 yX1_pass, .instanceMethod yX1_pass, .selects RX1 yX1_pass yX1_pass, .code yX1_pass cX1_pass 2 (some .boolean)] ++ wsX10)
def wsX1_takeOrder_r1 : List Cond := [Cond.fieldLink RX1 22 "ProofMarks$Pad" "order" "C", Cond.methodLink RX1 62 yX1_here, Cond.instanceMethod yX1_here, Cond.selects RX1 yX1_here yX1_here, Cond.initialized RX1, Cond.code yX1_here cX1_here 1 (some .char), Cond.fieldLink RX1 19 "ProofMarks$Pad" "at" "I", Cond.fieldLink RX1 15 "ProofMarks$Pad" "length" "I", Cond.fieldLink RX1 11 "ProofMarks$Pad" "signs" "[C", Cond.methodLink RX1 55 yX1_take, Cond.instanceMethod yX1_take, Cond.selects RX1 yX1_take yX1_take, Cond.code yX1_take cX1_take 2 (some .boolean), Cond.methodLink RX1 66 yX1_takeEditor, Cond.instanceMethod yX1_takeEditor, Cond.selects RX1 yX1_takeEditor yX1_takeEditor, Cond.code yX1_takeEditor cX1_takeEditor 1 (some .boolean), Cond.fieldLink RX1 26 "ProofMarks$Pad" "editor" "I", Cond.methodLink RX1 78 yX1_digitHere, Cond.instanceMethod yX1_digitHere, Cond.selects RX1 yX1_digitHere yX1_digitHere, Cond.code yX1_digitHere cX1_digitHere 2 (some .int), Cond.methodLink RX1 82 yX1_pass, Cond.instanceMethod yX1_pass]
def wsX1_takeOrder_r2 : List Cond := [Cond.selects RX1 yX1_pass yX1_pass, Cond.code yX1_pass cX1_pass 2 (some .boolean), Cond.methodLink RX1 69 yX1_takeNumber, Cond.instanceMethod yX1_takeNumber, Cond.selects RX1 yX1_takeNumber yX1_takeNumber, Cond.code yX1_takeNumber cX1_takeNumber 2 (some .boolean), Cond.fieldLink RX1 32 "ProofMarks$Pad" "number" "I", Cond.methodLink RX1 72 yX1_takeOther, Cond.instanceMethod yX1_takeOther, Cond.selects RX1 yX1_takeOther yX1_takeOther, Cond.code yX1_takeOther cX1_takeOther 1 (some .boolean), Cond.fieldLink RX1 29 "ProofMarks$Pad" "other" "I", Cond.methodLink RX1 75 yX1_takeSize, Cond.instanceMethod yX1_takeSize, Cond.selects RX1 yX1_takeSize yX1_takeSize, Cond.code yX1_takeSize cX1_takeSize 1 (some .boolean), Cond.fieldLink RX1 35 "ProofMarks$Pad" "size" "I"]
def wsX1_takeOrder : List Cond := .code yX1_takeOrder cX1_takeOrder 1 (some .boolean) :: ((wsX1_takeOrder_r1 ++ wsX1_takeOrder_r2) ++ wsX10)
def wsX1_nextOrder_r1 : List Cond := [Cond.fieldLink RX1 19 "ProofMarks$Pad" "at" "I", Cond.methodLink RX1 55 yX1_take, Cond.instanceMethod yX1_take, Cond.selects RX1 yX1_take yX1_take, Cond.initialized RX1, Cond.code yX1_take cX1_take 2 (some .boolean), Cond.methodLink RX1 62 yX1_here, Cond.instanceMethod yX1_here, Cond.selects RX1 yX1_here yX1_here, Cond.code yX1_here cX1_here 1 (some .char), Cond.fieldLink RX1 15 "ProofMarks$Pad" "length" "I", Cond.fieldLink RX1 11 "ProofMarks$Pad" "signs" "[C", Cond.methodLink RX1 59 yX1_takeOrder, Cond.instanceMethod yX1_takeOrder, Cond.selects RX1 yX1_takeOrder yX1_takeOrder, Cond.code yX1_takeOrder cX1_takeOrder 1 (some .boolean), Cond.fieldLink RX1 22 "ProofMarks$Pad" "order" "C", Cond.methodLink RX1 66 yX1_takeEditor, Cond.instanceMethod yX1_takeEditor, Cond.selects RX1 yX1_takeEditor yX1_takeEditor, Cond.code yX1_takeEditor cX1_takeEditor 1 (some .boolean), Cond.fieldLink RX1 26 "ProofMarks$Pad" "editor" "I", Cond.methodLink RX1 78 yX1_digitHere, Cond.instanceMethod yX1_digitHere]
def wsX1_nextOrder_r2 : List Cond := [Cond.selects RX1 yX1_digitHere yX1_digitHere, Cond.code yX1_digitHere cX1_digitHere 2 (some .int), Cond.methodLink RX1 82 yX1_pass, Cond.instanceMethod yX1_pass, Cond.selects RX1 yX1_pass yX1_pass, Cond.code yX1_pass cX1_pass 2 (some .boolean), Cond.methodLink RX1 69 yX1_takeNumber, Cond.instanceMethod yX1_takeNumber, Cond.selects RX1 yX1_takeNumber yX1_takeNumber, Cond.code yX1_takeNumber cX1_takeNumber 2 (some .boolean), Cond.fieldLink RX1 32 "ProofMarks$Pad" "number" "I", Cond.methodLink RX1 72 yX1_takeOther, Cond.instanceMethod yX1_takeOther, Cond.selects RX1 yX1_takeOther yX1_takeOther, Cond.code yX1_takeOther cX1_takeOther 1 (some .boolean), Cond.fieldLink RX1 29 "ProofMarks$Pad" "other" "I", Cond.methodLink RX1 75 yX1_takeSize, Cond.instanceMethod yX1_takeSize, Cond.selects RX1 yX1_takeSize yX1_takeSize, Cond.code yX1_takeSize cX1_takeSize 1 (some .boolean), Cond.fieldLink RX1 35 "ProofMarks$Pad" "size" "I"]
def wsX1_nextOrder : List Cond := .code yX1_nextOrder cX1_nextOrder 1 (some .boolean) :: ((wsX1_nextOrder_r1 ++ wsX1_nextOrder_r2) ++ wsX10)
def wsX1_faultAt_r1 : List Cond := [Cond.fieldLink RX1 19 "ProofMarks$Pad" "at" "I", Cond.fieldLink RX1 15 "ProofMarks$Pad" "length" "I", Cond.methodLink RX1 48 yX1_rewind, Cond.instanceMethod yX1_rewind, Cond.selects RX1 yX1_rewind yX1_rewind, Cond.initialized RX1, Cond.code yX1_rewind cX1_rewind 1 none, Cond.methodLink RX1 51 yX1_nextOrder, Cond.instanceMethod yX1_nextOrder, Cond.selects RX1 yX1_nextOrder yX1_nextOrder, Cond.code yX1_nextOrder cX1_nextOrder 1 (some .boolean), Cond.methodLink RX1 55 yX1_take, Cond.instanceMethod yX1_take, Cond.selects RX1 yX1_take yX1_take, Cond.code yX1_take cX1_take 2 (some .boolean), Cond.methodLink RX1 62 yX1_here, Cond.instanceMethod yX1_here, Cond.selects RX1 yX1_here yX1_here, Cond.code yX1_here cX1_here 1 (some .char), Cond.fieldLink RX1 11 "ProofMarks$Pad" "signs" "[C", Cond.methodLink RX1 59 yX1_takeOrder, Cond.instanceMethod yX1_takeOrder, Cond.selects RX1 yX1_takeOrder yX1_takeOrder, Cond.code yX1_takeOrder cX1_takeOrder 1 (some .boolean)]
def wsX1_faultAt_r2 : List Cond := [Cond.fieldLink RX1 22 "ProofMarks$Pad" "order" "C", Cond.methodLink RX1 66 yX1_takeEditor, Cond.instanceMethod yX1_takeEditor, Cond.selects RX1 yX1_takeEditor yX1_takeEditor, Cond.code yX1_takeEditor cX1_takeEditor 1 (some .boolean), Cond.fieldLink RX1 26 "ProofMarks$Pad" "editor" "I", Cond.methodLink RX1 78 yX1_digitHere, Cond.instanceMethod yX1_digitHere, Cond.selects RX1 yX1_digitHere yX1_digitHere, Cond.code yX1_digitHere cX1_digitHere 2 (some .int), Cond.methodLink RX1 82 yX1_pass, Cond.instanceMethod yX1_pass, Cond.selects RX1 yX1_pass yX1_pass, Cond.code yX1_pass cX1_pass 2 (some .boolean), Cond.methodLink RX1 69 yX1_takeNumber, Cond.instanceMethod yX1_takeNumber, Cond.selects RX1 yX1_takeNumber yX1_takeNumber, Cond.code yX1_takeNumber cX1_takeNumber 2 (some .boolean), Cond.fieldLink RX1 32 "ProofMarks$Pad" "number" "I", Cond.methodLink RX1 72 yX1_takeOther, Cond.instanceMethod yX1_takeOther, Cond.selects RX1 yX1_takeOther yX1_takeOther, Cond.code yX1_takeOther cX1_takeOther 1 (some .boolean), Cond.fieldLink RX1 29 "ProofMarks$Pad" "other" "I"]
def wsX1_faultAt_r3 : List Cond := [Cond.methodLink RX1 75 yX1_takeSize, Cond.instanceMethod yX1_takeSize, Cond.selects RX1 yX1_takeSize yX1_takeSize, Cond.code yX1_takeSize cX1_takeSize 1 (some .boolean), Cond.fieldLink RX1 35 "ProofMarks$Pad" "size" "I"]
def wsX1_faultAt : List Cond := .code yX1_faultAt cX1_faultAt 3 (some .int) :: ((wsX1_faultAt_r1 ++ (wsX1_faultAt_r2 ++ wsX1_faultAt_r3)) ++ wsX10)
def wsX2_changeSetting : List Cond := .code yX2_changeSetting cX2_changeSetting 4 (some .int) :: ([.fieldLink RX2 11 "ProofMarks$Sheet" "settings" "[I", .fieldLink RX2 64 "ProofMarks$Sheet" "LEAST_VALUES" "[I", .fieldLink RX2 67 "ProofMarks$Sheet" "MOST_VALUES" "[I"] ++ wsX20)
def wsX2_isEditor : List Cond := .code yX2_isEditor cX2_isEditor 1 (some .boolean) :: ([])
def wsX2_isFrame : List Cond := .code yX2_isFrame cX2_isFrame 1 (some .boolean) :: ([])
def wsX2_markOf : List Cond := .code yX2_markOf cX2_markOf 4 (some .int) :: ([.fieldLink RX2 18 "ProofMarks$Sheet" "ticks" "[I", .fieldLink RX2 21 "ProofMarks$Sheet" "crosses" "[I"] ++ wsX20)
def wsX2_marksOf : List Cond := .code yX2_marksOf cX2_marksOf 5 (some .int) :: ([.methodLink RX2 77 yX2_markOf, .instanceMethod yX2_markOf, .selects RX2 yX2_markOf yX2_markOf, .initialized RX2, .code yX2_markOf cX2_markOf 4 (some .int), .fieldLink RX2 18 "ProofMarks$Sheet" "ticks" "[I", .fieldLink RX2 21 "ProofMarks$Sheet" "crosses" "[I"] ++ wsX20)
def wsX2_vetoesLeft : List Cond := .code yX2_vetoesLeft cX2_vetoesLeft 2 (some .int) :: ([.fieldLink RX2 11 "ProofMarks$Sheet" "settings" "[I", .methodLink RX2 138 Lib.Math.max.name, .static Lib.Math.max.name, .initialized "java/lang/Math", .code Lib.Math.max.name Lib.Math.max.code 2 (some .int), .methodLink RX2 100 yX2_marksOf, .instanceMethod yX2_marksOf, .selects RX2 yX2_marksOf yX2_marksOf, .initialized RX2, .code yX2_marksOf cX2_marksOf 5 (some .int), .methodLink RX2 77 yX2_markOf, .instanceMethod yX2_markOf, .selects RX2 yX2_markOf yX2_markOf, .code yX2_markOf cX2_markOf 4 (some .int), .fieldLink RX2 18 "ProofMarks$Sheet" "ticks" "[I", .fieldLink RX2 21 "ProofMarks$Sheet" "crosses" "[I"] ++ wsX20)
def wsX2_withEditor : List Cond := .code yX2_withEditor cX2_withEditor 4 (some .int) :: ([])
def wsX2_putMark_r1 : List Cond := [Cond.fieldLink RX2 15 "ProofMarks$Sheet" "how" "[I", Cond.fieldLink RX2 18 "ProofMarks$Sheet" "ticks" "[I", Cond.fieldLink RX2 21 "ProofMarks$Sheet" "crosses" "[I", Cond.methodLink RX2 70 yX2_isEditor, Cond.static yX2_isEditor, Cond.initialized RX2, Cond.code yX2_isEditor cX2_isEditor 1 (some .boolean), Cond.methodLink RX2 74 yX2_isFrame, Cond.static yX2_isFrame, Cond.code yX2_isFrame cX2_isFrame 1 (some .boolean), Cond.methodLink RX2 77 yX2_markOf, Cond.instanceMethod yX2_markOf, Cond.selects RX2 yX2_markOf yX2_markOf, Cond.code yX2_markOf cX2_markOf 4 (some .int), Cond.methodLink RX2 81 yX2_vetoesLeft, Cond.instanceMethod yX2_vetoesLeft, Cond.selects RX2 yX2_vetoesLeft yX2_vetoesLeft, Cond.code yX2_vetoesLeft cX2_vetoesLeft 2 (some .int), Cond.fieldLink RX2 11 "ProofMarks$Sheet" "settings" "[I", Cond.methodLink RX2 138 Lib.Math.max.name, Cond.static Lib.Math.max.name, Cond.initialized "java/lang/Math", Cond.code Lib.Math.max.name Lib.Math.max.code 2 (some .int), Cond.methodLink RX2 100 yX2_marksOf]
def wsX2_putMark_r2 : List Cond := [Cond.instanceMethod yX2_marksOf, Cond.selects RX2 yX2_marksOf yX2_marksOf, Cond.code yX2_marksOf cX2_marksOf 5 (some .int), Cond.methodLink RX2 85 yX2_withEditor, Cond.static yX2_withEditor, Cond.code yX2_withEditor cX2_withEditor 4 (some .int)]
def wsX2_putMark : List Cond := .code yX2_putMark cX2_putMark 5 (some .int) :: ((wsX2_putMark_r1 ++ wsX2_putMark_r2) ++ wsX20)
def wsX2_argueAgainst : List Cond := .code yX2_argueAgainst cX2_argueAgainst 5 (some .int) :: ([.fieldLink RX2 11 "ProofMarks$Sheet" "settings" "[I", .fieldLink RX2 33 "ProofMarks$Sheet" "points" "[I", .fieldLink RX2 36 "ProofMarks$Sheet" "arguments" "[I", .fieldLink RX2 21 "ProofMarks$Sheet" "crosses" "[I", .fieldLink RX2 39 "ProofMarks$Sheet" "lifted" "[I", .methodLink RX2 70 yX2_isEditor, .static yX2_isEditor, .initialized RX2, .code yX2_isEditor cX2_isEditor 1 (some .boolean), .methodLink RX2 74 yX2_isFrame, .static yX2_isFrame, .code yX2_isFrame cX2_isFrame 1 (some .boolean), .methodLink RX2 77 yX2_markOf, .instanceMethod yX2_markOf, .selects RX2 yX2_markOf yX2_markOf, .code yX2_markOf cX2_markOf 4 (some .int), .fieldLink RX2 18 "ProofMarks$Sheet" "ticks" "[I", .methodLink RX2 85 yX2_withEditor, .static yX2_withEditor, .code yX2_withEditor cX2_withEditor 4 (some .int)] ++ wsX20)
def wsJ6_bitCount_0f7a4 : List Cond := .code yJ6_bitCount_0f7a4 cJ6_bitCount_0f7a4 1 (some .int) :: ([.constant RJ6 265 (1431655765), .constant RJ6 266 (858993459), .constant RJ6 267 (252645135)])
def wsX2_isWanted : List Cond := .code yX2_isWanted cX2_isWanted 3 (some .boolean) :: ([.fieldLink RX2 11 "ProofMarks$Sheet" "settings" "[I", .methodLink RX2 133 yJ6_bitCount_0f7a4, .static yJ6_bitCount_0f7a4, .initialized RJ6, .code yJ6_bitCount_0f7a4 cJ6_bitCount_0f7a4 1 (some .int), .constant RJ6 265 (1431655765), .constant RJ6 266 (858993459), .constant RJ6 267 (252645135)] ++ wsX20)
def wsX2_dullAfterRound : List Cond := .code yX2_dullAfterRound cX2_dullAfterRound 3 (some .int) :: ([.fieldLink RX2 18 "ProofMarks$Sheet" "ticks" "[I", .fieldLink RX2 21 "ProofMarks$Sheet" "crosses" "[I", .fieldLink RX2 24 "ProofMarks$Sheet" "dull" "[I"] ++ wsX20)
def wsX2_afterRound : List Cond := .code yX2_afterRound cX2_afterRound 3 (some .int) :: ([.fieldLink RX2 21 "ProofMarks$Sheet" "crosses" "[I", .fieldLink RX2 18 "ProofMarks$Sheet" "ticks" "[I", .fieldLink RX2 11 "ProofMarks$Sheet" "settings" "[I", .methodLink RX2 133 yJ6_bitCount_0f7a4, .static yJ6_bitCount_0f7a4, .initialized RJ6, .code yJ6_bitCount_0f7a4 cJ6_bitCount_0f7a4 1 (some .int), .constant RJ6 265 (1431655765), .constant RJ6 266 (858993459), .constant RJ6 267 (252645135), .methodLink RX2 113 yX2_isWanted, .instanceMethod yX2_isWanted, .selects RX2 yX2_isWanted yX2_isWanted, .initialized RX2, .code yX2_isWanted cX2_isWanted 3 (some .boolean), .methodLink RX2 130 yX2_dullAfterRound, .instanceMethod yX2_dullAfterRound, .selects RX2 yX2_dullAfterRound yX2_dullAfterRound, .code yX2_dullAfterRound cX2_dullAfterRound 3 (some .int), .fieldLink RX2 24 "ProofMarks$Sheet" "dull" "[I"] ++ wsX20)
def wsX2_noteChoice : List Cond := .code yX2_noteChoice cX2_noteChoice 3 none :: ([.fieldLink RX2 27 "ProofMarks$Sheet" "sizes" "[I", .fieldLink RX2 18 "ProofMarks$Sheet" "ticks" "[I", .fieldLink RX2 30 "ProofMarks$Sheet" "chosenIn" "[I", .fieldLink RX2 48 "ProofMarks$Sheet" "rounds" "I", .fieldLink RX2 42 "ProofMarks$Sheet" "favourites" "[I", .methodLink RX2 133 yJ6_bitCount_0f7a4, .static yJ6_bitCount_0f7a4, .initialized RJ6, .code yJ6_bitCount_0f7a4 cJ6_bitCount_0f7a4 1 (some .int), .constant RJ6 265 (1431655765), .constant RJ6 266 (858993459), .constant RJ6 267 (252645135), .methodLink RX2 77 yX2_markOf, .instanceMethod yX2_markOf, .selects RX2 yX2_markOf yX2_markOf, .initialized RX2, .code yX2_markOf cX2_markOf 4 (some .int), .fieldLink RX2 21 "ProofMarks$Sheet" "crosses" "[I"] ++ wsX20)
def wsX2_settle_r1 : List Cond := [Cond.fieldLink RX2 24 "ProofMarks$Sheet" "dull" "[I", Cond.fieldLink RX2 15 "ProofMarks$Sheet" "how" "[I", Cond.fieldLink RX2 18 "ProofMarks$Sheet" "ticks" "[I", Cond.fieldLink RX2 21 "ProofMarks$Sheet" "crosses" "[I", Cond.methodLink RX2 123 yX2_afterRound, Cond.instanceMethod yX2_afterRound, Cond.selects RX2 yX2_afterRound yX2_afterRound, Cond.initialized RX2, Cond.code yX2_afterRound cX2_afterRound 3 (some .int), Cond.fieldLink RX2 11 "ProofMarks$Sheet" "settings" "[I", Cond.methodLink RX2 133 yJ6_bitCount_0f7a4, Cond.static yJ6_bitCount_0f7a4, Cond.initialized RJ6, Cond.code yJ6_bitCount_0f7a4 cJ6_bitCount_0f7a4 1 (some .int), Cond.constant RJ6 265 (1431655765), Cond.constant RJ6 266 (858993459), Cond.constant RJ6 267 (252645135), Cond.methodLink RX2 113 yX2_isWanted, Cond.instanceMethod yX2_isWanted, Cond.selects RX2 yX2_isWanted yX2_isWanted, Cond.code yX2_isWanted cX2_isWanted 3 (some .boolean), Cond.methodLink RX2 130 yX2_dullAfterRound, Cond.instanceMethod yX2_dullAfterRound, Cond.selects RX2 yX2_dullAfterRound yX2_dullAfterRound]
def wsX2_settle_r2 : List Cond := [Cond.code yX2_dullAfterRound cX2_dullAfterRound 3 (some .int), Cond.methodLink RX2 126 yX2_noteChoice, Cond.instanceMethod yX2_noteChoice, Cond.selects RX2 yX2_noteChoice yX2_noteChoice, Cond.code yX2_noteChoice cX2_noteChoice 3 none, Cond.fieldLink RX2 27 "ProofMarks$Sheet" "sizes" "[I", Cond.fieldLink RX2 30 "ProofMarks$Sheet" "chosenIn" "[I", Cond.fieldLink RX2 48 "ProofMarks$Sheet" "rounds" "I", Cond.fieldLink RX2 42 "ProofMarks$Sheet" "favourites" "[I", Cond.methodLink RX2 77 yX2_markOf, Cond.instanceMethod yX2_markOf, Cond.selects RX2 yX2_markOf yX2_markOf, Cond.code yX2_markOf cX2_markOf 4 (some .int)]
def wsX2_settle : List Cond := .code yX2_settle cX2_settle 3 (some .int) :: ((wsX2_settle_r1 ++ wsX2_settle_r2) ++ wsX20)
def wsX2_endRound_r1 : List Cond := [Cond.fieldLink RX2 48 "ProofMarks$Sheet" "rounds" "I", Cond.fieldLink RX2 15 "ProofMarks$Sheet" "how" "[I", Cond.fieldLink RX2 33 "ProofMarks$Sheet" "points" "[I", Cond.methodLink RX2 92 Lib.Math.min.name, Cond.static Lib.Math.min.name, Cond.initialized "java/lang/Math", Cond.code Lib.Math.min.name Lib.Math.min.code 2 (some .int), Cond.methodLink RX2 89 yX2_settle, Cond.instanceMethod yX2_settle, Cond.selects RX2 yX2_settle yX2_settle, Cond.initialized RX2, Cond.code yX2_settle cX2_settle 3 (some .int), Cond.fieldLink RX2 24 "ProofMarks$Sheet" "dull" "[I", Cond.fieldLink RX2 18 "ProofMarks$Sheet" "ticks" "[I", Cond.fieldLink RX2 21 "ProofMarks$Sheet" "crosses" "[I", Cond.methodLink RX2 123 yX2_afterRound, Cond.instanceMethod yX2_afterRound, Cond.selects RX2 yX2_afterRound yX2_afterRound, Cond.code yX2_afterRound cX2_afterRound 3 (some .int), Cond.fieldLink RX2 11 "ProofMarks$Sheet" "settings" "[I", Cond.methodLink RX2 133 yJ6_bitCount_0f7a4, Cond.static yJ6_bitCount_0f7a4, Cond.initialized RJ6, Cond.code yJ6_bitCount_0f7a4 cJ6_bitCount_0f7a4 1 (some .int)]
def wsX2_endRound_r2 : List Cond := [Cond.constant RJ6 265 (1431655765), Cond.constant RJ6 266 (858993459), Cond.constant RJ6 267 (252645135), Cond.methodLink RX2 113 yX2_isWanted, Cond.instanceMethod yX2_isWanted, Cond.selects RX2 yX2_isWanted yX2_isWanted, Cond.code yX2_isWanted cX2_isWanted 3 (some .boolean), Cond.methodLink RX2 130 yX2_dullAfterRound, Cond.instanceMethod yX2_dullAfterRound, Cond.selects RX2 yX2_dullAfterRound yX2_dullAfterRound, Cond.code yX2_dullAfterRound cX2_dullAfterRound 3 (some .int), Cond.methodLink RX2 126 yX2_noteChoice, Cond.instanceMethod yX2_noteChoice, Cond.selects RX2 yX2_noteChoice yX2_noteChoice, Cond.code yX2_noteChoice cX2_noteChoice 3 none, Cond.fieldLink RX2 27 "ProofMarks$Sheet" "sizes" "[I", Cond.fieldLink RX2 30 "ProofMarks$Sheet" "chosenIn" "[I", Cond.fieldLink RX2 42 "ProofMarks$Sheet" "favourites" "[I", Cond.methodLink RX2 77 yX2_markOf, Cond.instanceMethod yX2_markOf, Cond.selects RX2 yX2_markOf yX2_markOf, Cond.code yX2_markOf cX2_markOf 4 (some .int)]
def wsX2_endRound : List Cond := .code yX2_endRound cX2_endRound 3 (some .int) :: ((wsX2_endRound_r1 ++ wsX2_endRound_r2) ++ wsX20)
def wsX2_paperOf : List Cond := .code yX2_paperOf cX2_paperOf 1 (some .int) :: ([])
def wsX2_printFrame : List Cond := .code yX2_printFrame cX2_printFrame 4 (some .int) :: ([.fieldLink RX2 15 "ProofMarks$Sheet" "how" "[I", .fieldLink RX2 27 "ProofMarks$Sheet" "sizes" "[I", .fieldLink RX2 52 "ProofMarks$Sheet" "paper" "I", .fieldLink RX2 45 "ProofMarks$Sheet" "prints" "[I", .fieldLink RX2 55 "ProofMarks$Sheet" "paperTaken" "I", .methodLink RX2 74 yX2_isFrame, .static yX2_isFrame, .initialized RX2, .code yX2_isFrame cX2_isFrame 1 (some .boolean), .methodLink RX2 97 yX2_paperOf, .static yX2_paperOf, .code yX2_paperOf cX2_paperOf 1 (some .int)] ++ wsX20)
def wsX2_addPaper : List Cond := .code yX2_addPaper cX2_addPaper 2 (some .int) :: ([.fieldLink RX2 52 "ProofMarks$Sheet" "paper" "I", .methodLink RX2 92 Lib.Math.min.name, .static Lib.Math.min.name, .initialized "java/lang/Math", .code Lib.Math.min.name Lib.Math.min.code 2 (some .int)] ++ wsX20)
def wsX2_openAgain : List Cond := .code yX2_openAgain cX2_openAgain 3 (some .int) :: ([.fieldLink RX2 15 "ProofMarks$Sheet" "how" "[I", .fieldLink RX2 24 "ProofMarks$Sheet" "dull" "[I", .fieldLink RX2 27 "ProofMarks$Sheet" "sizes" "[I", .methodLink RX2 74 yX2_isFrame, .static yX2_isFrame, .initialized RX2, .code yX2_isFrame cX2_isFrame 1 (some .boolean)] ++ wsX20)
def wsX2_aboutFrame : List Cond := .code yX2_aboutFrame cX2_aboutFrame 3 (some .int) :: ([.fieldLink RX2 15 "ProofMarks$Sheet" "how" "[I", .fieldLink RX2 18 "ProofMarks$Sheet" "ticks" "[I", .fieldLink RX2 21 "ProofMarks$Sheet" "crosses" "[I", .fieldLink RX2 24 "ProofMarks$Sheet" "dull" "[I", .fieldLink RX2 27 "ProofMarks$Sheet" "sizes" "[I", .fieldLink RX2 30 "ProofMarks$Sheet" "chosenIn" "[I", .methodLink RX2 74 yX2_isFrame, .static yX2_isFrame, .initialized RX2, .code yX2_isFrame cX2_isFrame 1 (some .boolean)] ++ wsX20)
def wsX2_aboutEditor_r1 : List Cond := [Cond.fieldLink RX2 33 "ProofMarks$Sheet" "points" "[I", Cond.fieldLink RX2 36 "ProofMarks$Sheet" "arguments" "[I", Cond.fieldLink RX2 39 "ProofMarks$Sheet" "lifted" "[I", Cond.fieldLink RX2 42 "ProofMarks$Sheet" "favourites" "[I", Cond.methodLink RX2 70 yX2_isEditor, Cond.static yX2_isEditor, Cond.initialized RX2, Cond.code yX2_isEditor cX2_isEditor 1 (some .boolean), Cond.methodLink RX2 100 yX2_marksOf, Cond.instanceMethod yX2_marksOf, Cond.selects RX2 yX2_marksOf yX2_marksOf, Cond.code yX2_marksOf cX2_marksOf 5 (some .int), Cond.methodLink RX2 77 yX2_markOf, Cond.instanceMethod yX2_markOf, Cond.selects RX2 yX2_markOf yX2_markOf, Cond.code yX2_markOf cX2_markOf 4 (some .int), Cond.fieldLink RX2 18 "ProofMarks$Sheet" "ticks" "[I", Cond.fieldLink RX2 21 "ProofMarks$Sheet" "crosses" "[I", Cond.methodLink RX2 81 yX2_vetoesLeft, Cond.instanceMethod yX2_vetoesLeft, Cond.selects RX2 yX2_vetoesLeft yX2_vetoesLeft, Cond.code yX2_vetoesLeft cX2_vetoesLeft 2 (some .int), Cond.fieldLink RX2 11 "ProofMarks$Sheet" "settings" "[I", Cond.methodLink RX2 138 Lib.Math.max.name]
def wsX2_aboutEditor_r2 : List Cond := [Cond.static Lib.Math.max.name, Cond.initialized "java/lang/Math", Cond.code Lib.Math.max.name Lib.Math.max.code 2 (some .int)]
def wsX2_aboutEditor : List Cond := .code yX2_aboutEditor cX2_aboutEditor 3 (some .int) :: ((wsX2_aboutEditor_r1 ++ wsX2_aboutEditor_r2) ++ wsX20)
def wsX2_isPicked : List Cond := .code yX2_isPicked cX2_isPicked 2 (some .boolean) :: ([.fieldLink RX2 15 "ProofMarks$Sheet" "how" "[I"] ++ wsX20)
def wsX2_chosenAt : List Cond := .code yX2_chosenAt cX2_chosenAt 5 (some .int) :: ([.fieldLink RX2 48 "ProofMarks$Sheet" "rounds" "I", .fieldLink RX2 30 "ProofMarks$Sheet" "chosenIn" "[I", .methodLink RX2 103 yX2_isPicked, .instanceMethod yX2_isPicked, .selects RX2 yX2_isPicked yX2_isPicked, .initialized RX2, .code yX2_isPicked cX2_isPicked 2 (some .boolean), .fieldLink RX2 15 "ProofMarks$Sheet" "how" "[I"] ++ wsX20)
def wsX2_framesThatAre : List Cond := .code yX2_framesThatAre cX2_framesThatAre 4 (some .int) :: ([.fieldLink RX2 15 "ProofMarks$Sheet" "how" "[I"] ++ wsX20)
def wsX2_longestRow : List Cond := .code yX2_longestRow cX2_longestRow 4 (some .int) :: ([.methodLink RX2 138 Lib.Math.max.name, .static Lib.Math.max.name, .initialized "java/lang/Math", .code Lib.Math.max.name Lib.Math.max.code 2 (some .int), .methodLink RX2 103 yX2_isPicked, .instanceMethod yX2_isPicked, .selects RX2 yX2_isPicked yX2_isPicked, .initialized RX2, .code yX2_isPicked cX2_isPicked 2 (some .boolean), .fieldLink RX2 15 "ProofMarks$Sheet" "how" "[I"] ++ wsX20)
def wsX2_numberOf : List Cond := .code yX2_numberOf cX2_numberOf 2 (some .int) :: ([.fieldLink RX2 48 "ProofMarks$Sheet" "rounds" "I", .fieldLink RX2 52 "ProofMarks$Sheet" "paper" "I", .fieldLink RX2 55 "ProofMarks$Sheet" "paperTaken" "I", .fieldLink RX2 45 "ProofMarks$Sheet" "prints" "[I", .fieldLink RX2 11 "ProofMarks$Sheet" "settings" "[I", .methodLink RX2 106 yX2_framesThatAre, .instanceMethod yX2_framesThatAre, .selects RX2 yX2_framesThatAre yX2_framesThatAre, .initialized RX2, .code yX2_framesThatAre cX2_framesThatAre 4 (some .int), .fieldLink RX2 15 "ProofMarks$Sheet" "how" "[I", .methodLink RX2 109 yX2_longestRow, .instanceMethod yX2_longestRow, .selects RX2 yX2_longestRow yX2_longestRow, .code yX2_longestRow cX2_longestRow 4 (some .int), .methodLink RX2 138 Lib.Math.max.name, .static Lib.Math.max.name, .initialized "java/lang/Math", .code Lib.Math.max.name Lib.Math.max.code 2 (some .int), .methodLink RX2 103 yX2_isPicked, .instanceMethod yX2_isPicked, .selects RX2 yX2_isPicked yX2_isPicked, .code yX2_isPicked cX2_isPicked 2 (some .boolean)] ++ wsX20)
def wsX2_whyNotChosen : List Cond := .code yX2_whyNotChosen cX2_whyNotChosen 2 (some .int) :: ([.fieldLink RX2 15 "ProofMarks$Sheet" "how" "[I", .fieldLink RX2 21 "ProofMarks$Sheet" "crosses" "[I", .fieldLink RX2 18 "ProofMarks$Sheet" "ticks" "[I", .methodLink RX2 74 yX2_isFrame, .static yX2_isFrame, .initialized RX2, .code yX2_isFrame cX2_isFrame 1 (some .boolean), .methodLink RX2 113 yX2_isWanted, .instanceMethod yX2_isWanted, .selects RX2 yX2_isWanted yX2_isWanted, .code yX2_isWanted cX2_isWanted 3 (some .boolean), .fieldLink RX2 11 "ProofMarks$Sheet" "settings" "[I", .methodLink RX2 133 yJ6_bitCount_0f7a4, .static yJ6_bitCount_0f7a4, .initialized RJ6, .code yJ6_bitCount_0f7a4 cJ6_bitCount_0f7a4 1 (some .int), .constant RJ6 265 (1431655765), .constant RJ6 266 (858993459), .constant RJ6 267 (252645135)] ++ wsX20)
def wsX2_framesThatBecome_r1 : List Cond := [Cond.fieldLink RX2 15 "ProofMarks$Sheet" "how" "[I", Cond.methodLink RX2 123 yX2_afterRound, Cond.instanceMethod yX2_afterRound, Cond.selects RX2 yX2_afterRound yX2_afterRound, Cond.initialized RX2, Cond.code yX2_afterRound cX2_afterRound 3 (some .int), Cond.fieldLink RX2 21 "ProofMarks$Sheet" "crosses" "[I", Cond.fieldLink RX2 18 "ProofMarks$Sheet" "ticks" "[I", Cond.fieldLink RX2 11 "ProofMarks$Sheet" "settings" "[I", Cond.methodLink RX2 133 yJ6_bitCount_0f7a4, Cond.static yJ6_bitCount_0f7a4, Cond.initialized RJ6, Cond.code yJ6_bitCount_0f7a4 cJ6_bitCount_0f7a4 1 (some .int), Cond.constant RJ6 265 (1431655765), Cond.constant RJ6 266 (858993459), Cond.constant RJ6 267 (252645135), Cond.methodLink RX2 113 yX2_isWanted, Cond.instanceMethod yX2_isWanted, Cond.selects RX2 yX2_isWanted yX2_isWanted, Cond.code yX2_isWanted cX2_isWanted 3 (some .boolean), Cond.methodLink RX2 130 yX2_dullAfterRound, Cond.instanceMethod yX2_dullAfterRound, Cond.selects RX2 yX2_dullAfterRound yX2_dullAfterRound, Cond.code yX2_dullAfterRound cX2_dullAfterRound 3 (some .int)]
def wsX2_framesThatBecome_r2 : List Cond := [Cond.fieldLink RX2 24 "ProofMarks$Sheet" "dull" "[I"]
def wsX2_framesThatBecome : List Cond := .code yX2_framesThatBecome cX2_framesThatBecome 4 (some .int) :: ((wsX2_framesThatBecome_r1 ++ wsX2_framesThatBecome_r2) ++ wsX20)
def wsX2_roundWouldBring_r1 : List Cond := [Cond.methodLink RX2 117 yX2_framesThatBecome, Cond.instanceMethod yX2_framesThatBecome, Cond.selects RX2 yX2_framesThatBecome yX2_framesThatBecome, Cond.initialized RX2, Cond.code yX2_framesThatBecome cX2_framesThatBecome 4 (some .int), Cond.fieldLink RX2 15 "ProofMarks$Sheet" "how" "[I", Cond.methodLink RX2 123 yX2_afterRound, Cond.instanceMethod yX2_afterRound, Cond.selects RX2 yX2_afterRound yX2_afterRound, Cond.code yX2_afterRound cX2_afterRound 3 (some .int), Cond.fieldLink RX2 21 "ProofMarks$Sheet" "crosses" "[I", Cond.fieldLink RX2 18 "ProofMarks$Sheet" "ticks" "[I", Cond.fieldLink RX2 11 "ProofMarks$Sheet" "settings" "[I", Cond.methodLink RX2 133 yJ6_bitCount_0f7a4, Cond.static yJ6_bitCount_0f7a4, Cond.initialized RJ6, Cond.code yJ6_bitCount_0f7a4 cJ6_bitCount_0f7a4 1 (some .int), Cond.constant RJ6 265 (1431655765), Cond.constant RJ6 266 (858993459), Cond.constant RJ6 267 (252645135), Cond.methodLink RX2 113 yX2_isWanted, Cond.instanceMethod yX2_isWanted, Cond.selects RX2 yX2_isWanted yX2_isWanted, Cond.code yX2_isWanted cX2_isWanted 3 (some .boolean)]
def wsX2_roundWouldBring_r2 : List Cond := [Cond.methodLink RX2 130 yX2_dullAfterRound, Cond.instanceMethod yX2_dullAfterRound, Cond.selects RX2 yX2_dullAfterRound yX2_dullAfterRound, Cond.code yX2_dullAfterRound cX2_dullAfterRound 3 (some .int), Cond.fieldLink RX2 24 "ProofMarks$Sheet" "dull" "[I"]
def wsX2_roundWouldBring : List Cond := .code yX2_roundWouldBring cX2_roundWouldBring 2 (some .int) :: ((wsX2_roundWouldBring_r1 ++ wsX2_roundWouldBring_r2) ++ wsX20)
def wsX2_markDecides : List Cond := .code yX2_markDecides cX2_markDecides 7 (some .boolean) :: ([.fieldLink RX2 18 "ProofMarks$Sheet" "ticks" "[I", .fieldLink RX2 21 "ProofMarks$Sheet" "crosses" "[I", .methodLink RX2 113 yX2_isWanted, .instanceMethod yX2_isWanted, .selects RX2 yX2_isWanted yX2_isWanted, .initialized RX2, .code yX2_isWanted cX2_isWanted 3 (some .boolean), .fieldLink RX2 11 "ProofMarks$Sheet" "settings" "[I", .methodLink RX2 133 yJ6_bitCount_0f7a4, .static yJ6_bitCount_0f7a4, .initialized RJ6, .code yJ6_bitCount_0f7a4 cJ6_bitCount_0f7a4 1 (some .int), .constant RJ6 265 (1431655765), .constant RJ6 266 (858993459), .constant RJ6 267 (252645135), .methodLink RX2 85 yX2_withEditor, .static yX2_withEditor, .code yX2_withEditor cX2_withEditor 4 (some .int)] ++ wsX20)
def wsX2_deciders_r1 : List Cond := [Cond.fieldLink RX2 15 "ProofMarks$Sheet" "how" "[I", Cond.methodLink RX2 74 yX2_isFrame, Cond.static yX2_isFrame, Cond.initialized RX2, Cond.code yX2_isFrame cX2_isFrame 1 (some .boolean), Cond.methodLink RX2 120 yX2_markDecides, Cond.instanceMethod yX2_markDecides, Cond.selects RX2 yX2_markDecides yX2_markDecides, Cond.code yX2_markDecides cX2_markDecides 7 (some .boolean), Cond.fieldLink RX2 18 "ProofMarks$Sheet" "ticks" "[I", Cond.fieldLink RX2 21 "ProofMarks$Sheet" "crosses" "[I", Cond.methodLink RX2 113 yX2_isWanted, Cond.instanceMethod yX2_isWanted, Cond.selects RX2 yX2_isWanted yX2_isWanted, Cond.code yX2_isWanted cX2_isWanted 3 (some .boolean), Cond.fieldLink RX2 11 "ProofMarks$Sheet" "settings" "[I", Cond.methodLink RX2 133 yJ6_bitCount_0f7a4, Cond.static yJ6_bitCount_0f7a4, Cond.initialized RJ6, Cond.code yJ6_bitCount_0f7a4 cJ6_bitCount_0f7a4 1 (some .int), Cond.constant RJ6 265 (1431655765), Cond.constant RJ6 266 (858993459), Cond.constant RJ6 267 (252645135), Cond.methodLink RX2 85 yX2_withEditor]
def wsX2_deciders_r2 : List Cond := [Cond.static yX2_withEditor, Cond.code yX2_withEditor cX2_withEditor 4 (some .int)]
def wsX2_deciders : List Cond := .code yX2_deciders cX2_deciders 4 (some .int) :: ((wsX2_deciders_r1 ++ wsX2_deciders_r2) ++ wsX20)
def wsX2_agreement : List Cond := .code yX2_agreement cX2_agreement 8 (some .int) :: ([.methodLink RX2 70 yX2_isEditor, .static yX2_isEditor, .initialized RX2, .code yX2_isEditor cX2_isEditor 1 (some .boolean), .methodLink RX2 77 yX2_markOf, .instanceMethod yX2_markOf, .selects RX2 yX2_markOf yX2_markOf, .code yX2_markOf cX2_markOf 4 (some .int), .fieldLink RX2 18 "ProofMarks$Sheet" "ticks" "[I", .fieldLink RX2 21 "ProofMarks$Sheet" "crosses" "[I"] ++ wsX20)
def wsX2_paperForChosen : List Cond := .code yX2_paperForChosen cX2_paperForChosen 3 (some .int) :: ([.fieldLink RX2 15 "ProofMarks$Sheet" "how" "[I", .fieldLink RX2 27 "ProofMarks$Sheet" "sizes" "[I", .methodLink RX2 97 yX2_paperOf, .static yX2_paperOf, .initialized RX2, .code yX2_paperOf cX2_paperOf 1 (some .int)] ++ wsX20)
def wsX3_init_r1 : List Cond := [Cond.methodLink RX3 1 objectInit, Cond.instanceMethod objectInit, Cond.code objectInit ⟨#[0xb1]⟩ 1 none, Cond.classLink RX3 7 RX2, Cond.instantiable RX2 15, Cond.initialized RX2, Cond.fieldLink RX3 10 "ProofMarks" "sheet" "LProofMarks$Sheet;", Cond.classLink RX3 16 RX0, Cond.instantiable RX0 2, Cond.initialized RX0, Cond.fieldLink RX3 19 "ProofMarks" "history" "LProofMarks$History;", Cond.classLink RX3 23 RX1, Cond.instantiable RX1 8, Cond.initialized RX1, Cond.fieldLink RX3 26 "ProofMarks" "pad" "LProofMarks$Pad;", Cond.fieldLink RX3 30 "ProofMarks" "slots" "[LProofMarks$Sheet;", Cond.arrayClass .boolean, Cond.fieldLink RX3 34 "ProofMarks" "saved" "[Z", Cond.methodLink RX3 9 yX2_init, Cond.instanceMethod yX2_init, Cond.code yX2_init cX2_init 2 none, Cond.methodLink RX2 5 objectInit, Cond.arrayClass .int, Cond.fieldLink RX2 11 "ProofMarks$Sheet" "settings" "[I"]
def wsX3_init_r2 : List Cond := [Cond.fieldLink RX2 15 "ProofMarks$Sheet" "how" "[I", Cond.fieldLink RX2 18 "ProofMarks$Sheet" "ticks" "[I", Cond.fieldLink RX2 21 "ProofMarks$Sheet" "crosses" "[I", Cond.fieldLink RX2 24 "ProofMarks$Sheet" "dull" "[I", Cond.fieldLink RX2 27 "ProofMarks$Sheet" "sizes" "[I", Cond.fieldLink RX2 30 "ProofMarks$Sheet" "chosenIn" "[I", Cond.fieldLink RX2 33 "ProofMarks$Sheet" "points" "[I", Cond.fieldLink RX2 36 "ProofMarks$Sheet" "arguments" "[I", Cond.fieldLink RX2 39 "ProofMarks$Sheet" "lifted" "[I", Cond.fieldLink RX2 42 "ProofMarks$Sheet" "favourites" "[I", Cond.fieldLink RX2 45 "ProofMarks$Sheet" "prints" "[I", Cond.fieldLink RX2 48 "ProofMarks$Sheet" "rounds" "I", Cond.fieldLink RX2 52 "ProofMarks$Sheet" "paper" "I", Cond.fieldLink RX2 55 "ProofMarks$Sheet" "paperTaken" "I", Cond.methodLink RX3 18 yX0_init, Cond.instanceMethod yX0_init, Cond.code yX0_init cX0_init 2 none, Cond.methodLink RX0 1 objectInit, Cond.classLink RX0 9 RX2, Cond.fieldLink RX0 11 "ProofMarks$History" "states" "[LProofMarks$Sheet;", Cond.fieldLink RX0 15 "ProofMarks$History" "kept" "I", Cond.methodLink RX0 19 yX2_init, Cond.instanceMethod yX1_init, Cond.code yX1_init cX1_init 1 none]
def wsX3_init_r3 : List Cond := [Cond.methodLink RX1 3 objectInit, Cond.arrayClass .char, Cond.fieldLink RX1 11 "ProofMarks$Pad" "signs" "[C", Cond.fieldLink RX1 15 "ProofMarks$Pad" "length" "I", Cond.fieldLink RX1 19 "ProofMarks$Pad" "at" "I", Cond.fieldLink RX1 22 "ProofMarks$Pad" "order" "C", Cond.fieldLink RX1 26 "ProofMarks$Pad" "editor" "I", Cond.fieldLink RX1 29 "ProofMarks$Pad" "other" "I", Cond.fieldLink RX1 32 "ProofMarks$Pad" "number" "I", Cond.fieldLink RX1 35 "ProofMarks$Pad" "size" "I"]
def wsX3_init : List Cond := .code yX3_init cX3_init 2 none :: ((wsX3_init_r1 ++ (wsX3_init_r2 ++ wsX3_init_r3)) ++ wsX20 ++ wsX30 ++ wsX00 ++ wsX10)
def wsX3_recorded : List Cond := .code yX3_recorded cX3_recorded 2 (some .int) :: ([.fieldLink RX3 19 "ProofMarks" "history" "LProofMarks$History;", .methodLink RX3 130 yX0_keep, .instanceMethod yX0_keep, .selects RX0 yX0_keep yX0_keep, .initialized RX0, .code yX0_keep cX0_keep 3 none, .fieldLink RX0 15 "ProofMarks$History" "kept" "I", .fieldLink RX0 11 "ProofMarks$History" "states" "[LProofMarks$Sheet;"] ++ wsX30 ++ wsX00)
def wsX3_set_r1 : List Cond := [Cond.fieldLink RX3 19 "ProofMarks" "history" "LProofMarks$History;", Cond.fieldLink RX3 10 "ProofMarks" "sheet" "LProofMarks$Sheet;", Cond.methodLink RX3 38 yX0_note, Cond.instanceMethod yX0_note, Cond.selects RX0 yX0_note yX0_note, Cond.initialized RX0, Cond.code yX0_note cX0_note 2 none, Cond.fieldLink RX0 11 "ProofMarks$History" "states" "[LProofMarks$Sheet;", Cond.fieldLink RX0 15 "ProofMarks$History" "kept" "I", Cond.methodLink RX0 20 yX2_takeOver, Cond.instanceMethod yX2_takeOver, Cond.selects RX2 yX2_takeOver yX2_takeOver, Cond.initialized RX2, Cond.code yX2_takeOver cX2_takeOver 2 none, Cond.fieldLink RX2 11 "ProofMarks$Sheet" "settings" "[I", Cond.methodLink RX2 58 arraycopyName, Cond.native arraycopyName, Cond.static arraycopyName, Cond.initialized "java/lang/System", Cond.fieldLink RX2 15 "ProofMarks$Sheet" "how" "[I", Cond.fieldLink RX2 18 "ProofMarks$Sheet" "ticks" "[I", Cond.fieldLink RX2 21 "ProofMarks$Sheet" "crosses" "[I", Cond.fieldLink RX2 24 "ProofMarks$Sheet" "dull" "[I", Cond.fieldLink RX2 27 "ProofMarks$Sheet" "sizes" "[I"]
def wsX3_set_r2 : List Cond := [Cond.fieldLink RX2 30 "ProofMarks$Sheet" "chosenIn" "[I", Cond.fieldLink RX2 33 "ProofMarks$Sheet" "points" "[I", Cond.fieldLink RX2 36 "ProofMarks$Sheet" "arguments" "[I", Cond.fieldLink RX2 39 "ProofMarks$Sheet" "lifted" "[I", Cond.fieldLink RX2 42 "ProofMarks$Sheet" "favourites" "[I", Cond.fieldLink RX2 45 "ProofMarks$Sheet" "prints" "[I", Cond.fieldLink RX2 48 "ProofMarks$Sheet" "rounds" "I", Cond.fieldLink RX2 52 "ProofMarks$Sheet" "paper" "I", Cond.fieldLink RX2 55 "ProofMarks$Sheet" "paperTaken" "I", Cond.methodLink RX3 42 yX2_changeSetting, Cond.instanceMethod yX2_changeSetting, Cond.selects RX2 yX2_changeSetting yX2_changeSetting, Cond.code yX2_changeSetting cX2_changeSetting 4 (some .int), Cond.fieldLink RX2 64 "ProofMarks$Sheet" "LEAST_VALUES" "[I", Cond.fieldLink RX2 67 "ProofMarks$Sheet" "MOST_VALUES" "[I", Cond.methodLink RX3 46 yX3_recorded, Cond.instanceMethod yX3_recorded, Cond.selects RX3 yX3_recorded yX3_recorded, Cond.initialized RX3, Cond.code yX3_recorded cX3_recorded 2 (some .int), Cond.methodLink RX3 130 yX0_keep, Cond.instanceMethod yX0_keep, Cond.selects RX0 yX0_keep yX0_keep, Cond.code yX0_keep cX0_keep 3 none]
def wsX3_set : List Cond := .code yX3_set cX3_set 3 (some .int) :: ((wsX3_set_r1 ++ wsX3_set_r2) ++ wsX30 ++ wsX00 ++ wsX20)
def wsX3_mark_r1 : List Cond := [Cond.fieldLink RX3 19 "ProofMarks" "history" "LProofMarks$History;", Cond.fieldLink RX3 10 "ProofMarks" "sheet" "LProofMarks$Sheet;", Cond.methodLink RX3 38 yX0_note, Cond.instanceMethod yX0_note, Cond.selects RX0 yX0_note yX0_note, Cond.initialized RX0, Cond.code yX0_note cX0_note 2 none, Cond.fieldLink RX0 11 "ProofMarks$History" "states" "[LProofMarks$Sheet;", Cond.fieldLink RX0 15 "ProofMarks$History" "kept" "I", Cond.methodLink RX0 20 yX2_takeOver, Cond.instanceMethod yX2_takeOver, Cond.selects RX2 yX2_takeOver yX2_takeOver, Cond.initialized RX2, Cond.code yX2_takeOver cX2_takeOver 2 none, Cond.fieldLink RX2 11 "ProofMarks$Sheet" "settings" "[I", Cond.methodLink RX2 58 arraycopyName, Cond.native arraycopyName, Cond.static arraycopyName, Cond.initialized "java/lang/System", Cond.fieldLink RX2 15 "ProofMarks$Sheet" "how" "[I", Cond.fieldLink RX2 18 "ProofMarks$Sheet" "ticks" "[I", Cond.fieldLink RX2 21 "ProofMarks$Sheet" "crosses" "[I", Cond.fieldLink RX2 24 "ProofMarks$Sheet" "dull" "[I", Cond.fieldLink RX2 27 "ProofMarks$Sheet" "sizes" "[I"]
def wsX3_mark_r2 : List Cond := [Cond.fieldLink RX2 30 "ProofMarks$Sheet" "chosenIn" "[I", Cond.fieldLink RX2 33 "ProofMarks$Sheet" "points" "[I", Cond.fieldLink RX2 36 "ProofMarks$Sheet" "arguments" "[I", Cond.fieldLink RX2 39 "ProofMarks$Sheet" "lifted" "[I", Cond.fieldLink RX2 42 "ProofMarks$Sheet" "favourites" "[I", Cond.fieldLink RX2 45 "ProofMarks$Sheet" "prints" "[I", Cond.fieldLink RX2 48 "ProofMarks$Sheet" "rounds" "I", Cond.fieldLink RX2 52 "ProofMarks$Sheet" "paper" "I", Cond.fieldLink RX2 55 "ProofMarks$Sheet" "paperTaken" "I", Cond.methodLink RX3 50 yX2_putMark, Cond.instanceMethod yX2_putMark, Cond.selects RX2 yX2_putMark yX2_putMark, Cond.code yX2_putMark cX2_putMark 5 (some .int), Cond.methodLink RX2 70 yX2_isEditor, Cond.static yX2_isEditor, Cond.code yX2_isEditor cX2_isEditor 1 (some .boolean), Cond.methodLink RX2 74 yX2_isFrame, Cond.static yX2_isFrame, Cond.code yX2_isFrame cX2_isFrame 1 (some .boolean), Cond.methodLink RX2 77 yX2_markOf, Cond.instanceMethod yX2_markOf, Cond.selects RX2 yX2_markOf yX2_markOf, Cond.code yX2_markOf cX2_markOf 4 (some .int), Cond.methodLink RX2 81 yX2_vetoesLeft]
def wsX3_mark_r3 : List Cond := [Cond.instanceMethod yX2_vetoesLeft, Cond.selects RX2 yX2_vetoesLeft yX2_vetoesLeft, Cond.code yX2_vetoesLeft cX2_vetoesLeft 2 (some .int), Cond.methodLink RX2 138 Lib.Math.max.name, Cond.static Lib.Math.max.name, Cond.initialized "java/lang/Math", Cond.code Lib.Math.max.name Lib.Math.max.code 2 (some .int), Cond.methodLink RX2 100 yX2_marksOf, Cond.instanceMethod yX2_marksOf, Cond.selects RX2 yX2_marksOf yX2_marksOf, Cond.code yX2_marksOf cX2_marksOf 5 (some .int), Cond.methodLink RX2 85 yX2_withEditor, Cond.static yX2_withEditor, Cond.code yX2_withEditor cX2_withEditor 4 (some .int), Cond.methodLink RX3 46 yX3_recorded, Cond.instanceMethod yX3_recorded, Cond.selects RX3 yX3_recorded yX3_recorded, Cond.initialized RX3, Cond.code yX3_recorded cX3_recorded 2 (some .int), Cond.methodLink RX3 130 yX0_keep, Cond.instanceMethod yX0_keep, Cond.selects RX0 yX0_keep yX0_keep, Cond.code yX0_keep cX0_keep 3 none]
def wsX3_mark : List Cond := .code yX3_mark cX3_mark 4 (some .int) :: ((wsX3_mark_r1 ++ (wsX3_mark_r2 ++ wsX3_mark_r3)) ++ wsX30 ++ wsX00 ++ wsX20)
def wsX3_argue_r1 : List Cond := [Cond.fieldLink RX3 19 "ProofMarks" "history" "LProofMarks$History;", Cond.fieldLink RX3 10 "ProofMarks" "sheet" "LProofMarks$Sheet;", Cond.methodLink RX3 38 yX0_note, Cond.instanceMethod yX0_note, Cond.selects RX0 yX0_note yX0_note, Cond.initialized RX0, Cond.code yX0_note cX0_note 2 none, Cond.fieldLink RX0 11 "ProofMarks$History" "states" "[LProofMarks$Sheet;", Cond.fieldLink RX0 15 "ProofMarks$History" "kept" "I", Cond.methodLink RX0 20 yX2_takeOver, Cond.instanceMethod yX2_takeOver, Cond.selects RX2 yX2_takeOver yX2_takeOver, Cond.initialized RX2, Cond.code yX2_takeOver cX2_takeOver 2 none, Cond.fieldLink RX2 11 "ProofMarks$Sheet" "settings" "[I", Cond.methodLink RX2 58 arraycopyName, Cond.native arraycopyName, Cond.static arraycopyName, Cond.initialized "java/lang/System", Cond.fieldLink RX2 15 "ProofMarks$Sheet" "how" "[I", Cond.fieldLink RX2 18 "ProofMarks$Sheet" "ticks" "[I", Cond.fieldLink RX2 21 "ProofMarks$Sheet" "crosses" "[I", Cond.fieldLink RX2 24 "ProofMarks$Sheet" "dull" "[I", Cond.fieldLink RX2 27 "ProofMarks$Sheet" "sizes" "[I"]
def wsX3_argue_r2 : List Cond := [Cond.fieldLink RX2 30 "ProofMarks$Sheet" "chosenIn" "[I", Cond.fieldLink RX2 33 "ProofMarks$Sheet" "points" "[I", Cond.fieldLink RX2 36 "ProofMarks$Sheet" "arguments" "[I", Cond.fieldLink RX2 39 "ProofMarks$Sheet" "lifted" "[I", Cond.fieldLink RX2 42 "ProofMarks$Sheet" "favourites" "[I", Cond.fieldLink RX2 45 "ProofMarks$Sheet" "prints" "[I", Cond.fieldLink RX2 48 "ProofMarks$Sheet" "rounds" "I", Cond.fieldLink RX2 52 "ProofMarks$Sheet" "paper" "I", Cond.fieldLink RX2 55 "ProofMarks$Sheet" "paperTaken" "I", Cond.methodLink RX3 54 yX2_argueAgainst, Cond.instanceMethod yX2_argueAgainst, Cond.selects RX2 yX2_argueAgainst yX2_argueAgainst, Cond.code yX2_argueAgainst cX2_argueAgainst 5 (some .int), Cond.methodLink RX2 70 yX2_isEditor, Cond.static yX2_isEditor, Cond.code yX2_isEditor cX2_isEditor 1 (some .boolean), Cond.methodLink RX2 74 yX2_isFrame, Cond.static yX2_isFrame, Cond.code yX2_isFrame cX2_isFrame 1 (some .boolean), Cond.methodLink RX2 77 yX2_markOf, Cond.instanceMethod yX2_markOf, Cond.selects RX2 yX2_markOf yX2_markOf, Cond.code yX2_markOf cX2_markOf 4 (some .int), Cond.methodLink RX2 85 yX2_withEditor]
def wsX3_argue_r3 : List Cond := [Cond.static yX2_withEditor, Cond.code yX2_withEditor cX2_withEditor 4 (some .int), Cond.methodLink RX3 46 yX3_recorded, Cond.instanceMethod yX3_recorded, Cond.selects RX3 yX3_recorded yX3_recorded, Cond.initialized RX3, Cond.code yX3_recorded cX3_recorded 2 (some .int), Cond.methodLink RX3 130 yX0_keep, Cond.instanceMethod yX0_keep, Cond.selects RX0 yX0_keep yX0_keep, Cond.code yX0_keep cX0_keep 3 none]
def wsX3_argue : List Cond := .code yX3_argue cX3_argue 4 (some .int) :: ((wsX3_argue_r1 ++ (wsX3_argue_r2 ++ wsX3_argue_r3)) ++ wsX30 ++ wsX00 ++ wsX20)
def wsX3_round_r1 : List Cond := [Cond.fieldLink RX3 19 "ProofMarks" "history" "LProofMarks$History;", Cond.fieldLink RX3 10 "ProofMarks" "sheet" "LProofMarks$Sheet;", Cond.methodLink RX3 38 yX0_note, Cond.instanceMethod yX0_note, Cond.selects RX0 yX0_note yX0_note, Cond.initialized RX0, Cond.code yX0_note cX0_note 2 none, Cond.fieldLink RX0 11 "ProofMarks$History" "states" "[LProofMarks$Sheet;", Cond.fieldLink RX0 15 "ProofMarks$History" "kept" "I", Cond.methodLink RX0 20 yX2_takeOver, Cond.instanceMethod yX2_takeOver, Cond.selects RX2 yX2_takeOver yX2_takeOver, Cond.initialized RX2, Cond.code yX2_takeOver cX2_takeOver 2 none, Cond.fieldLink RX2 11 "ProofMarks$Sheet" "settings" "[I", Cond.methodLink RX2 58 arraycopyName, Cond.native arraycopyName, Cond.static arraycopyName, Cond.initialized "java/lang/System", Cond.fieldLink RX2 15 "ProofMarks$Sheet" "how" "[I", Cond.fieldLink RX2 18 "ProofMarks$Sheet" "ticks" "[I", Cond.fieldLink RX2 21 "ProofMarks$Sheet" "crosses" "[I", Cond.fieldLink RX2 24 "ProofMarks$Sheet" "dull" "[I", Cond.fieldLink RX2 27 "ProofMarks$Sheet" "sizes" "[I"]
def wsX3_round_r2 : List Cond := [Cond.fieldLink RX2 30 "ProofMarks$Sheet" "chosenIn" "[I", Cond.fieldLink RX2 33 "ProofMarks$Sheet" "points" "[I", Cond.fieldLink RX2 36 "ProofMarks$Sheet" "arguments" "[I", Cond.fieldLink RX2 39 "ProofMarks$Sheet" "lifted" "[I", Cond.fieldLink RX2 42 "ProofMarks$Sheet" "favourites" "[I", Cond.fieldLink RX2 45 "ProofMarks$Sheet" "prints" "[I", Cond.fieldLink RX2 48 "ProofMarks$Sheet" "rounds" "I", Cond.fieldLink RX2 52 "ProofMarks$Sheet" "paper" "I", Cond.fieldLink RX2 55 "ProofMarks$Sheet" "paperTaken" "I", Cond.methodLink RX3 57 yX2_endRound, Cond.instanceMethod yX2_endRound, Cond.selects RX2 yX2_endRound yX2_endRound, Cond.code yX2_endRound cX2_endRound 3 (some .int), Cond.methodLink RX2 92 Lib.Math.min.name, Cond.static Lib.Math.min.name, Cond.initialized "java/lang/Math", Cond.code Lib.Math.min.name Lib.Math.min.code 2 (some .int), Cond.methodLink RX2 89 yX2_settle, Cond.instanceMethod yX2_settle, Cond.selects RX2 yX2_settle yX2_settle, Cond.code yX2_settle cX2_settle 3 (some .int), Cond.methodLink RX2 123 yX2_afterRound, Cond.instanceMethod yX2_afterRound, Cond.selects RX2 yX2_afterRound yX2_afterRound]
def wsX3_round_r3 : List Cond := [Cond.code yX2_afterRound cX2_afterRound 3 (some .int), Cond.methodLink RX2 133 yJ6_bitCount_0f7a4, Cond.static yJ6_bitCount_0f7a4, Cond.initialized RJ6, Cond.code yJ6_bitCount_0f7a4 cJ6_bitCount_0f7a4 1 (some .int), Cond.constant RJ6 265 (1431655765), Cond.constant RJ6 266 (858993459), Cond.constant RJ6 267 (252645135), Cond.methodLink RX2 113 yX2_isWanted, Cond.instanceMethod yX2_isWanted, Cond.selects RX2 yX2_isWanted yX2_isWanted, Cond.code yX2_isWanted cX2_isWanted 3 (some .boolean), Cond.methodLink RX2 130 yX2_dullAfterRound, Cond.instanceMethod yX2_dullAfterRound, Cond.selects RX2 yX2_dullAfterRound yX2_dullAfterRound, Cond.code yX2_dullAfterRound cX2_dullAfterRound 3 (some .int), Cond.methodLink RX2 126 yX2_noteChoice, Cond.instanceMethod yX2_noteChoice, Cond.selects RX2 yX2_noteChoice yX2_noteChoice, Cond.code yX2_noteChoice cX2_noteChoice 3 none, Cond.methodLink RX2 77 yX2_markOf, Cond.instanceMethod yX2_markOf, Cond.selects RX2 yX2_markOf yX2_markOf, Cond.code yX2_markOf cX2_markOf 4 (some .int)]
def wsX3_round_r4 : List Cond := [Cond.methodLink RX3 46 yX3_recorded, Cond.instanceMethod yX3_recorded, Cond.selects RX3 yX3_recorded yX3_recorded, Cond.initialized RX3, Cond.code yX3_recorded cX3_recorded 2 (some .int), Cond.methodLink RX3 130 yX0_keep, Cond.instanceMethod yX0_keep, Cond.selects RX0 yX0_keep yX0_keep, Cond.code yX0_keep cX0_keep 3 none]
def wsX3_round : List Cond := .code yX3_round cX3_round 1 (some .int) :: ((wsX3_round_r1 ++ (wsX3_round_r2 ++ (wsX3_round_r3 ++ wsX3_round_r4))) ++ wsX30 ++ wsX00 ++ wsX20)
def wsX3_print_r1 : List Cond := [Cond.fieldLink RX3 19 "ProofMarks" "history" "LProofMarks$History;", Cond.fieldLink RX3 10 "ProofMarks" "sheet" "LProofMarks$Sheet;", Cond.methodLink RX3 38 yX0_note, Cond.instanceMethod yX0_note, Cond.selects RX0 yX0_note yX0_note, Cond.initialized RX0, Cond.code yX0_note cX0_note 2 none, Cond.fieldLink RX0 11 "ProofMarks$History" "states" "[LProofMarks$Sheet;", Cond.fieldLink RX0 15 "ProofMarks$History" "kept" "I", Cond.methodLink RX0 20 yX2_takeOver, Cond.instanceMethod yX2_takeOver, Cond.selects RX2 yX2_takeOver yX2_takeOver, Cond.initialized RX2, Cond.code yX2_takeOver cX2_takeOver 2 none, Cond.fieldLink RX2 11 "ProofMarks$Sheet" "settings" "[I", Cond.methodLink RX2 58 arraycopyName, Cond.native arraycopyName, Cond.static arraycopyName, Cond.initialized "java/lang/System", Cond.fieldLink RX2 15 "ProofMarks$Sheet" "how" "[I", Cond.fieldLink RX2 18 "ProofMarks$Sheet" "ticks" "[I", Cond.fieldLink RX2 21 "ProofMarks$Sheet" "crosses" "[I", Cond.fieldLink RX2 24 "ProofMarks$Sheet" "dull" "[I", Cond.fieldLink RX2 27 "ProofMarks$Sheet" "sizes" "[I"]
def wsX3_print_r2 : List Cond := [Cond.fieldLink RX2 30 "ProofMarks$Sheet" "chosenIn" "[I", Cond.fieldLink RX2 33 "ProofMarks$Sheet" "points" "[I", Cond.fieldLink RX2 36 "ProofMarks$Sheet" "arguments" "[I", Cond.fieldLink RX2 39 "ProofMarks$Sheet" "lifted" "[I", Cond.fieldLink RX2 42 "ProofMarks$Sheet" "favourites" "[I", Cond.fieldLink RX2 45 "ProofMarks$Sheet" "prints" "[I", Cond.fieldLink RX2 48 "ProofMarks$Sheet" "rounds" "I", Cond.fieldLink RX2 52 "ProofMarks$Sheet" "paper" "I", Cond.fieldLink RX2 55 "ProofMarks$Sheet" "paperTaken" "I", Cond.methodLink RX3 61 yX2_printFrame, Cond.instanceMethod yX2_printFrame, Cond.selects RX2 yX2_printFrame yX2_printFrame, Cond.code yX2_printFrame cX2_printFrame 4 (some .int), Cond.methodLink RX2 74 yX2_isFrame, Cond.static yX2_isFrame, Cond.code yX2_isFrame cX2_isFrame 1 (some .boolean), Cond.methodLink RX2 97 yX2_paperOf, Cond.static yX2_paperOf, Cond.code yX2_paperOf cX2_paperOf 1 (some .int), Cond.methodLink RX3 46 yX3_recorded, Cond.instanceMethod yX3_recorded, Cond.selects RX3 yX3_recorded yX3_recorded, Cond.initialized RX3, Cond.code yX3_recorded cX3_recorded 2 (some .int)]
def wsX3_print_r3 : List Cond := [Cond.methodLink RX3 130 yX0_keep, Cond.instanceMethod yX0_keep, Cond.selects RX0 yX0_keep yX0_keep, Cond.code yX0_keep cX0_keep 3 none]
def wsX3_print : List Cond := .code yX3_print cX3_print 3 (some .int) :: ((wsX3_print_r1 ++ (wsX3_print_r2 ++ wsX3_print_r3)) ++ wsX30 ++ wsX00 ++ wsX20)
def wsX3_buy_r1 : List Cond := [Cond.fieldLink RX3 19 "ProofMarks" "history" "LProofMarks$History;", Cond.fieldLink RX3 10 "ProofMarks" "sheet" "LProofMarks$Sheet;", Cond.methodLink RX3 38 yX0_note, Cond.instanceMethod yX0_note, Cond.selects RX0 yX0_note yX0_note, Cond.initialized RX0, Cond.code yX0_note cX0_note 2 none, Cond.fieldLink RX0 11 "ProofMarks$History" "states" "[LProofMarks$Sheet;", Cond.fieldLink RX0 15 "ProofMarks$History" "kept" "I", Cond.methodLink RX0 20 yX2_takeOver, Cond.instanceMethod yX2_takeOver, Cond.selects RX2 yX2_takeOver yX2_takeOver, Cond.initialized RX2, Cond.code yX2_takeOver cX2_takeOver 2 none, Cond.fieldLink RX2 11 "ProofMarks$Sheet" "settings" "[I", Cond.methodLink RX2 58 arraycopyName, Cond.native arraycopyName, Cond.static arraycopyName, Cond.initialized "java/lang/System", Cond.fieldLink RX2 15 "ProofMarks$Sheet" "how" "[I", Cond.fieldLink RX2 18 "ProofMarks$Sheet" "ticks" "[I", Cond.fieldLink RX2 21 "ProofMarks$Sheet" "crosses" "[I", Cond.fieldLink RX2 24 "ProofMarks$Sheet" "dull" "[I", Cond.fieldLink RX2 27 "ProofMarks$Sheet" "sizes" "[I"]
def wsX3_buy_r2 : List Cond := [Cond.fieldLink RX2 30 "ProofMarks$Sheet" "chosenIn" "[I", Cond.fieldLink RX2 33 "ProofMarks$Sheet" "points" "[I", Cond.fieldLink RX2 36 "ProofMarks$Sheet" "arguments" "[I", Cond.fieldLink RX2 39 "ProofMarks$Sheet" "lifted" "[I", Cond.fieldLink RX2 42 "ProofMarks$Sheet" "favourites" "[I", Cond.fieldLink RX2 45 "ProofMarks$Sheet" "prints" "[I", Cond.fieldLink RX2 48 "ProofMarks$Sheet" "rounds" "I", Cond.fieldLink RX2 52 "ProofMarks$Sheet" "paper" "I", Cond.fieldLink RX2 55 "ProofMarks$Sheet" "paperTaken" "I", Cond.methodLink RX3 64 yX2_addPaper, Cond.instanceMethod yX2_addPaper, Cond.selects RX2 yX2_addPaper yX2_addPaper, Cond.code yX2_addPaper cX2_addPaper 2 (some .int), Cond.methodLink RX2 92 Lib.Math.min.name, Cond.static Lib.Math.min.name, Cond.initialized "java/lang/Math", Cond.code Lib.Math.min.name Lib.Math.min.code 2 (some .int), Cond.methodLink RX3 46 yX3_recorded, Cond.instanceMethod yX3_recorded, Cond.selects RX3 yX3_recorded yX3_recorded, Cond.initialized RX3, Cond.code yX3_recorded cX3_recorded 2 (some .int), Cond.methodLink RX3 130 yX0_keep, Cond.instanceMethod yX0_keep]
def wsX3_buy_r3 : List Cond := [Cond.selects RX0 yX0_keep yX0_keep, Cond.code yX0_keep cX0_keep 3 none]
def wsX3_buy : List Cond := .code yX3_buy cX3_buy 2 (some .int) :: ((wsX3_buy_r1 ++ (wsX3_buy_r2 ++ wsX3_buy_r3)) ++ wsX30 ++ wsX00 ++ wsX20)
def wsX3_reopen_r1 : List Cond := [Cond.fieldLink RX3 19 "ProofMarks" "history" "LProofMarks$History;", Cond.fieldLink RX3 10 "ProofMarks" "sheet" "LProofMarks$Sheet;", Cond.methodLink RX3 38 yX0_note, Cond.instanceMethod yX0_note, Cond.selects RX0 yX0_note yX0_note, Cond.initialized RX0, Cond.code yX0_note cX0_note 2 none, Cond.fieldLink RX0 11 "ProofMarks$History" "states" "[LProofMarks$Sheet;", Cond.fieldLink RX0 15 "ProofMarks$History" "kept" "I", Cond.methodLink RX0 20 yX2_takeOver, Cond.instanceMethod yX2_takeOver, Cond.selects RX2 yX2_takeOver yX2_takeOver, Cond.initialized RX2, Cond.code yX2_takeOver cX2_takeOver 2 none, Cond.fieldLink RX2 11 "ProofMarks$Sheet" "settings" "[I", Cond.methodLink RX2 58 arraycopyName, Cond.native arraycopyName, Cond.static arraycopyName, Cond.initialized "java/lang/System", Cond.fieldLink RX2 15 "ProofMarks$Sheet" "how" "[I", Cond.fieldLink RX2 18 "ProofMarks$Sheet" "ticks" "[I", Cond.fieldLink RX2 21 "ProofMarks$Sheet" "crosses" "[I", Cond.fieldLink RX2 24 "ProofMarks$Sheet" "dull" "[I", Cond.fieldLink RX2 27 "ProofMarks$Sheet" "sizes" "[I"]
def wsX3_reopen_r2 : List Cond := [Cond.fieldLink RX2 30 "ProofMarks$Sheet" "chosenIn" "[I", Cond.fieldLink RX2 33 "ProofMarks$Sheet" "points" "[I", Cond.fieldLink RX2 36 "ProofMarks$Sheet" "arguments" "[I", Cond.fieldLink RX2 39 "ProofMarks$Sheet" "lifted" "[I", Cond.fieldLink RX2 42 "ProofMarks$Sheet" "favourites" "[I", Cond.fieldLink RX2 45 "ProofMarks$Sheet" "prints" "[I", Cond.fieldLink RX2 48 "ProofMarks$Sheet" "rounds" "I", Cond.fieldLink RX2 52 "ProofMarks$Sheet" "paper" "I", Cond.fieldLink RX2 55 "ProofMarks$Sheet" "paperTaken" "I", Cond.methodLink RX3 67 yX2_openAgain, Cond.instanceMethod yX2_openAgain, Cond.selects RX2 yX2_openAgain yX2_openAgain, Cond.code yX2_openAgain cX2_openAgain 3 (some .int), Cond.methodLink RX2 74 yX2_isFrame, Cond.static yX2_isFrame, Cond.code yX2_isFrame cX2_isFrame 1 (some .boolean), Cond.methodLink RX3 46 yX3_recorded, Cond.instanceMethod yX3_recorded, Cond.selects RX3 yX3_recorded yX3_recorded, Cond.initialized RX3, Cond.code yX3_recorded cX3_recorded 2 (some .int), Cond.methodLink RX3 130 yX0_keep, Cond.instanceMethod yX0_keep, Cond.selects RX0 yX0_keep yX0_keep]
def wsX3_reopen_r3 : List Cond := [Cond.code yX0_keep cX0_keep 3 none]
def wsX3_reopen : List Cond := .code yX3_reopen cX3_reopen 2 (some .int) :: ((wsX3_reopen_r1 ++ (wsX3_reopen_r2 ++ wsX3_reopen_r3)) ++ wsX30 ++ wsX00 ++ wsX20)
def wsX3_of : List Cond := .code yX3_of cX3_of 3 (some .int) :: ([.fieldLink RX3 10 "ProofMarks" "sheet" "LProofMarks$Sheet;", .methodLink RX3 70 yX2_aboutFrame, .instanceMethod yX2_aboutFrame, .selects RX2 yX2_aboutFrame yX2_aboutFrame, .initialized RX2, .code yX2_aboutFrame cX2_aboutFrame 3 (some .int), .fieldLink RX2 15 "ProofMarks$Sheet" "how" "[I", .fieldLink RX2 18 "ProofMarks$Sheet" "ticks" "[I", .fieldLink RX2 21 "ProofMarks$Sheet" "crosses" "[I", .fieldLink RX2 24 "ProofMarks$Sheet" "dull" "[I", .fieldLink RX2 27 "ProofMarks$Sheet" "sizes" "[I", .fieldLink RX2 30 "ProofMarks$Sheet" "chosenIn" "[I", .methodLink RX2 74 yX2_isFrame, .static yX2_isFrame, .code yX2_isFrame cX2_isFrame 1 (some .boolean)] ++ wsX30 ++ wsX20)
def wsX3_editor_r1 : List Cond := [Cond.fieldLink RX3 10 "ProofMarks" "sheet" "LProofMarks$Sheet;", Cond.methodLink RX3 73 yX2_aboutEditor, Cond.instanceMethod yX2_aboutEditor, Cond.selects RX2 yX2_aboutEditor yX2_aboutEditor, Cond.initialized RX2, Cond.code yX2_aboutEditor cX2_aboutEditor 3 (some .int), Cond.fieldLink RX2 33 "ProofMarks$Sheet" "points" "[I", Cond.fieldLink RX2 36 "ProofMarks$Sheet" "arguments" "[I", Cond.fieldLink RX2 39 "ProofMarks$Sheet" "lifted" "[I", Cond.fieldLink RX2 42 "ProofMarks$Sheet" "favourites" "[I", Cond.methodLink RX2 70 yX2_isEditor, Cond.static yX2_isEditor, Cond.code yX2_isEditor cX2_isEditor 1 (some .boolean), Cond.methodLink RX2 100 yX2_marksOf, Cond.instanceMethod yX2_marksOf, Cond.selects RX2 yX2_marksOf yX2_marksOf, Cond.code yX2_marksOf cX2_marksOf 5 (some .int), Cond.methodLink RX2 77 yX2_markOf, Cond.instanceMethod yX2_markOf, Cond.selects RX2 yX2_markOf yX2_markOf, Cond.code yX2_markOf cX2_markOf 4 (some .int), Cond.fieldLink RX2 18 "ProofMarks$Sheet" "ticks" "[I", Cond.fieldLink RX2 21 "ProofMarks$Sheet" "crosses" "[I", Cond.methodLink RX2 81 yX2_vetoesLeft]
def wsX3_editor_r2 : List Cond := [Cond.instanceMethod yX2_vetoesLeft, Cond.selects RX2 yX2_vetoesLeft yX2_vetoesLeft, Cond.code yX2_vetoesLeft cX2_vetoesLeft 2 (some .int), Cond.fieldLink RX2 11 "ProofMarks$Sheet" "settings" "[I", Cond.methodLink RX2 138 Lib.Math.max.name, Cond.static Lib.Math.max.name, Cond.initialized "java/lang/Math", Cond.code Lib.Math.max.name Lib.Math.max.code 2 (some .int)]
def wsX3_editor : List Cond := .code yX3_editor cX3_editor 3 (some .int) :: ((wsX3_editor_r1 ++ wsX3_editor_r2) ++ wsX30 ++ wsX20)
def wsX3_chosen : List Cond := .code yX3_chosen cX3_chosen 2 (some .int) :: ([.fieldLink RX3 10 "ProofMarks" "sheet" "LProofMarks$Sheet;", .methodLink RX3 76 yX2_chosenAt, .instanceMethod yX2_chosenAt, .selects RX2 yX2_chosenAt yX2_chosenAt, .initialized RX2, .code yX2_chosenAt cX2_chosenAt 5 (some .int), .fieldLink RX2 48 "ProofMarks$Sheet" "rounds" "I", .fieldLink RX2 30 "ProofMarks$Sheet" "chosenIn" "[I", .methodLink RX2 103 yX2_isPicked, .instanceMethod yX2_isPicked, .selects RX2 yX2_isPicked yX2_isPicked, .code yX2_isPicked cX2_isPicked 2 (some .boolean), .fieldLink RX2 15 "ProofMarks$Sheet" "how" "[I"] ++ wsX30 ++ wsX20)
def wsX3_count_r1 : List Cond := [Cond.fieldLink RX3 26 "ProofMarks" "pad" "LProofMarks$Pad;", Cond.fieldLink RX3 19 "ProofMarks" "history" "LProofMarks$History;", Cond.fieldLink RX3 10 "ProofMarks" "sheet" "LProofMarks$Sheet;", Cond.methodLink RX3 86 yX2_numberOf, Cond.instanceMethod yX2_numberOf, Cond.selects RX2 yX2_numberOf yX2_numberOf, Cond.initialized RX2, Cond.code yX2_numberOf cX2_numberOf 2 (some .int), Cond.fieldLink RX2 48 "ProofMarks$Sheet" "rounds" "I", Cond.fieldLink RX2 52 "ProofMarks$Sheet" "paper" "I", Cond.fieldLink RX2 55 "ProofMarks$Sheet" "paperTaken" "I", Cond.fieldLink RX2 45 "ProofMarks$Sheet" "prints" "[I", Cond.fieldLink RX2 11 "ProofMarks$Sheet" "settings" "[I", Cond.methodLink RX2 106 yX2_framesThatAre, Cond.instanceMethod yX2_framesThatAre, Cond.selects RX2 yX2_framesThatAre yX2_framesThatAre, Cond.code yX2_framesThatAre cX2_framesThatAre 4 (some .int), Cond.fieldLink RX2 15 "ProofMarks$Sheet" "how" "[I", Cond.methodLink RX2 109 yX2_longestRow, Cond.instanceMethod yX2_longestRow, Cond.selects RX2 yX2_longestRow yX2_longestRow, Cond.code yX2_longestRow cX2_longestRow 4 (some .int), Cond.methodLink RX2 138 Lib.Math.max.name, Cond.static Lib.Math.max.name]
def wsX3_count_r2 : List Cond := [Cond.initialized "java/lang/Math", Cond.code Lib.Math.max.name Lib.Math.max.code 2 (some .int), Cond.methodLink RX2 103 yX2_isPicked, Cond.instanceMethod yX2_isPicked, Cond.selects RX2 yX2_isPicked yX2_isPicked, Cond.code yX2_isPicked cX2_isPicked 2 (some .boolean)]
def wsX3_count : List Cond := .code yX3_count cX3_count 2 (some .int) :: ((wsX3_count_r1 ++ wsX3_count_r2) ++ wsX30 ++ wsX10 ++ wsX00 ++ wsX20)
def wsX3_why : List Cond := .code yX3_why cX3_why 2 (some .int) :: ([.fieldLink RX3 10 "ProofMarks" "sheet" "LProofMarks$Sheet;", .methodLink RX3 89 yX2_whyNotChosen, .instanceMethod yX2_whyNotChosen, .selects RX2 yX2_whyNotChosen yX2_whyNotChosen, .initialized RX2, .code yX2_whyNotChosen cX2_whyNotChosen 2 (some .int), .fieldLink RX2 15 "ProofMarks$Sheet" "how" "[I", .fieldLink RX2 21 "ProofMarks$Sheet" "crosses" "[I", .fieldLink RX2 18 "ProofMarks$Sheet" "ticks" "[I", .methodLink RX2 74 yX2_isFrame, .static yX2_isFrame, .code yX2_isFrame cX2_isFrame 1 (some .boolean), .methodLink RX2 113 yX2_isWanted, .instanceMethod yX2_isWanted, .selects RX2 yX2_isWanted yX2_isWanted, .code yX2_isWanted cX2_isWanted 3 (some .boolean), .fieldLink RX2 11 "ProofMarks$Sheet" "settings" "[I", .methodLink RX2 133 yJ6_bitCount_0f7a4, .static yJ6_bitCount_0f7a4, .initialized RJ6, .code yJ6_bitCount_0f7a4 cJ6_bitCount_0f7a4 1 (some .int), .constant RJ6 265 (1431655765), .constant RJ6 266 (858993459), .constant RJ6 267 (252645135)] ++ wsX30 ++ wsX20)
def wsX3_ifRound_r1 : List Cond := [Cond.fieldLink RX3 10 "ProofMarks" "sheet" "LProofMarks$Sheet;", Cond.methodLink RX3 92 yX2_roundWouldBring, Cond.instanceMethod yX2_roundWouldBring, Cond.selects RX2 yX2_roundWouldBring yX2_roundWouldBring, Cond.initialized RX2, Cond.code yX2_roundWouldBring cX2_roundWouldBring 2 (some .int), Cond.methodLink RX2 117 yX2_framesThatBecome, Cond.instanceMethod yX2_framesThatBecome, Cond.selects RX2 yX2_framesThatBecome yX2_framesThatBecome, Cond.code yX2_framesThatBecome cX2_framesThatBecome 4 (some .int), Cond.fieldLink RX2 15 "ProofMarks$Sheet" "how" "[I", Cond.methodLink RX2 123 yX2_afterRound, Cond.instanceMethod yX2_afterRound, Cond.selects RX2 yX2_afterRound yX2_afterRound, Cond.code yX2_afterRound cX2_afterRound 3 (some .int), Cond.fieldLink RX2 21 "ProofMarks$Sheet" "crosses" "[I", Cond.fieldLink RX2 18 "ProofMarks$Sheet" "ticks" "[I", Cond.fieldLink RX2 11 "ProofMarks$Sheet" "settings" "[I", Cond.methodLink RX2 133 yJ6_bitCount_0f7a4, Cond.static yJ6_bitCount_0f7a4, Cond.initialized RJ6, Cond.code yJ6_bitCount_0f7a4 cJ6_bitCount_0f7a4 1 (some .int), Cond.constant RJ6 265 (1431655765), Cond.constant RJ6 266 (858993459)]
def wsX3_ifRound_r2 : List Cond := [Cond.constant RJ6 267 (252645135), Cond.methodLink RX2 113 yX2_isWanted, Cond.instanceMethod yX2_isWanted, Cond.selects RX2 yX2_isWanted yX2_isWanted, Cond.code yX2_isWanted cX2_isWanted 3 (some .boolean), Cond.methodLink RX2 130 yX2_dullAfterRound, Cond.instanceMethod yX2_dullAfterRound, Cond.selects RX2 yX2_dullAfterRound yX2_dullAfterRound, Cond.code yX2_dullAfterRound cX2_dullAfterRound 3 (some .int), Cond.fieldLink RX2 24 "ProofMarks$Sheet" "dull" "[I"]
def wsX3_ifRound : List Cond := .code yX3_ifRound cX3_ifRound 2 (some .int) :: ((wsX3_ifRound_r1 ++ wsX3_ifRound_r2) ++ wsX30 ++ wsX20)
def wsX3_decides_r1 : List Cond := [Cond.fieldLink RX3 10 "ProofMarks" "sheet" "LProofMarks$Sheet;", Cond.methodLink RX3 95 yX2_deciders, Cond.instanceMethod yX2_deciders, Cond.selects RX2 yX2_deciders yX2_deciders, Cond.initialized RX2, Cond.code yX2_deciders cX2_deciders 4 (some .int), Cond.fieldLink RX2 15 "ProofMarks$Sheet" "how" "[I", Cond.methodLink RX2 74 yX2_isFrame, Cond.static yX2_isFrame, Cond.code yX2_isFrame cX2_isFrame 1 (some .boolean), Cond.methodLink RX2 120 yX2_markDecides, Cond.instanceMethod yX2_markDecides, Cond.selects RX2 yX2_markDecides yX2_markDecides, Cond.code yX2_markDecides cX2_markDecides 7 (some .boolean), Cond.fieldLink RX2 18 "ProofMarks$Sheet" "ticks" "[I", Cond.fieldLink RX2 21 "ProofMarks$Sheet" "crosses" "[I", Cond.methodLink RX2 113 yX2_isWanted, Cond.instanceMethod yX2_isWanted, Cond.selects RX2 yX2_isWanted yX2_isWanted, Cond.code yX2_isWanted cX2_isWanted 3 (some .boolean), Cond.fieldLink RX2 11 "ProofMarks$Sheet" "settings" "[I", Cond.methodLink RX2 133 yJ6_bitCount_0f7a4, Cond.static yJ6_bitCount_0f7a4, Cond.initialized RJ6]
def wsX3_decides_r2 : List Cond := [Cond.code yJ6_bitCount_0f7a4 cJ6_bitCount_0f7a4 1 (some .int), Cond.constant RJ6 265 (1431655765), Cond.constant RJ6 266 (858993459), Cond.constant RJ6 267 (252645135), Cond.methodLink RX2 85 yX2_withEditor, Cond.static yX2_withEditor, Cond.code yX2_withEditor cX2_withEditor 4 (some .int)]
def wsX3_decides : List Cond := .code yX3_decides cX3_decides 2 (some .int) :: ((wsX3_decides_r1 ++ wsX3_decides_r2) ++ wsX30 ++ wsX20)
def wsX3_agree : List Cond := .code yX3_agree cX3_agree 3 (some .int) :: ([.fieldLink RX3 10 "ProofMarks" "sheet" "LProofMarks$Sheet;", .methodLink RX3 98 yX2_agreement, .instanceMethod yX2_agreement, .selects RX2 yX2_agreement yX2_agreement, .initialized RX2, .code yX2_agreement cX2_agreement 8 (some .int), .methodLink RX2 70 yX2_isEditor, .static yX2_isEditor, .code yX2_isEditor cX2_isEditor 1 (some .boolean), .methodLink RX2 77 yX2_markOf, .instanceMethod yX2_markOf, .selects RX2 yX2_markOf yX2_markOf, .code yX2_markOf cX2_markOf 4 (some .int), .fieldLink RX2 18 "ProofMarks$Sheet" "ticks" "[I", .fieldLink RX2 21 "ProofMarks$Sheet" "crosses" "[I"] ++ wsX30 ++ wsX20)
def wsX3_paperFor : List Cond := .code yX3_paperFor cX3_paperFor 1 (some .int) :: ([.fieldLink RX3 10 "ProofMarks" "sheet" "LProofMarks$Sheet;", .methodLink RX3 101 yX2_paperForChosen, .instanceMethod yX2_paperForChosen, .selects RX2 yX2_paperForChosen yX2_paperForChosen, .initialized RX2, .code yX2_paperForChosen cX2_paperForChosen 3 (some .int), .fieldLink RX2 15 "ProofMarks$Sheet" "how" "[I", .fieldLink RX2 27 "ProofMarks$Sheet" "sizes" "[I", .methodLink RX2 97 yX2_paperOf, .static yX2_paperOf, .code yX2_paperOf cX2_paperOf 1 (some .int)] ++ wsX30 ++ wsX20)
def wsX3_put : List Cond := .code yX3_put cX3_put 3 (some .int) :: ([.fieldLink RX3 26 "ProofMarks" "pad" "LProofMarks$Pad;", .methodLink RX3 104 yX1_append, .instanceMethod yX1_append, .selects RX1 yX1_append yX1_append, .initialized RX1, .code yX1_append cX1_append 5 (some .int), .fieldLink RX1 15 "ProofMarks$Pad" "length" "I", .fieldLink RX1 11 "ProofMarks$Pad" "signs" "[C", .constantLong RX1 42 (255), .methodLink RX1 38 yX1_charactersIn, .static yX1_charactersIn, .code yX1_charactersIn cX1_charactersIn 7 (some .int), .constantLong RX1 44 (33), .constantLong RX1 46 (126)] ++ wsX30 ++ wsX10)
def wsX3_wipe : List Cond := .code yX3_wipe cX3_wipe 1 (some .int) :: ([.fieldLink RX3 26 "ProofMarks" "pad" "LProofMarks$Pad;", .methodLink RX3 108 yX1_empty, .instanceMethod yX1_empty, .selects RX1 yX1_empty yX1_empty, .initialized RX1, .code yX1_empty cX1_empty 2 (some .int), .fieldLink RX1 15 "ProofMarks$Pad" "length" "I"] ++ wsX30 ++ wsX10)
def wsX3_fault_r1 : List Cond := [Cond.fieldLink RX3 26 "ProofMarks" "pad" "LProofMarks$Pad;", Cond.methodLink RX3 111 yX1_faultAt, Cond.instanceMethod yX1_faultAt, Cond.selects RX1 yX1_faultAt yX1_faultAt, Cond.initialized RX1, Cond.code yX1_faultAt cX1_faultAt 3 (some .int), Cond.fieldLink RX1 19 "ProofMarks$Pad" "at" "I", Cond.fieldLink RX1 15 "ProofMarks$Pad" "length" "I", Cond.methodLink RX1 48 yX1_rewind, Cond.instanceMethod yX1_rewind, Cond.selects RX1 yX1_rewind yX1_rewind, Cond.code yX1_rewind cX1_rewind 1 none, Cond.methodLink RX1 51 yX1_nextOrder, Cond.instanceMethod yX1_nextOrder, Cond.selects RX1 yX1_nextOrder yX1_nextOrder, Cond.code yX1_nextOrder cX1_nextOrder 1 (some .boolean), Cond.methodLink RX1 55 yX1_take, Cond.instanceMethod yX1_take, Cond.selects RX1 yX1_take yX1_take, Cond.code yX1_take cX1_take 2 (some .boolean), Cond.methodLink RX1 62 yX1_here, Cond.instanceMethod yX1_here, Cond.selects RX1 yX1_here yX1_here, Cond.code yX1_here cX1_here 1 (some .char)]
def wsX3_fault_r2 : List Cond := [Cond.fieldLink RX1 11 "ProofMarks$Pad" "signs" "[C", Cond.methodLink RX1 59 yX1_takeOrder, Cond.instanceMethod yX1_takeOrder, Cond.selects RX1 yX1_takeOrder yX1_takeOrder, Cond.code yX1_takeOrder cX1_takeOrder 1 (some .boolean), Cond.fieldLink RX1 22 "ProofMarks$Pad" "order" "C", Cond.methodLink RX1 66 yX1_takeEditor, Cond.instanceMethod yX1_takeEditor, Cond.selects RX1 yX1_takeEditor yX1_takeEditor, Cond.code yX1_takeEditor cX1_takeEditor 1 (some .boolean), Cond.fieldLink RX1 26 "ProofMarks$Pad" "editor" "I", Cond.methodLink RX1 78 yX1_digitHere, Cond.instanceMethod yX1_digitHere, Cond.selects RX1 yX1_digitHere yX1_digitHere, Cond.code yX1_digitHere cX1_digitHere 2 (some .int), Cond.methodLink RX1 82 yX1_pass, Cond.instanceMethod yX1_pass, Cond.selects RX1 yX1_pass yX1_pass, Cond.code yX1_pass cX1_pass 2 (some .boolean), Cond.methodLink RX1 69 yX1_takeNumber, Cond.instanceMethod yX1_takeNumber, Cond.selects RX1 yX1_takeNumber yX1_takeNumber, Cond.code yX1_takeNumber cX1_takeNumber 2 (some .boolean), Cond.fieldLink RX1 32 "ProofMarks$Pad" "number" "I"]
def wsX3_fault_r3 : List Cond := [Cond.methodLink RX1 72 yX1_takeOther, Cond.instanceMethod yX1_takeOther, Cond.selects RX1 yX1_takeOther yX1_takeOther, Cond.code yX1_takeOther cX1_takeOther 1 (some .boolean), Cond.fieldLink RX1 29 "ProofMarks$Pad" "other" "I", Cond.methodLink RX1 75 yX1_takeSize, Cond.instanceMethod yX1_takeSize, Cond.selects RX1 yX1_takeSize yX1_takeSize, Cond.code yX1_takeSize cX1_takeSize 1 (some .boolean), Cond.fieldLink RX1 35 "ProofMarks$Pad" "size" "I"]
def wsX3_fault : List Cond := .code yX3_fault cX3_fault 1 (some .int) :: ((wsX3_fault_r1 ++ (wsX3_fault_r2 ++ wsX3_fault_r3)) ++ wsX30 ++ wsX10)
def wsX3_obey_r1 : List Cond := [Cond.fieldLink RX3 26 "ProofMarks" "pad" "LProofMarks$Pad;", Cond.fieldLink RX3 10 "ProofMarks" "sheet" "LProofMarks$Sheet;", Cond.methodLink RX3 50 yX2_putMark, Cond.instanceMethod yX2_putMark, Cond.selects RX2 yX2_putMark yX2_putMark, Cond.initialized RX2, Cond.code yX2_putMark cX2_putMark 5 (some .int), Cond.fieldLink RX2 15 "ProofMarks$Sheet" "how" "[I", Cond.fieldLink RX2 18 "ProofMarks$Sheet" "ticks" "[I", Cond.fieldLink RX2 21 "ProofMarks$Sheet" "crosses" "[I", Cond.methodLink RX2 70 yX2_isEditor, Cond.static yX2_isEditor, Cond.code yX2_isEditor cX2_isEditor 1 (some .boolean), Cond.methodLink RX2 74 yX2_isFrame, Cond.static yX2_isFrame, Cond.code yX2_isFrame cX2_isFrame 1 (some .boolean), Cond.methodLink RX2 77 yX2_markOf, Cond.instanceMethod yX2_markOf, Cond.selects RX2 yX2_markOf yX2_markOf, Cond.code yX2_markOf cX2_markOf 4 (some .int), Cond.methodLink RX2 81 yX2_vetoesLeft, Cond.instanceMethod yX2_vetoesLeft, Cond.selects RX2 yX2_vetoesLeft yX2_vetoesLeft, Cond.code yX2_vetoesLeft cX2_vetoesLeft 2 (some .int)]
def wsX3_obey_r2 : List Cond := [Cond.fieldLink RX2 11 "ProofMarks$Sheet" "settings" "[I", Cond.methodLink RX2 138 Lib.Math.max.name, Cond.static Lib.Math.max.name, Cond.initialized "java/lang/Math", Cond.code Lib.Math.max.name Lib.Math.max.code 2 (some .int), Cond.methodLink RX2 100 yX2_marksOf, Cond.instanceMethod yX2_marksOf, Cond.selects RX2 yX2_marksOf yX2_marksOf, Cond.code yX2_marksOf cX2_marksOf 5 (some .int), Cond.methodLink RX2 85 yX2_withEditor, Cond.static yX2_withEditor, Cond.code yX2_withEditor cX2_withEditor 4 (some .int), Cond.methodLink RX3 54 yX2_argueAgainst, Cond.instanceMethod yX2_argueAgainst, Cond.selects RX2 yX2_argueAgainst yX2_argueAgainst, Cond.code yX2_argueAgainst cX2_argueAgainst 5 (some .int), Cond.fieldLink RX2 33 "ProofMarks$Sheet" "points" "[I", Cond.fieldLink RX2 36 "ProofMarks$Sheet" "arguments" "[I", Cond.fieldLink RX2 39 "ProofMarks$Sheet" "lifted" "[I", Cond.methodLink RX3 61 yX2_printFrame, Cond.instanceMethod yX2_printFrame, Cond.selects RX2 yX2_printFrame yX2_printFrame, Cond.code yX2_printFrame cX2_printFrame 4 (some .int), Cond.fieldLink RX2 27 "ProofMarks$Sheet" "sizes" "[I"]
def wsX3_obey_r3 : List Cond := [Cond.fieldLink RX2 52 "ProofMarks$Sheet" "paper" "I", Cond.fieldLink RX2 45 "ProofMarks$Sheet" "prints" "[I", Cond.fieldLink RX2 55 "ProofMarks$Sheet" "paperTaken" "I", Cond.methodLink RX2 97 yX2_paperOf, Cond.static yX2_paperOf, Cond.code yX2_paperOf cX2_paperOf 1 (some .int), Cond.methodLink RX3 64 yX2_addPaper, Cond.instanceMethod yX2_addPaper, Cond.selects RX2 yX2_addPaper yX2_addPaper, Cond.code yX2_addPaper cX2_addPaper 2 (some .int), Cond.methodLink RX2 92 Lib.Math.min.name, Cond.static Lib.Math.min.name, Cond.code Lib.Math.min.name Lib.Math.min.code 2 (some .int), Cond.methodLink RX3 57 yX2_endRound, Cond.instanceMethod yX2_endRound, Cond.selects RX2 yX2_endRound yX2_endRound, Cond.code yX2_endRound cX2_endRound 3 (some .int), Cond.fieldLink RX2 48 "ProofMarks$Sheet" "rounds" "I", Cond.methodLink RX2 89 yX2_settle, Cond.instanceMethod yX2_settle, Cond.selects RX2 yX2_settle yX2_settle, Cond.code yX2_settle cX2_settle 3 (some .int), Cond.fieldLink RX2 24 "ProofMarks$Sheet" "dull" "[I", Cond.methodLink RX2 123 yX2_afterRound]
def wsX3_obey_r4 : List Cond := [Cond.instanceMethod yX2_afterRound, Cond.selects RX2 yX2_afterRound yX2_afterRound, Cond.code yX2_afterRound cX2_afterRound 3 (some .int), Cond.methodLink RX2 133 yJ6_bitCount_0f7a4, Cond.static yJ6_bitCount_0f7a4, Cond.initialized RJ6, Cond.code yJ6_bitCount_0f7a4 cJ6_bitCount_0f7a4 1 (some .int), Cond.constant RJ6 265 (1431655765), Cond.constant RJ6 266 (858993459), Cond.constant RJ6 267 (252645135), Cond.methodLink RX2 113 yX2_isWanted, Cond.instanceMethod yX2_isWanted, Cond.selects RX2 yX2_isWanted yX2_isWanted, Cond.code yX2_isWanted cX2_isWanted 3 (some .boolean), Cond.methodLink RX2 130 yX2_dullAfterRound, Cond.instanceMethod yX2_dullAfterRound, Cond.selects RX2 yX2_dullAfterRound yX2_dullAfterRound, Cond.code yX2_dullAfterRound cX2_dullAfterRound 3 (some .int), Cond.methodLink RX2 126 yX2_noteChoice, Cond.instanceMethod yX2_noteChoice, Cond.selects RX2 yX2_noteChoice yX2_noteChoice, Cond.code yX2_noteChoice cX2_noteChoice 3 none, Cond.fieldLink RX2 30 "ProofMarks$Sheet" "chosenIn" "[I", Cond.fieldLink RX2 42 "ProofMarks$Sheet" "favourites" "[I"]
def wsX3_obey : List Cond := .code yX3_obey cX3_obey 1 (some .int) :: ((wsX3_obey_r1 ++ (wsX3_obey_r2 ++ (wsX3_obey_r3 ++ wsX3_obey_r4))) ++ wsX30 ++ wsX10 ++ wsX20)
def wsX3_carryOrders_r1 : List Cond := [Cond.fieldLink RX3 26 "ProofMarks" "pad" "LProofMarks$Pad;", Cond.methodLink RX3 133 yX1_rewind, Cond.instanceMethod yX1_rewind, Cond.selects RX1 yX1_rewind yX1_rewind, Cond.initialized RX1, Cond.code yX1_rewind cX1_rewind 1 none, Cond.fieldLink RX1 19 "ProofMarks$Pad" "at" "I", Cond.methodLink RX3 136 yX1_nextOrder, Cond.instanceMethod yX1_nextOrder, Cond.selects RX1 yX1_nextOrder yX1_nextOrder, Cond.code yX1_nextOrder cX1_nextOrder 1 (some .boolean), Cond.methodLink RX1 55 yX1_take, Cond.instanceMethod yX1_take, Cond.selects RX1 yX1_take yX1_take, Cond.code yX1_take cX1_take 2 (some .boolean), Cond.methodLink RX1 62 yX1_here, Cond.instanceMethod yX1_here, Cond.selects RX1 yX1_here yX1_here, Cond.code yX1_here cX1_here 1 (some .char), Cond.fieldLink RX1 15 "ProofMarks$Pad" "length" "I", Cond.fieldLink RX1 11 "ProofMarks$Pad" "signs" "[C", Cond.methodLink RX1 59 yX1_takeOrder, Cond.instanceMethod yX1_takeOrder, Cond.selects RX1 yX1_takeOrder yX1_takeOrder]
def wsX3_carryOrders_r2 : List Cond := [Cond.code yX1_takeOrder cX1_takeOrder 1 (some .boolean), Cond.fieldLink RX1 22 "ProofMarks$Pad" "order" "C", Cond.methodLink RX1 66 yX1_takeEditor, Cond.instanceMethod yX1_takeEditor, Cond.selects RX1 yX1_takeEditor yX1_takeEditor, Cond.code yX1_takeEditor cX1_takeEditor 1 (some .boolean), Cond.fieldLink RX1 26 "ProofMarks$Pad" "editor" "I", Cond.methodLink RX1 78 yX1_digitHere, Cond.instanceMethod yX1_digitHere, Cond.selects RX1 yX1_digitHere yX1_digitHere, Cond.code yX1_digitHere cX1_digitHere 2 (some .int), Cond.methodLink RX1 82 yX1_pass, Cond.instanceMethod yX1_pass, Cond.selects RX1 yX1_pass yX1_pass, Cond.code yX1_pass cX1_pass 2 (some .boolean), Cond.methodLink RX1 69 yX1_takeNumber, Cond.instanceMethod yX1_takeNumber, Cond.selects RX1 yX1_takeNumber yX1_takeNumber, Cond.code yX1_takeNumber cX1_takeNumber 2 (some .boolean), Cond.fieldLink RX1 32 "ProofMarks$Pad" "number" "I", Cond.methodLink RX1 72 yX1_takeOther, Cond.instanceMethod yX1_takeOther, Cond.selects RX1 yX1_takeOther yX1_takeOther, Cond.code yX1_takeOther cX1_takeOther 1 (some .boolean)]
def wsX3_carryOrders_r3 : List Cond := [Cond.fieldLink RX1 29 "ProofMarks$Pad" "other" "I", Cond.methodLink RX1 75 yX1_takeSize, Cond.instanceMethod yX1_takeSize, Cond.selects RX1 yX1_takeSize yX1_takeSize, Cond.code yX1_takeSize cX1_takeSize 1 (some .boolean), Cond.fieldLink RX1 35 "ProofMarks$Pad" "size" "I", Cond.methodLink RX3 140 yX3_obey, Cond.instanceMethod yX3_obey, Cond.selects RX3 yX3_obey yX3_obey, Cond.initialized RX3, Cond.code yX3_obey cX3_obey 1 (some .int), Cond.fieldLink RX3 10 "ProofMarks" "sheet" "LProofMarks$Sheet;", Cond.methodLink RX3 50 yX2_putMark, Cond.instanceMethod yX2_putMark, Cond.selects RX2 yX2_putMark yX2_putMark, Cond.initialized RX2, Cond.code yX2_putMark cX2_putMark 5 (some .int), Cond.fieldLink RX2 15 "ProofMarks$Sheet" "how" "[I", Cond.fieldLink RX2 18 "ProofMarks$Sheet" "ticks" "[I", Cond.fieldLink RX2 21 "ProofMarks$Sheet" "crosses" "[I", Cond.methodLink RX2 70 yX2_isEditor, Cond.static yX2_isEditor, Cond.code yX2_isEditor cX2_isEditor 1 (some .boolean), Cond.methodLink RX2 74 yX2_isFrame]
def wsX3_carryOrders_r4 : List Cond := [Cond.static yX2_isFrame, Cond.code yX2_isFrame cX2_isFrame 1 (some .boolean), Cond.methodLink RX2 77 yX2_markOf, Cond.instanceMethod yX2_markOf, Cond.selects RX2 yX2_markOf yX2_markOf, Cond.code yX2_markOf cX2_markOf 4 (some .int), Cond.methodLink RX2 81 yX2_vetoesLeft, Cond.instanceMethod yX2_vetoesLeft, Cond.selects RX2 yX2_vetoesLeft yX2_vetoesLeft, Cond.code yX2_vetoesLeft cX2_vetoesLeft 2 (some .int), Cond.fieldLink RX2 11 "ProofMarks$Sheet" "settings" "[I", Cond.methodLink RX2 138 Lib.Math.max.name, Cond.static Lib.Math.max.name, Cond.initialized "java/lang/Math", Cond.code Lib.Math.max.name Lib.Math.max.code 2 (some .int), Cond.methodLink RX2 100 yX2_marksOf, Cond.instanceMethod yX2_marksOf, Cond.selects RX2 yX2_marksOf yX2_marksOf, Cond.code yX2_marksOf cX2_marksOf 5 (some .int), Cond.methodLink RX2 85 yX2_withEditor, Cond.static yX2_withEditor, Cond.code yX2_withEditor cX2_withEditor 4 (some .int), Cond.methodLink RX3 54 yX2_argueAgainst, Cond.instanceMethod yX2_argueAgainst]
def wsX3_carryOrders_r5 : List Cond := [Cond.selects RX2 yX2_argueAgainst yX2_argueAgainst, Cond.code yX2_argueAgainst cX2_argueAgainst 5 (some .int), Cond.fieldLink RX2 33 "ProofMarks$Sheet" "points" "[I", Cond.fieldLink RX2 36 "ProofMarks$Sheet" "arguments" "[I", Cond.fieldLink RX2 39 "ProofMarks$Sheet" "lifted" "[I", Cond.methodLink RX3 61 yX2_printFrame, Cond.instanceMethod yX2_printFrame, Cond.selects RX2 yX2_printFrame yX2_printFrame, Cond.code yX2_printFrame cX2_printFrame 4 (some .int), Cond.fieldLink RX2 27 "ProofMarks$Sheet" "sizes" "[I", Cond.fieldLink RX2 52 "ProofMarks$Sheet" "paper" "I", Cond.fieldLink RX2 45 "ProofMarks$Sheet" "prints" "[I", Cond.fieldLink RX2 55 "ProofMarks$Sheet" "paperTaken" "I", Cond.methodLink RX2 97 yX2_paperOf, Cond.static yX2_paperOf, Cond.code yX2_paperOf cX2_paperOf 1 (some .int), Cond.methodLink RX3 64 yX2_addPaper, Cond.instanceMethod yX2_addPaper, Cond.selects RX2 yX2_addPaper yX2_addPaper, Cond.code yX2_addPaper cX2_addPaper 2 (some .int), Cond.methodLink RX2 92 Lib.Math.min.name, Cond.static Lib.Math.min.name, Cond.code Lib.Math.min.name Lib.Math.min.code 2 (some .int), Cond.methodLink RX3 57 yX2_endRound]
def wsX3_carryOrders_r6 : List Cond := [Cond.instanceMethod yX2_endRound, Cond.selects RX2 yX2_endRound yX2_endRound, Cond.code yX2_endRound cX2_endRound 3 (some .int), Cond.fieldLink RX2 48 "ProofMarks$Sheet" "rounds" "I", Cond.methodLink RX2 89 yX2_settle, Cond.instanceMethod yX2_settle, Cond.selects RX2 yX2_settle yX2_settle, Cond.code yX2_settle cX2_settle 3 (some .int), Cond.fieldLink RX2 24 "ProofMarks$Sheet" "dull" "[I", Cond.methodLink RX2 123 yX2_afterRound, Cond.instanceMethod yX2_afterRound, Cond.selects RX2 yX2_afterRound yX2_afterRound, Cond.code yX2_afterRound cX2_afterRound 3 (some .int), Cond.methodLink RX2 133 yJ6_bitCount_0f7a4, Cond.static yJ6_bitCount_0f7a4, Cond.initialized RJ6, Cond.code yJ6_bitCount_0f7a4 cJ6_bitCount_0f7a4 1 (some .int), Cond.constant RJ6 265 (1431655765), Cond.constant RJ6 266 (858993459), Cond.constant RJ6 267 (252645135), Cond.methodLink RX2 113 yX2_isWanted, Cond.instanceMethod yX2_isWanted, Cond.selects RX2 yX2_isWanted yX2_isWanted, Cond.code yX2_isWanted cX2_isWanted 3 (some .boolean)]
def wsX3_carryOrders_r7 : List Cond := [Cond.methodLink RX2 130 yX2_dullAfterRound, Cond.instanceMethod yX2_dullAfterRound, Cond.selects RX2 yX2_dullAfterRound yX2_dullAfterRound, Cond.code yX2_dullAfterRound cX2_dullAfterRound 3 (some .int), Cond.methodLink RX2 126 yX2_noteChoice, Cond.instanceMethod yX2_noteChoice, Cond.selects RX2 yX2_noteChoice yX2_noteChoice, Cond.code yX2_noteChoice cX2_noteChoice 3 none, Cond.fieldLink RX2 30 "ProofMarks$Sheet" "chosenIn" "[I", Cond.fieldLink RX2 42 "ProofMarks$Sheet" "favourites" "[I"]
def wsX3_carryOrders : List Cond := .code yX3_carryOrders cX3_carryOrders 2 (some .int) :: ((wsX3_carryOrders_r1 ++ (wsX3_carryOrders_r2 ++ (wsX3_carryOrders_r3 ++ (wsX3_carryOrders_r4 ++ (wsX3_carryOrders_r5 ++ (wsX3_carryOrders_r6 ++ wsX3_carryOrders_r7)))))) ++ wsX30 ++ wsX10 ++ wsX20)
def wsX3_carryOut_r1 : List Cond := [Cond.fieldLink RX3 26 "ProofMarks" "pad" "LProofMarks$Pad;", Cond.fieldLink RX3 19 "ProofMarks" "history" "LProofMarks$History;", Cond.fieldLink RX3 10 "ProofMarks" "sheet" "LProofMarks$Sheet;", Cond.methodLink RX3 111 yX1_faultAt, Cond.instanceMethod yX1_faultAt, Cond.selects RX1 yX1_faultAt yX1_faultAt, Cond.initialized RX1, Cond.code yX1_faultAt cX1_faultAt 3 (some .int), Cond.fieldLink RX1 19 "ProofMarks$Pad" "at" "I", Cond.fieldLink RX1 15 "ProofMarks$Pad" "length" "I", Cond.methodLink RX1 48 yX1_rewind, Cond.instanceMethod yX1_rewind, Cond.selects RX1 yX1_rewind yX1_rewind, Cond.code yX1_rewind cX1_rewind 1 none, Cond.methodLink RX1 51 yX1_nextOrder, Cond.instanceMethod yX1_nextOrder, Cond.selects RX1 yX1_nextOrder yX1_nextOrder, Cond.code yX1_nextOrder cX1_nextOrder 1 (some .boolean), Cond.methodLink RX1 55 yX1_take, Cond.instanceMethod yX1_take, Cond.selects RX1 yX1_take yX1_take, Cond.code yX1_take cX1_take 2 (some .boolean), Cond.methodLink RX1 62 yX1_here, Cond.instanceMethod yX1_here]
def wsX3_carryOut_r2 : List Cond := [Cond.selects RX1 yX1_here yX1_here, Cond.code yX1_here cX1_here 1 (some .char), Cond.fieldLink RX1 11 "ProofMarks$Pad" "signs" "[C", Cond.methodLink RX1 59 yX1_takeOrder, Cond.instanceMethod yX1_takeOrder, Cond.selects RX1 yX1_takeOrder yX1_takeOrder, Cond.code yX1_takeOrder cX1_takeOrder 1 (some .boolean), Cond.fieldLink RX1 22 "ProofMarks$Pad" "order" "C", Cond.methodLink RX1 66 yX1_takeEditor, Cond.instanceMethod yX1_takeEditor, Cond.selects RX1 yX1_takeEditor yX1_takeEditor, Cond.code yX1_takeEditor cX1_takeEditor 1 (some .boolean), Cond.fieldLink RX1 26 "ProofMarks$Pad" "editor" "I", Cond.methodLink RX1 78 yX1_digitHere, Cond.instanceMethod yX1_digitHere, Cond.selects RX1 yX1_digitHere yX1_digitHere, Cond.code yX1_digitHere cX1_digitHere 2 (some .int), Cond.methodLink RX1 82 yX1_pass, Cond.instanceMethod yX1_pass, Cond.selects RX1 yX1_pass yX1_pass, Cond.code yX1_pass cX1_pass 2 (some .boolean), Cond.methodLink RX1 69 yX1_takeNumber, Cond.instanceMethod yX1_takeNumber, Cond.selects RX1 yX1_takeNumber yX1_takeNumber]
def wsX3_carryOut_r3 : List Cond := [Cond.code yX1_takeNumber cX1_takeNumber 2 (some .boolean), Cond.fieldLink RX1 32 "ProofMarks$Pad" "number" "I", Cond.methodLink RX1 72 yX1_takeOther, Cond.instanceMethod yX1_takeOther, Cond.selects RX1 yX1_takeOther yX1_takeOther, Cond.code yX1_takeOther cX1_takeOther 1 (some .boolean), Cond.fieldLink RX1 29 "ProofMarks$Pad" "other" "I", Cond.methodLink RX1 75 yX1_takeSize, Cond.instanceMethod yX1_takeSize, Cond.selects RX1 yX1_takeSize yX1_takeSize, Cond.code yX1_takeSize cX1_takeSize 1 (some .boolean), Cond.fieldLink RX1 35 "ProofMarks$Pad" "size" "I", Cond.methodLink RX3 38 yX0_note, Cond.instanceMethod yX0_note, Cond.selects RX0 yX0_note yX0_note, Cond.initialized RX0, Cond.code yX0_note cX0_note 2 none, Cond.fieldLink RX0 11 "ProofMarks$History" "states" "[LProofMarks$Sheet;", Cond.fieldLink RX0 15 "ProofMarks$History" "kept" "I", Cond.methodLink RX0 20 yX2_takeOver, Cond.instanceMethod yX2_takeOver, Cond.selects RX2 yX2_takeOver yX2_takeOver, Cond.initialized RX2, Cond.code yX2_takeOver cX2_takeOver 2 none]
def wsX3_carryOut_r4 : List Cond := [Cond.fieldLink RX2 11 "ProofMarks$Sheet" "settings" "[I", Cond.methodLink RX2 58 arraycopyName, Cond.native arraycopyName, Cond.static arraycopyName, Cond.initialized "java/lang/System", Cond.fieldLink RX2 15 "ProofMarks$Sheet" "how" "[I", Cond.fieldLink RX2 18 "ProofMarks$Sheet" "ticks" "[I", Cond.fieldLink RX2 21 "ProofMarks$Sheet" "crosses" "[I", Cond.fieldLink RX2 24 "ProofMarks$Sheet" "dull" "[I", Cond.fieldLink RX2 27 "ProofMarks$Sheet" "sizes" "[I", Cond.fieldLink RX2 30 "ProofMarks$Sheet" "chosenIn" "[I", Cond.fieldLink RX2 33 "ProofMarks$Sheet" "points" "[I", Cond.fieldLink RX2 36 "ProofMarks$Sheet" "arguments" "[I", Cond.fieldLink RX2 39 "ProofMarks$Sheet" "lifted" "[I", Cond.fieldLink RX2 42 "ProofMarks$Sheet" "favourites" "[I", Cond.fieldLink RX2 45 "ProofMarks$Sheet" "prints" "[I", Cond.fieldLink RX2 48 "ProofMarks$Sheet" "rounds" "I", Cond.fieldLink RX2 52 "ProofMarks$Sheet" "paper" "I", Cond.fieldLink RX2 55 "ProofMarks$Sheet" "paperTaken" "I", Cond.methodLink RX3 114 yX3_carryOrders, Cond.instanceMethod yX3_carryOrders, Cond.selects RX3 yX3_carryOrders yX3_carryOrders, Cond.initialized RX3, Cond.code yX3_carryOrders cX3_carryOrders 2 (some .int)]
def wsX3_carryOut_r5 : List Cond := [Cond.methodLink RX3 133 yX1_rewind, Cond.methodLink RX3 136 yX1_nextOrder, Cond.methodLink RX3 140 yX3_obey, Cond.instanceMethod yX3_obey, Cond.selects RX3 yX3_obey yX3_obey, Cond.code yX3_obey cX3_obey 1 (some .int), Cond.methodLink RX3 50 yX2_putMark, Cond.instanceMethod yX2_putMark, Cond.selects RX2 yX2_putMark yX2_putMark, Cond.code yX2_putMark cX2_putMark 5 (some .int), Cond.methodLink RX2 70 yX2_isEditor, Cond.static yX2_isEditor, Cond.code yX2_isEditor cX2_isEditor 1 (some .boolean), Cond.methodLink RX2 74 yX2_isFrame, Cond.static yX2_isFrame, Cond.code yX2_isFrame cX2_isFrame 1 (some .boolean), Cond.methodLink RX2 77 yX2_markOf, Cond.instanceMethod yX2_markOf, Cond.selects RX2 yX2_markOf yX2_markOf, Cond.code yX2_markOf cX2_markOf 4 (some .int), Cond.methodLink RX2 81 yX2_vetoesLeft, Cond.instanceMethod yX2_vetoesLeft, Cond.selects RX2 yX2_vetoesLeft yX2_vetoesLeft, Cond.code yX2_vetoesLeft cX2_vetoesLeft 2 (some .int)]
def wsX3_carryOut_r6 : List Cond := [Cond.methodLink RX2 138 Lib.Math.max.name, Cond.static Lib.Math.max.name, Cond.initialized "java/lang/Math", Cond.code Lib.Math.max.name Lib.Math.max.code 2 (some .int), Cond.methodLink RX2 100 yX2_marksOf, Cond.instanceMethod yX2_marksOf, Cond.selects RX2 yX2_marksOf yX2_marksOf, Cond.code yX2_marksOf cX2_marksOf 5 (some .int), Cond.methodLink RX2 85 yX2_withEditor, Cond.static yX2_withEditor, Cond.code yX2_withEditor cX2_withEditor 4 (some .int), Cond.methodLink RX3 54 yX2_argueAgainst, Cond.instanceMethod yX2_argueAgainst, Cond.selects RX2 yX2_argueAgainst yX2_argueAgainst, Cond.code yX2_argueAgainst cX2_argueAgainst 5 (some .int), Cond.methodLink RX3 61 yX2_printFrame, Cond.instanceMethod yX2_printFrame, Cond.selects RX2 yX2_printFrame yX2_printFrame, Cond.code yX2_printFrame cX2_printFrame 4 (some .int), Cond.methodLink RX2 97 yX2_paperOf, Cond.static yX2_paperOf, Cond.code yX2_paperOf cX2_paperOf 1 (some .int), Cond.methodLink RX3 64 yX2_addPaper, Cond.instanceMethod yX2_addPaper]
def wsX3_carryOut_r7 : List Cond := [Cond.selects RX2 yX2_addPaper yX2_addPaper, Cond.code yX2_addPaper cX2_addPaper 2 (some .int), Cond.methodLink RX2 92 Lib.Math.min.name, Cond.static Lib.Math.min.name, Cond.code Lib.Math.min.name Lib.Math.min.code 2 (some .int), Cond.methodLink RX3 57 yX2_endRound, Cond.instanceMethod yX2_endRound, Cond.selects RX2 yX2_endRound yX2_endRound, Cond.code yX2_endRound cX2_endRound 3 (some .int), Cond.methodLink RX2 89 yX2_settle, Cond.instanceMethod yX2_settle, Cond.selects RX2 yX2_settle yX2_settle, Cond.code yX2_settle cX2_settle 3 (some .int), Cond.methodLink RX2 123 yX2_afterRound, Cond.instanceMethod yX2_afterRound, Cond.selects RX2 yX2_afterRound yX2_afterRound, Cond.code yX2_afterRound cX2_afterRound 3 (some .int), Cond.methodLink RX2 133 yJ6_bitCount_0f7a4, Cond.static yJ6_bitCount_0f7a4, Cond.initialized RJ6, Cond.code yJ6_bitCount_0f7a4 cJ6_bitCount_0f7a4 1 (some .int), Cond.constant RJ6 265 (1431655765), Cond.constant RJ6 266 (858993459), Cond.constant RJ6 267 (252645135)]
def wsX3_carryOut_r8 : List Cond := [Cond.methodLink RX2 113 yX2_isWanted, Cond.instanceMethod yX2_isWanted, Cond.selects RX2 yX2_isWanted yX2_isWanted, Cond.code yX2_isWanted cX2_isWanted 3 (some .boolean), Cond.methodLink RX2 130 yX2_dullAfterRound, Cond.instanceMethod yX2_dullAfterRound, Cond.selects RX2 yX2_dullAfterRound yX2_dullAfterRound, Cond.code yX2_dullAfterRound cX2_dullAfterRound 3 (some .int), Cond.methodLink RX2 126 yX2_noteChoice, Cond.instanceMethod yX2_noteChoice, Cond.selects RX2 yX2_noteChoice yX2_noteChoice, Cond.code yX2_noteChoice cX2_noteChoice 3 none, Cond.methodLink RX3 108 yX1_empty, Cond.instanceMethod yX1_empty, Cond.selects RX1 yX1_empty yX1_empty, Cond.code yX1_empty cX1_empty 2 (some .int), Cond.methodLink RX3 46 yX3_recorded, Cond.instanceMethod yX3_recorded, Cond.selects RX3 yX3_recorded yX3_recorded, Cond.code yX3_recorded cX3_recorded 2 (some .int), Cond.methodLink RX3 130 yX0_keep, Cond.instanceMethod yX0_keep, Cond.selects RX0 yX0_keep yX0_keep, Cond.code yX0_keep cX0_keep 3 none]
def wsX3_carryOut : List Cond := .code yX3_carryOut cX3_carryOut 2 (some .int) :: ((wsX3_carryOut_r1 ++ (wsX3_carryOut_r2 ++ (wsX3_carryOut_r3 ++ (wsX3_carryOut_r4 ++ (wsX3_carryOut_r5 ++ (wsX3_carryOut_r6 ++ (wsX3_carryOut_r7 ++ wsX3_carryOut_r8))))))) ++ wsX30 ++ wsX10 ++ wsX00 ++ wsX20)
def wsX3_undo_r1 : List Cond := [Cond.fieldLink RX3 19 "ProofMarks" "history" "LProofMarks$History;", Cond.fieldLink RX3 10 "ProofMarks" "sheet" "LProofMarks$Sheet;", Cond.methodLink RX3 117 yX0_bringBack, Cond.instanceMethod yX0_bringBack, Cond.selects RX0 yX0_bringBack yX0_bringBack, Cond.initialized RX0, Cond.code yX0_bringBack cX0_bringBack 2 none, Cond.fieldLink RX0 15 "ProofMarks$History" "kept" "I", Cond.fieldLink RX0 11 "ProofMarks$History" "states" "[LProofMarks$Sheet;", Cond.methodLink RX0 20 yX2_takeOver, Cond.instanceMethod yX2_takeOver, Cond.selects RX2 yX2_takeOver yX2_takeOver, Cond.initialized RX2, Cond.code yX2_takeOver cX2_takeOver 2 none, Cond.fieldLink RX2 11 "ProofMarks$Sheet" "settings" "[I", Cond.methodLink RX2 58 arraycopyName, Cond.native arraycopyName, Cond.static arraycopyName, Cond.initialized "java/lang/System", Cond.fieldLink RX2 15 "ProofMarks$Sheet" "how" "[I", Cond.fieldLink RX2 18 "ProofMarks$Sheet" "ticks" "[I", Cond.fieldLink RX2 21 "ProofMarks$Sheet" "crosses" "[I", Cond.fieldLink RX2 24 "ProofMarks$Sheet" "dull" "[I", Cond.fieldLink RX2 27 "ProofMarks$Sheet" "sizes" "[I"]
def wsX3_undo_r2 : List Cond := [Cond.fieldLink RX2 30 "ProofMarks$Sheet" "chosenIn" "[I", Cond.fieldLink RX2 33 "ProofMarks$Sheet" "points" "[I", Cond.fieldLink RX2 36 "ProofMarks$Sheet" "arguments" "[I", Cond.fieldLink RX2 39 "ProofMarks$Sheet" "lifted" "[I", Cond.fieldLink RX2 42 "ProofMarks$Sheet" "favourites" "[I", Cond.fieldLink RX2 45 "ProofMarks$Sheet" "prints" "[I", Cond.fieldLink RX2 48 "ProofMarks$Sheet" "rounds" "I", Cond.fieldLink RX2 52 "ProofMarks$Sheet" "paper" "I", Cond.fieldLink RX2 55 "ProofMarks$Sheet" "paperTaken" "I"]
def wsX3_undo : List Cond := .code yX3_undo cX3_undo 1 (some .int) :: ((wsX3_undo_r1 ++ wsX3_undo_r2) ++ wsX30 ++ wsX00 ++ wsX20)
def wsX3_isSlot : List Cond := .code yX3_isSlot cX3_isSlot 1 (some .boolean) :: ([])
def wsX3_save_r1 : List Cond := [Cond.fieldLink RX3 30 "ProofMarks" "slots" "[LProofMarks$Sheet;", Cond.fieldLink RX3 10 "ProofMarks" "sheet" "LProofMarks$Sheet;", Cond.fieldLink RX3 34 "ProofMarks" "saved" "[Z", Cond.methodLink RX3 120 yX3_isSlot, Cond.static yX3_isSlot, Cond.initialized RX3, Cond.code yX3_isSlot cX3_isSlot 1 (some .boolean), Cond.methodLink RX3 124 yX2_takeOver, Cond.instanceMethod yX2_takeOver, Cond.selects RX2 yX2_takeOver yX2_takeOver, Cond.initialized RX2, Cond.code yX2_takeOver cX2_takeOver 2 none, Cond.fieldLink RX2 11 "ProofMarks$Sheet" "settings" "[I", Cond.methodLink RX2 58 arraycopyName, Cond.native arraycopyName, Cond.static arraycopyName, Cond.initialized "java/lang/System", Cond.fieldLink RX2 15 "ProofMarks$Sheet" "how" "[I", Cond.fieldLink RX2 18 "ProofMarks$Sheet" "ticks" "[I", Cond.fieldLink RX2 21 "ProofMarks$Sheet" "crosses" "[I", Cond.fieldLink RX2 24 "ProofMarks$Sheet" "dull" "[I", Cond.fieldLink RX2 27 "ProofMarks$Sheet" "sizes" "[I", Cond.fieldLink RX2 30 "ProofMarks$Sheet" "chosenIn" "[I", Cond.fieldLink RX2 33 "ProofMarks$Sheet" "points" "[I"]
def wsX3_save_r2 : List Cond := [Cond.fieldLink RX2 36 "ProofMarks$Sheet" "arguments" "[I", Cond.fieldLink RX2 39 "ProofMarks$Sheet" "lifted" "[I", Cond.fieldLink RX2 42 "ProofMarks$Sheet" "favourites" "[I", Cond.fieldLink RX2 45 "ProofMarks$Sheet" "prints" "[I", Cond.fieldLink RX2 48 "ProofMarks$Sheet" "rounds" "I", Cond.fieldLink RX2 52 "ProofMarks$Sheet" "paper" "I", Cond.fieldLink RX2 55 "ProofMarks$Sheet" "paperTaken" "I"]
def wsX3_save : List Cond := .code yX3_save cX3_save 2 (some .int) :: ((wsX3_save_r1 ++ wsX3_save_r2) ++ wsX30 ++ wsX20)
def wsX3_restore_r1 : List Cond := [Cond.fieldLink RX3 34 "ProofMarks" "saved" "[Z", Cond.fieldLink RX3 19 "ProofMarks" "history" "LProofMarks$History;", Cond.fieldLink RX3 10 "ProofMarks" "sheet" "LProofMarks$Sheet;", Cond.fieldLink RX3 30 "ProofMarks" "slots" "[LProofMarks$Sheet;", Cond.methodLink RX3 120 yX3_isSlot, Cond.static yX3_isSlot, Cond.initialized RX3, Cond.code yX3_isSlot cX3_isSlot 1 (some .boolean), Cond.methodLink RX3 38 yX0_note, Cond.instanceMethod yX0_note, Cond.selects RX0 yX0_note yX0_note, Cond.initialized RX0, Cond.code yX0_note cX0_note 2 none, Cond.fieldLink RX0 11 "ProofMarks$History" "states" "[LProofMarks$Sheet;", Cond.fieldLink RX0 15 "ProofMarks$History" "kept" "I", Cond.methodLink RX0 20 yX2_takeOver, Cond.instanceMethod yX2_takeOver, Cond.selects RX2 yX2_takeOver yX2_takeOver, Cond.initialized RX2, Cond.code yX2_takeOver cX2_takeOver 2 none, Cond.fieldLink RX2 11 "ProofMarks$Sheet" "settings" "[I", Cond.methodLink RX2 58 arraycopyName, Cond.native arraycopyName, Cond.static arraycopyName]
def wsX3_restore_r2 : List Cond := [Cond.initialized "java/lang/System", Cond.fieldLink RX2 15 "ProofMarks$Sheet" "how" "[I", Cond.fieldLink RX2 18 "ProofMarks$Sheet" "ticks" "[I", Cond.fieldLink RX2 21 "ProofMarks$Sheet" "crosses" "[I", Cond.fieldLink RX2 24 "ProofMarks$Sheet" "dull" "[I", Cond.fieldLink RX2 27 "ProofMarks$Sheet" "sizes" "[I", Cond.fieldLink RX2 30 "ProofMarks$Sheet" "chosenIn" "[I", Cond.fieldLink RX2 33 "ProofMarks$Sheet" "points" "[I", Cond.fieldLink RX2 36 "ProofMarks$Sheet" "arguments" "[I", Cond.fieldLink RX2 39 "ProofMarks$Sheet" "lifted" "[I", Cond.fieldLink RX2 42 "ProofMarks$Sheet" "favourites" "[I", Cond.fieldLink RX2 45 "ProofMarks$Sheet" "prints" "[I", Cond.fieldLink RX2 48 "ProofMarks$Sheet" "rounds" "I", Cond.fieldLink RX2 52 "ProofMarks$Sheet" "paper" "I", Cond.fieldLink RX2 55 "ProofMarks$Sheet" "paperTaken" "I", Cond.methodLink RX3 124 yX2_takeOver, Cond.methodLink RX3 46 yX3_recorded, Cond.instanceMethod yX3_recorded, Cond.selects RX3 yX3_recorded yX3_recorded, Cond.code yX3_recorded cX3_recorded 2 (some .int), Cond.methodLink RX3 130 yX0_keep, Cond.instanceMethod yX0_keep, Cond.selects RX0 yX0_keep yX0_keep, Cond.code yX0_keep cX0_keep 3 none]
def wsX3_restore : List Cond := .code yX3_restore cX3_restore 2 (some .int) :: ((wsX3_restore_r1 ++ wsX3_restore_r2) ++ wsX30 ++ wsX20 ++ wsX00)
def wsX4_at : List Cond := .code yX4_at cX4_at 2 (some .int) :: ([])
def wsX4_of3 : List Cond := .code yX4_of3 cX4_of3 2 (some .int) :: ([])
def wsX4_init : List Cond := .code yX4_init cX4_init 2 none :: ([.methodLink RX4 1 objectInit, .instanceMethod objectInit, .code objectInit ⟨#[0xb1]⟩ 1 none, .arrayClass .int, .fieldLink RX4 7 "ProofMarksModel" "s" "[I", .fieldLink RX4 13 "ProofMarksModel" "past" "[I", .fieldLink RX4 16 "ProofMarksModel" "slots" "[I", .arrayClass .boolean, .fieldLink RX4 19 "ProofMarksModel" "isSaved" "[Z", .fieldLink RX4 23 "ProofMarksModel" "pad" "[I", .methodLink RX4 26 yX4_at, .static yX4_at, .initialized RX4, .code yX4_at cX4_at 2 (some .int), .methodLink RX4 30 yX4_of3, .static yX4_of3, .code yX4_of3 cX4_of3 2 (some .int)] ++ wsX40)
def wsX4_in : List Cond := .code yX4_in cX4_in 3 (some .boolean) :: ([])
def wsX4_isFrame : List Cond := .code yX4_isFrame cX4_isFrame 1 (some .boolean) :: ([.methodLink RX4 33 yX4_in, .static yX4_in, .initialized RX4, .code yX4_in cX4_in 3 (some .boolean)])
def wsX4_isEditor : List Cond := .code yX4_isEditor cX4_isEditor 1 (some .boolean) :: ([.methodLink RX4 33 yX4_in, .static yX4_in, .initialized RX4, .code yX4_in cX4_in 3 (some .boolean)])
def wsX4_remembers : List Cond := .code yX4_remembers cX4_remembers 2 none :: ([.fieldLink RX4 37 "ProofMarksModel" "known" "I", .fieldLink RX4 13 "ProofMarksModel" "past" "[I", .fieldLink RX4 7 "ProofMarksModel" "s" "[I"] ++ wsX40)
def wsX4_power : List Cond := .code yX4_power cX4_power 1 (some .int) :: ([])
def wsX4_markOf : List Cond := .code yX4_markOf cX4_markOf 3 (some .int) :: ([.fieldLink RX4 7 "ProofMarksModel" "s" "[I", .methodLink RX4 26 yX4_at, .static yX4_at, .initialized RX4, .code yX4_at cX4_at 2 (some .int), .methodLink RX4 41 yX4_power, .static yX4_power, .code yX4_power cX4_power 1 (some .int)] ++ wsX40)
def wsX4_marks : List Cond := .code yX4_marks cX4_marks 4 none :: ([.fieldLink RX4 7 "ProofMarksModel" "s" "[I", .methodLink RX4 26 yX4_at, .static yX4_at, .initialized RX4, .code yX4_at cX4_at 2 (some .int), .methodLink RX4 41 yX4_power, .static yX4_power, .code yX4_power cX4_power 1 (some .int), .methodLink RX4 45 yX4_markOf, .instanceMethod yX4_markOf, .selects RX4 yX4_markOf yX4_markOf, .code yX4_markOf cX4_markOf 3 (some .int)] ++ wsX40)
def wsX4_withMark : List Cond := .code yX4_withMark cX4_withMark 5 (some .int) :: ([.methodLink RX4 45 yX4_markOf, .instanceMethod yX4_markOf, .selects RX4 yX4_markOf yX4_markOf, .initialized RX4, .code yX4_markOf cX4_markOf 3 (some .int), .fieldLink RX4 7 "ProofMarksModel" "s" "[I", .methodLink RX4 26 yX4_at, .static yX4_at, .code yX4_at cX4_at 2 (some .int), .methodLink RX4 41 yX4_power, .static yX4_power, .code yX4_power cX4_power 1 (some .int)] ++ wsX40)
def wsX4_ones : List Cond := .code yX4_ones cX4_ones 1 (some .int) :: ([])
def wsX4_marked : List Cond := .code yX4_marked cX4_marked 5 (some .int) :: ([.methodLink RX4 45 yX4_markOf, .instanceMethod yX4_markOf, .selects RX4 yX4_markOf yX4_markOf, .initialized RX4, .code yX4_markOf cX4_markOf 3 (some .int), .fieldLink RX4 7 "ProofMarksModel" "s" "[I", .methodLink RX4 26 yX4_at, .static yX4_at, .code yX4_at cX4_at 2 (some .int), .methodLink RX4 41 yX4_power, .static yX4_power, .code yX4_power cX4_power 1 (some .int)] ++ wsX40)
def wsX4_isOpen : List Cond := .code yX4_isOpen cX4_isOpen 2 (some .boolean) :: ([.fieldLink RX4 7 "ProofMarksModel" "s" "[I", .methodLink RX4 26 yX4_at, .static yX4_at, .initialized RX4, .code yX4_at cX4_at 2 (some .int)] ++ wsX40)
def wsX4_whyNotMark_r1 : List Cond := [Cond.fieldLink RX4 7 "ProofMarksModel" "s" "[I", Cond.methodLink RX4 48 yX4_isEditor, Cond.static yX4_isEditor, Cond.initialized RX4, Cond.code yX4_isEditor cX4_isEditor 1 (some .boolean), Cond.methodLink RX4 33 yX4_in, Cond.static yX4_in, Cond.code yX4_in cX4_in 3 (some .boolean), Cond.methodLink RX4 52 yX4_isFrame, Cond.static yX4_isFrame, Cond.code yX4_isFrame cX4_isFrame 1 (some .boolean), Cond.methodLink RX4 55 yX4_isOpen, Cond.instanceMethod yX4_isOpen, Cond.selects RX4 yX4_isOpen yX4_isOpen, Cond.code yX4_isOpen cX4_isOpen 2 (some .boolean), Cond.methodLink RX4 26 yX4_at, Cond.static yX4_at, Cond.code yX4_at cX4_at 2 (some .int), Cond.methodLink RX4 45 yX4_markOf, Cond.instanceMethod yX4_markOf, Cond.selects RX4 yX4_markOf yX4_markOf, Cond.code yX4_markOf cX4_markOf 3 (some .int), Cond.methodLink RX4 41 yX4_power, Cond.static yX4_power]
def wsX4_whyNotMark_r2 : List Cond := [Cond.code yX4_power cX4_power 1 (some .int), Cond.methodLink RX4 58 yX4_marked, Cond.instanceMethod yX4_marked, Cond.selects RX4 yX4_marked yX4_marked, Cond.code yX4_marked cX4_marked 5 (some .int)]
def wsX4_whyNotMark : List Cond := .code yX4_whyNotMark cX4_whyNotMark 5 (some .int) :: ((wsX4_whyNotMark_r1 ++ wsX4_whyNotMark_r2) ++ wsX40)
def wsX4_mark_r1 : List Cond := [Cond.methodLink RX4 61 yX4_whyNotMark, Cond.instanceMethod yX4_whyNotMark, Cond.selects RX4 yX4_whyNotMark yX4_whyNotMark, Cond.initialized RX4, Cond.code yX4_whyNotMark cX4_whyNotMark 5 (some .int), Cond.fieldLink RX4 7 "ProofMarksModel" "s" "[I", Cond.methodLink RX4 48 yX4_isEditor, Cond.static yX4_isEditor, Cond.code yX4_isEditor cX4_isEditor 1 (some .boolean), Cond.methodLink RX4 33 yX4_in, Cond.static yX4_in, Cond.code yX4_in cX4_in 3 (some .boolean), Cond.methodLink RX4 52 yX4_isFrame, Cond.static yX4_isFrame, Cond.code yX4_isFrame cX4_isFrame 1 (some .boolean), Cond.methodLink RX4 55 yX4_isOpen, Cond.instanceMethod yX4_isOpen, Cond.selects RX4 yX4_isOpen yX4_isOpen, Cond.code yX4_isOpen cX4_isOpen 2 (some .boolean), Cond.methodLink RX4 26 yX4_at, Cond.static yX4_at, Cond.code yX4_at cX4_at 2 (some .int), Cond.methodLink RX4 45 yX4_markOf, Cond.instanceMethod yX4_markOf]
def wsX4_mark_r2 : List Cond := [Cond.selects RX4 yX4_markOf yX4_markOf, Cond.code yX4_markOf cX4_markOf 3 (some .int), Cond.methodLink RX4 41 yX4_power, Cond.static yX4_power, Cond.code yX4_power cX4_power 1 (some .int), Cond.methodLink RX4 58 yX4_marked, Cond.instanceMethod yX4_marked, Cond.selects RX4 yX4_marked yX4_marked, Cond.code yX4_marked cX4_marked 5 (some .int), Cond.methodLink RX4 65 yX4_remembers, Cond.instanceMethod yX4_remembers, Cond.selects RX4 yX4_remembers yX4_remembers, Cond.code yX4_remembers cX4_remembers 2 none, Cond.fieldLink RX4 37 "ProofMarksModel" "known" "I", Cond.fieldLink RX4 13 "ProofMarksModel" "past" "[I", Cond.methodLink RX4 68 yX4_marks, Cond.instanceMethod yX4_marks, Cond.selects RX4 yX4_marks yX4_marks, Cond.code yX4_marks cX4_marks 4 none]
def wsX4_mark : List Cond := .code yX4_mark cX4_mark 6 (some .int) :: ((wsX4_mark_r1 ++ wsX4_mark_r2) ++ wsX40)
def wsX4_whyNotArgue : List Cond := .code yX4_whyNotArgue cX4_whyNotArgue 5 (some .int) :: ([.fieldLink RX4 7 "ProofMarksModel" "s" "[I", .methodLink RX4 48 yX4_isEditor, .static yX4_isEditor, .initialized RX4, .code yX4_isEditor cX4_isEditor 1 (some .boolean), .methodLink RX4 33 yX4_in, .static yX4_in, .code yX4_in cX4_in 3 (some .boolean), .methodLink RX4 52 yX4_isFrame, .static yX4_isFrame, .code yX4_isFrame cX4_isFrame 1 (some .boolean), .methodLink RX4 45 yX4_markOf, .instanceMethod yX4_markOf, .selects RX4 yX4_markOf yX4_markOf, .code yX4_markOf cX4_markOf 3 (some .int), .methodLink RX4 26 yX4_at, .static yX4_at, .code yX4_at cX4_at 2 (some .int), .methodLink RX4 41 yX4_power, .static yX4_power, .code yX4_power cX4_power 1 (some .int), .methodLink RX4 30 yX4_of3, .static yX4_of3, .code yX4_of3 cX4_of3 2 (some .int)] ++ wsX40)
def wsX4_argues : List Cond := .code yX4_argues cX4_argues 5 (some .int) :: ([.fieldLink RX4 7 "ProofMarksModel" "s" "[I", .methodLink RX4 30 yX4_of3, .static yX4_of3, .initialized RX4, .code yX4_of3 cX4_of3 2 (some .int), .methodLink RX4 68 yX4_marks, .instanceMethod yX4_marks, .selects RX4 yX4_marks yX4_marks, .code yX4_marks cX4_marks 4 none, .methodLink RX4 26 yX4_at, .static yX4_at, .code yX4_at cX4_at 2 (some .int), .methodLink RX4 41 yX4_power, .static yX4_power, .code yX4_power cX4_power 1 (some .int), .methodLink RX4 45 yX4_markOf, .instanceMethod yX4_markOf, .selects RX4 yX4_markOf yX4_markOf, .code yX4_markOf cX4_markOf 3 (some .int)] ++ wsX40)
def wsX4_argue_r1 : List Cond := [Cond.methodLink RX4 72 yX4_whyNotArgue, Cond.instanceMethod yX4_whyNotArgue, Cond.selects RX4 yX4_whyNotArgue yX4_whyNotArgue, Cond.initialized RX4, Cond.code yX4_whyNotArgue cX4_whyNotArgue 5 (some .int), Cond.fieldLink RX4 7 "ProofMarksModel" "s" "[I", Cond.methodLink RX4 48 yX4_isEditor, Cond.static yX4_isEditor, Cond.code yX4_isEditor cX4_isEditor 1 (some .boolean), Cond.methodLink RX4 33 yX4_in, Cond.static yX4_in, Cond.code yX4_in cX4_in 3 (some .boolean), Cond.methodLink RX4 52 yX4_isFrame, Cond.static yX4_isFrame, Cond.code yX4_isFrame cX4_isFrame 1 (some .boolean), Cond.methodLink RX4 45 yX4_markOf, Cond.instanceMethod yX4_markOf, Cond.selects RX4 yX4_markOf yX4_markOf, Cond.code yX4_markOf cX4_markOf 3 (some .int), Cond.methodLink RX4 26 yX4_at, Cond.static yX4_at, Cond.code yX4_at cX4_at 2 (some .int), Cond.methodLink RX4 41 yX4_power, Cond.static yX4_power]
def wsX4_argue_r2 : List Cond := [Cond.code yX4_power cX4_power 1 (some .int), Cond.methodLink RX4 30 yX4_of3, Cond.static yX4_of3, Cond.code yX4_of3 cX4_of3 2 (some .int), Cond.methodLink RX4 65 yX4_remembers, Cond.instanceMethod yX4_remembers, Cond.selects RX4 yX4_remembers yX4_remembers, Cond.code yX4_remembers cX4_remembers 2 none, Cond.fieldLink RX4 37 "ProofMarksModel" "known" "I", Cond.fieldLink RX4 13 "ProofMarksModel" "past" "[I", Cond.methodLink RX4 75 yX4_argues, Cond.instanceMethod yX4_argues, Cond.selects RX4 yX4_argues yX4_argues, Cond.code yX4_argues cX4_argues 5 (some .int), Cond.methodLink RX4 68 yX4_marks, Cond.instanceMethod yX4_marks, Cond.selects RX4 yX4_marks yX4_marks, Cond.code yX4_marks cX4_marks 4 none]
def wsX4_argue : List Cond := .code yX4_argue cX4_argue 5 (some .int) :: ((wsX4_argue_r1 ++ wsX4_argue_r2) ++ wsX40)
def wsX4_then : List Cond := .code yX4_then cX4_then 5 (some .int) :: ([.fieldLink RX4 7 "ProofMarksModel" "s" "[I", .methodLink RX4 78 yX4_withMark, .instanceMethod yX4_withMark, .selects RX4 yX4_withMark yX4_withMark, .initialized RX4, .code yX4_withMark cX4_withMark 5 (some .int), .methodLink RX4 45 yX4_markOf, .instanceMethod yX4_markOf, .selects RX4 yX4_markOf yX4_markOf, .code yX4_markOf cX4_markOf 3 (some .int), .methodLink RX4 26 yX4_at, .static yX4_at, .code yX4_at cX4_at 2 (some .int), .methodLink RX4 41 yX4_power, .static yX4_power, .code yX4_power cX4_power 1 (some .int), .methodLink RX4 81 yX4_ones, .static yX4_ones, .code yX4_ones cX4_ones 1 (some .int)] ++ wsX40)
def wsX4_judges_r1 : List Cond := [Cond.fieldLink RX4 7 "ProofMarksModel" "s" "[I", Cond.methodLink RX4 84 yX4_then, Cond.instanceMethod yX4_then, Cond.selects RX4 yX4_then yX4_then, Cond.initialized RX4, Cond.code yX4_then cX4_then 5 (some .int), Cond.methodLink RX4 78 yX4_withMark, Cond.instanceMethod yX4_withMark, Cond.selects RX4 yX4_withMark yX4_withMark, Cond.code yX4_withMark cX4_withMark 5 (some .int), Cond.methodLink RX4 45 yX4_markOf, Cond.instanceMethod yX4_markOf, Cond.selects RX4 yX4_markOf yX4_markOf, Cond.code yX4_markOf cX4_markOf 3 (some .int), Cond.methodLink RX4 26 yX4_at, Cond.static yX4_at, Cond.code yX4_at cX4_at 2 (some .int), Cond.methodLink RX4 41 yX4_power, Cond.static yX4_power, Cond.code yX4_power cX4_power 1 (some .int), Cond.methodLink RX4 81 yX4_ones, Cond.static yX4_ones, Cond.code yX4_ones cX4_ones 1 (some .int), Cond.methodLink RX4 30 yX4_of3]
def wsX4_judges_r2 : List Cond := [Cond.static yX4_of3, Cond.code yX4_of3 cX4_of3 2 (some .int)]
def wsX4_judges : List Cond := .code yX4_judges cX4_judges 6 none :: ((wsX4_judges_r1 ++ wsX4_judges_r2) ++ wsX40)
def wsX4_rounds_r1 : List Cond := [Cond.fieldLink RX4 7 "ProofMarksModel" "s" "[I", Cond.methodLink RX4 55 yX4_isOpen, Cond.instanceMethod yX4_isOpen, Cond.selects RX4 yX4_isOpen yX4_isOpen, Cond.initialized RX4, Cond.code yX4_isOpen cX4_isOpen 2 (some .boolean), Cond.methodLink RX4 26 yX4_at, Cond.static yX4_at, Cond.code yX4_at cX4_at 2 (some .int), Cond.methodLink RX4 87 yX4_judges, Cond.instanceMethod yX4_judges, Cond.selects RX4 yX4_judges yX4_judges, Cond.code yX4_judges cX4_judges 6 none, Cond.methodLink RX4 84 yX4_then, Cond.instanceMethod yX4_then, Cond.selects RX4 yX4_then yX4_then, Cond.code yX4_then cX4_then 5 (some .int), Cond.methodLink RX4 78 yX4_withMark, Cond.instanceMethod yX4_withMark, Cond.selects RX4 yX4_withMark yX4_withMark, Cond.code yX4_withMark cX4_withMark 5 (some .int), Cond.methodLink RX4 45 yX4_markOf, Cond.instanceMethod yX4_markOf, Cond.selects RX4 yX4_markOf yX4_markOf]
def wsX4_rounds_r2 : List Cond := [Cond.code yX4_markOf cX4_markOf 3 (some .int), Cond.methodLink RX4 41 yX4_power, Cond.static yX4_power, Cond.code yX4_power cX4_power 1 (some .int), Cond.methodLink RX4 81 yX4_ones, Cond.static yX4_ones, Cond.code yX4_ones cX4_ones 1 (some .int), Cond.methodLink RX4 30 yX4_of3, Cond.static yX4_of3, Cond.code yX4_of3 cX4_of3 2 (some .int)]
def wsX4_rounds : List Cond := .code yX4_rounds cX4_rounds 4 (some .int) :: ((wsX4_rounds_r1 ++ wsX4_rounds_r2) ++ wsX40)
def wsX4_round_r1 : List Cond := [Cond.fieldLink RX4 7 "ProofMarksModel" "s" "[I", Cond.methodLink RX4 65 yX4_remembers, Cond.instanceMethod yX4_remembers, Cond.selects RX4 yX4_remembers yX4_remembers, Cond.initialized RX4, Cond.code yX4_remembers cX4_remembers 2 none, Cond.fieldLink RX4 37 "ProofMarksModel" "known" "I", Cond.fieldLink RX4 13 "ProofMarksModel" "past" "[I", Cond.methodLink RX4 91 yX4_rounds, Cond.instanceMethod yX4_rounds, Cond.selects RX4 yX4_rounds yX4_rounds, Cond.code yX4_rounds cX4_rounds 4 (some .int), Cond.methodLink RX4 55 yX4_isOpen, Cond.instanceMethod yX4_isOpen, Cond.selects RX4 yX4_isOpen yX4_isOpen, Cond.code yX4_isOpen cX4_isOpen 2 (some .boolean), Cond.methodLink RX4 26 yX4_at, Cond.static yX4_at, Cond.code yX4_at cX4_at 2 (some .int), Cond.methodLink RX4 87 yX4_judges, Cond.instanceMethod yX4_judges, Cond.selects RX4 yX4_judges yX4_judges, Cond.code yX4_judges cX4_judges 6 none, Cond.methodLink RX4 84 yX4_then]
def wsX4_round_r2 : List Cond := [Cond.instanceMethod yX4_then, Cond.selects RX4 yX4_then yX4_then, Cond.code yX4_then cX4_then 5 (some .int), Cond.methodLink RX4 78 yX4_withMark, Cond.instanceMethod yX4_withMark, Cond.selects RX4 yX4_withMark yX4_withMark, Cond.code yX4_withMark cX4_withMark 5 (some .int), Cond.methodLink RX4 45 yX4_markOf, Cond.instanceMethod yX4_markOf, Cond.selects RX4 yX4_markOf yX4_markOf, Cond.code yX4_markOf cX4_markOf 3 (some .int), Cond.methodLink RX4 41 yX4_power, Cond.static yX4_power, Cond.code yX4_power cX4_power 1 (some .int), Cond.methodLink RX4 81 yX4_ones, Cond.static yX4_ones, Cond.code yX4_ones cX4_ones 1 (some .int), Cond.methodLink RX4 30 yX4_of3, Cond.static yX4_of3, Cond.code yX4_of3 cX4_of3 2 (some .int)]
def wsX4_round : List Cond := .code yX4_round cX4_round 1 (some .int) :: ((wsX4_round_r1 ++ wsX4_round_r2) ++ wsX40)
def wsX4_paperOf : List Cond := .code yX4_paperOf cX4_paperOf 1 (some .int) :: ([])
def wsX4_whyNotPrint : List Cond := .code yX4_whyNotPrint cX4_whyNotPrint 4 (some .int) :: ([.fieldLink RX4 7 "ProofMarksModel" "s" "[I", .methodLink RX4 52 yX4_isFrame, .static yX4_isFrame, .initialized RX4, .code yX4_isFrame cX4_isFrame 1 (some .boolean), .methodLink RX4 33 yX4_in, .static yX4_in, .code yX4_in cX4_in 3 (some .boolean), .methodLink RX4 26 yX4_at, .static yX4_at, .code yX4_at cX4_at 2 (some .int), .methodLink RX4 95 yX4_paperOf, .static yX4_paperOf, .code yX4_paperOf cX4_paperOf 1 (some .int)] ++ wsX40)
def wsX4_prints : List Cond := .code yX4_prints cX4_prints 3 (some .int) :: ([.fieldLink RX4 7 "ProofMarksModel" "s" "[I", .methodLink RX4 26 yX4_at, .static yX4_at, .initialized RX4, .code yX4_at cX4_at 2 (some .int), .methodLink RX4 95 yX4_paperOf, .static yX4_paperOf, .code yX4_paperOf cX4_paperOf 1 (some .int)] ++ wsX40)
def wsX4_print_r1 : List Cond := [Cond.methodLink RX4 98 yX4_whyNotPrint, Cond.instanceMethod yX4_whyNotPrint, Cond.selects RX4 yX4_whyNotPrint yX4_whyNotPrint, Cond.initialized RX4, Cond.code yX4_whyNotPrint cX4_whyNotPrint 4 (some .int), Cond.fieldLink RX4 7 "ProofMarksModel" "s" "[I", Cond.methodLink RX4 52 yX4_isFrame, Cond.static yX4_isFrame, Cond.code yX4_isFrame cX4_isFrame 1 (some .boolean), Cond.methodLink RX4 33 yX4_in, Cond.static yX4_in, Cond.code yX4_in cX4_in 3 (some .boolean), Cond.methodLink RX4 26 yX4_at, Cond.static yX4_at, Cond.code yX4_at cX4_at 2 (some .int), Cond.methodLink RX4 95 yX4_paperOf, Cond.static yX4_paperOf, Cond.code yX4_paperOf cX4_paperOf 1 (some .int), Cond.methodLink RX4 65 yX4_remembers, Cond.instanceMethod yX4_remembers, Cond.selects RX4 yX4_remembers yX4_remembers, Cond.code yX4_remembers cX4_remembers 2 none, Cond.fieldLink RX4 37 "ProofMarksModel" "known" "I", Cond.fieldLink RX4 13 "ProofMarksModel" "past" "[I"]
def wsX4_print_r2 : List Cond := [Cond.methodLink RX4 101 yX4_prints, Cond.instanceMethod yX4_prints, Cond.selects RX4 yX4_prints yX4_prints, Cond.code yX4_prints cX4_prints 3 (some .int)]
def wsX4_print : List Cond := .code yX4_print cX4_print 4 (some .int) :: ((wsX4_print_r1 ++ wsX4_print_r2) ++ wsX40)
def wsX4_buys : List Cond := .code yX4_buys cX4_buys 2 (some .int) :: ([.fieldLink RX4 7 "ProofMarksModel" "s" "[I"] ++ wsX40)
def wsX4_buy : List Cond := .code yX4_buy cX4_buy 2 (some .int) :: ([.methodLink RX4 33 yX4_in, .static yX4_in, .initialized RX4, .code yX4_in cX4_in 3 (some .boolean), .methodLink RX4 65 yX4_remembers, .instanceMethod yX4_remembers, .selects RX4 yX4_remembers yX4_remembers, .code yX4_remembers cX4_remembers 2 none, .fieldLink RX4 37 "ProofMarksModel" "known" "I", .fieldLink RX4 13 "ProofMarksModel" "past" "[I", .fieldLink RX4 7 "ProofMarksModel" "s" "[I", .methodLink RX4 104 yX4_buys, .instanceMethod yX4_buys, .selects RX4 yX4_buys yX4_buys, .code yX4_buys cX4_buys 2 (some .int)] ++ wsX40)
def wsX4_reopen : List Cond := .code yX4_reopen cX4_reopen 3 (some .int) :: ([.fieldLink RX4 7 "ProofMarksModel" "s" "[I", .methodLink RX4 52 yX4_isFrame, .static yX4_isFrame, .initialized RX4, .code yX4_isFrame cX4_isFrame 1 (some .boolean), .methodLink RX4 33 yX4_in, .static yX4_in, .code yX4_in cX4_in 3 (some .boolean), .methodLink RX4 26 yX4_at, .static yX4_at, .code yX4_at cX4_at 2 (some .int), .methodLink RX4 65 yX4_remembers, .instanceMethod yX4_remembers, .selects RX4 yX4_remembers yX4_remembers, .code yX4_remembers cX4_remembers 2 none, .fieldLink RX4 37 "ProofMarksModel" "known" "I", .fieldLink RX4 13 "ProofMarksModel" "past" "[I"] ++ wsX40)
def wsX4_canSet : List Cond := .code yX4_canSet cX4_canSet 2 (some .boolean) :: ([.methodLink RX4 33 yX4_in, .static yX4_in, .initialized RX4, .code yX4_in cX4_in 3 (some .boolean)])
def wsX4_set : List Cond := .code yX4_set cX4_set 4 (some .int) :: ([.fieldLink RX4 7 "ProofMarksModel" "s" "[I", .methodLink RX4 107 yX4_canSet, .static yX4_canSet, .initialized RX4, .code yX4_canSet cX4_canSet 2 (some .boolean), .methodLink RX4 33 yX4_in, .static yX4_in, .code yX4_in cX4_in 3 (some .boolean), .methodLink RX4 65 yX4_remembers, .instanceMethod yX4_remembers, .selects RX4 yX4_remembers yX4_remembers, .code yX4_remembers cX4_remembers 2 none, .fieldLink RX4 37 "ProofMarksModel" "known" "I", .fieldLink RX4 13 "ProofMarksModel" "past" "[I"] ++ wsX40)
def wsX4_of : List Cond := .code yX4_of cX4_of 3 (some .int) :: ([.fieldLink RX4 7 "ProofMarksModel" "s" "[I", .methodLink RX4 52 yX4_isFrame, .static yX4_isFrame, .initialized RX4, .code yX4_isFrame cX4_isFrame 1 (some .boolean), .methodLink RX4 33 yX4_in, .static yX4_in, .code yX4_in cX4_in 3 (some .boolean), .methodLink RX4 26 yX4_at, .static yX4_at, .code yX4_at cX4_at 2 (some .int), .methodLink RX4 78 yX4_withMark, .instanceMethod yX4_withMark, .selects RX4 yX4_withMark yX4_withMark, .code yX4_withMark cX4_withMark 5 (some .int), .methodLink RX4 45 yX4_markOf, .instanceMethod yX4_markOf, .selects RX4 yX4_markOf yX4_markOf, .code yX4_markOf cX4_markOf 3 (some .int), .methodLink RX4 41 yX4_power, .static yX4_power, .code yX4_power cX4_power 1 (some .int)] ++ wsX40)
def wsX4_vetoesLeft : List Cond := .code yX4_vetoesLeft cX4_vetoesLeft 3 (some .int) :: ([.fieldLink RX4 7 "ProofMarksModel" "s" "[I", .methodLink RX4 58 yX4_marked, .instanceMethod yX4_marked, .selects RX4 yX4_marked yX4_marked, .initialized RX4, .code yX4_marked cX4_marked 5 (some .int), .methodLink RX4 45 yX4_markOf, .instanceMethod yX4_markOf, .selects RX4 yX4_markOf yX4_markOf, .code yX4_markOf cX4_markOf 3 (some .int), .methodLink RX4 26 yX4_at, .static yX4_at, .code yX4_at cX4_at 2 (some .int), .methodLink RX4 41 yX4_power, .static yX4_power, .code yX4_power cX4_power 1 (some .int)] ++ wsX40)
def wsX4_editor_r1 : List Cond := [Cond.fieldLink RX4 7 "ProofMarksModel" "s" "[I", Cond.methodLink RX4 48 yX4_isEditor, Cond.static yX4_isEditor, Cond.initialized RX4, Cond.code yX4_isEditor cX4_isEditor 1 (some .boolean), Cond.methodLink RX4 33 yX4_in, Cond.static yX4_in, Cond.code yX4_in cX4_in 3 (some .boolean), Cond.methodLink RX4 30 yX4_of3, Cond.static yX4_of3, Cond.code yX4_of3 cX4_of3 2 (some .int), Cond.methodLink RX4 58 yX4_marked, Cond.instanceMethod yX4_marked, Cond.selects RX4 yX4_marked yX4_marked, Cond.code yX4_marked cX4_marked 5 (some .int), Cond.methodLink RX4 45 yX4_markOf, Cond.instanceMethod yX4_markOf, Cond.selects RX4 yX4_markOf yX4_markOf, Cond.code yX4_markOf cX4_markOf 3 (some .int), Cond.methodLink RX4 26 yX4_at, Cond.static yX4_at, Cond.code yX4_at cX4_at 2 (some .int), Cond.methodLink RX4 41 yX4_power, Cond.static yX4_power]
def wsX4_editor_r2 : List Cond := [Cond.code yX4_power cX4_power 1 (some .int), Cond.methodLink RX4 111 yX4_vetoesLeft, Cond.instanceMethod yX4_vetoesLeft, Cond.selects RX4 yX4_vetoesLeft yX4_vetoesLeft, Cond.code yX4_vetoesLeft cX4_vetoesLeft 3 (some .int)]
def wsX4_editor : List Cond := .code yX4_editor cX4_editor 3 (some .int) :: ((wsX4_editor_r1 ++ wsX4_editor_r2) ++ wsX40)
def wsX4_isTaken : List Cond := .code yX4_isTaken cX4_isTaken 2 (some .boolean) :: ([.fieldLink RX4 7 "ProofMarksModel" "s" "[I", .methodLink RX4 26 yX4_at, .static yX4_at, .initialized RX4, .code yX4_at cX4_at 2 (some .int)] ++ wsX40)
def wsX4_ahead : List Cond := .code yX4_ahead cX4_ahead 5 (some .int) :: ([.fieldLink RX4 7 "ProofMarksModel" "s" "[I", .methodLink RX4 26 yX4_at, .static yX4_at, .initialized RX4, .code yX4_at cX4_at 2 (some .int), .methodLink RX4 114 yX4_isTaken, .instanceMethod yX4_isTaken, .selects RX4 yX4_isTaken yX4_isTaken, .code yX4_isTaken cX4_isTaken 2 (some .boolean)] ++ wsX40)
def wsX4_chosen : List Cond := .code yX4_chosen cX4_chosen 3 (some .int) :: ([.methodLink RX4 114 yX4_isTaken, .instanceMethod yX4_isTaken, .selects RX4 yX4_isTaken yX4_isTaken, .initialized RX4, .code yX4_isTaken cX4_isTaken 2 (some .boolean), .fieldLink RX4 7 "ProofMarksModel" "s" "[I", .methodLink RX4 26 yX4_at, .static yX4_at, .code yX4_at cX4_at 2 (some .int), .methodLink RX4 117 yX4_ahead, .instanceMethod yX4_ahead, .selects RX4 yX4_ahead yX4_ahead, .code yX4_ahead cX4_ahead 5 (some .int)] ++ wsX40)
def wsX4_howMany : List Cond := .code yX4_howMany cX4_howMany 4 (some .int) :: ([.fieldLink RX4 7 "ProofMarksModel" "s" "[I", .methodLink RX4 26 yX4_at, .static yX4_at, .initialized RX4, .code yX4_at cX4_at 2 (some .int)] ++ wsX40)
def wsX4_longestRow : List Cond := .code yX4_longestRow cX4_longestRow 4 (some .int) :: ([.methodLink RX4 114 yX4_isTaken, .instanceMethod yX4_isTaken, .selects RX4 yX4_isTaken yX4_isTaken, .initialized RX4, .code yX4_isTaken cX4_isTaken 2 (some .boolean), .fieldLink RX4 7 "ProofMarksModel" "s" "[I", .methodLink RX4 26 yX4_at, .static yX4_at, .code yX4_at cX4_at 2 (some .int)] ++ wsX40)
def wsX4_count : List Cond := .code yX4_count cX4_count 2 (some .int) :: ([.fieldLink RX4 7 "ProofMarksModel" "s" "[I", .fieldLink RX4 126 "ProofMarksModel" "length" "I", .fieldLink RX4 37 "ProofMarksModel" "known" "I", .methodLink RX4 120 yX4_howMany, .instanceMethod yX4_howMany, .selects RX4 yX4_howMany yX4_howMany, .initialized RX4, .code yX4_howMany cX4_howMany 4 (some .int), .methodLink RX4 26 yX4_at, .static yX4_at, .code yX4_at cX4_at 2 (some .int), .methodLink RX4 123 yX4_longestRow, .instanceMethod yX4_longestRow, .selects RX4 yX4_longestRow yX4_longestRow, .code yX4_longestRow cX4_longestRow 4 (some .int), .methodLink RX4 114 yX4_isTaken, .instanceMethod yX4_isTaken, .selects RX4 yX4_isTaken yX4_isTaken, .code yX4_isTaken cX4_isTaken 2 (some .boolean), .methodLink RX4 33 yX4_in, .static yX4_in, .code yX4_in cX4_in 3 (some .boolean)] ++ wsX40)
def wsX4_reason : List Cond := .code yX4_reason cX4_reason 2 (some .int) :: ([.fieldLink RX4 7 "ProofMarksModel" "s" "[I", .methodLink RX4 55 yX4_isOpen, .instanceMethod yX4_isOpen, .selects RX4 yX4_isOpen yX4_isOpen, .initialized RX4, .code yX4_isOpen cX4_isOpen 2 (some .boolean), .methodLink RX4 26 yX4_at, .static yX4_at, .code yX4_at cX4_at 2 (some .int), .methodLink RX4 78 yX4_withMark, .instanceMethod yX4_withMark, .selects RX4 yX4_withMark yX4_withMark, .code yX4_withMark cX4_withMark 5 (some .int), .methodLink RX4 45 yX4_markOf, .instanceMethod yX4_markOf, .selects RX4 yX4_markOf yX4_markOf, .code yX4_markOf cX4_markOf 3 (some .int), .methodLink RX4 41 yX4_power, .static yX4_power, .code yX4_power cX4_power 1 (some .int), .methodLink RX4 81 yX4_ones, .static yX4_ones, .code yX4_ones cX4_ones 1 (some .int)] ++ wsX40)
def wsX4_why_r1 : List Cond := [Cond.methodLink RX4 52 yX4_isFrame, Cond.static yX4_isFrame, Cond.initialized RX4, Cond.code yX4_isFrame cX4_isFrame 1 (some .boolean), Cond.methodLink RX4 33 yX4_in, Cond.static yX4_in, Cond.code yX4_in cX4_in 3 (some .boolean), Cond.methodLink RX4 129 yX4_reason, Cond.instanceMethod yX4_reason, Cond.selects RX4 yX4_reason yX4_reason, Cond.code yX4_reason cX4_reason 2 (some .int), Cond.fieldLink RX4 7 "ProofMarksModel" "s" "[I", Cond.methodLink RX4 55 yX4_isOpen, Cond.instanceMethod yX4_isOpen, Cond.selects RX4 yX4_isOpen yX4_isOpen, Cond.code yX4_isOpen cX4_isOpen 2 (some .boolean), Cond.methodLink RX4 26 yX4_at, Cond.static yX4_at, Cond.code yX4_at cX4_at 2 (some .int), Cond.methodLink RX4 78 yX4_withMark, Cond.instanceMethod yX4_withMark, Cond.selects RX4 yX4_withMark yX4_withMark, Cond.code yX4_withMark cX4_withMark 5 (some .int), Cond.methodLink RX4 45 yX4_markOf]
def wsX4_why_r2 : List Cond := [Cond.instanceMethod yX4_markOf, Cond.selects RX4 yX4_markOf yX4_markOf, Cond.code yX4_markOf cX4_markOf 3 (some .int), Cond.methodLink RX4 41 yX4_power, Cond.static yX4_power, Cond.code yX4_power cX4_power 1 (some .int), Cond.methodLink RX4 81 yX4_ones, Cond.static yX4_ones, Cond.code yX4_ones cX4_ones 1 (some .int)]
def wsX4_why : List Cond := .code yX4_why cX4_why 2 (some .int) :: ((wsX4_why_r1 ++ wsX4_why_r2) ++ wsX40)
def wsX4_ifRound_r1 : List Cond := [Cond.methodLink RX4 33 yX4_in, Cond.static yX4_in, Cond.initialized RX4, Cond.code yX4_in cX4_in 3 (some .boolean), Cond.methodLink RX4 55 yX4_isOpen, Cond.instanceMethod yX4_isOpen, Cond.selects RX4 yX4_isOpen yX4_isOpen, Cond.code yX4_isOpen cX4_isOpen 2 (some .boolean), Cond.fieldLink RX4 7 "ProofMarksModel" "s" "[I", Cond.methodLink RX4 26 yX4_at, Cond.static yX4_at, Cond.code yX4_at cX4_at 2 (some .int), Cond.methodLink RX4 84 yX4_then, Cond.instanceMethod yX4_then, Cond.selects RX4 yX4_then yX4_then, Cond.code yX4_then cX4_then 5 (some .int), Cond.methodLink RX4 78 yX4_withMark, Cond.instanceMethod yX4_withMark, Cond.selects RX4 yX4_withMark yX4_withMark, Cond.code yX4_withMark cX4_withMark 5 (some .int), Cond.methodLink RX4 45 yX4_markOf, Cond.instanceMethod yX4_markOf, Cond.selects RX4 yX4_markOf yX4_markOf, Cond.code yX4_markOf cX4_markOf 3 (some .int)]
def wsX4_ifRound_r2 : List Cond := [Cond.methodLink RX4 41 yX4_power, Cond.static yX4_power, Cond.code yX4_power cX4_power 1 (some .int), Cond.methodLink RX4 81 yX4_ones, Cond.static yX4_ones, Cond.code yX4_ones cX4_ones 1 (some .int)]
def wsX4_ifRound : List Cond := .code yX4_ifRound cX4_ifRound 5 (some .int) :: ((wsX4_ifRound_r1 ++ wsX4_ifRound_r2) ++ wsX40)
def wsX4_matters_r1 : List Cond := [Cond.methodLink RX4 45 yX4_markOf, Cond.instanceMethod yX4_markOf, Cond.selects RX4 yX4_markOf yX4_markOf, Cond.initialized RX4, Cond.code yX4_markOf cX4_markOf 3 (some .int), Cond.fieldLink RX4 7 "ProofMarksModel" "s" "[I", Cond.methodLink RX4 26 yX4_at, Cond.static yX4_at, Cond.code yX4_at cX4_at 2 (some .int), Cond.methodLink RX4 41 yX4_power, Cond.static yX4_power, Cond.code yX4_power cX4_power 1 (some .int), Cond.methodLink RX4 68 yX4_marks, Cond.instanceMethod yX4_marks, Cond.selects RX4 yX4_marks yX4_marks, Cond.code yX4_marks cX4_marks 4 none, Cond.methodLink RX4 129 yX4_reason, Cond.instanceMethod yX4_reason, Cond.selects RX4 yX4_reason yX4_reason, Cond.code yX4_reason cX4_reason 2 (some .int), Cond.methodLink RX4 55 yX4_isOpen, Cond.instanceMethod yX4_isOpen, Cond.selects RX4 yX4_isOpen yX4_isOpen, Cond.code yX4_isOpen cX4_isOpen 2 (some .boolean)]
def wsX4_matters_r2 : List Cond := [Cond.methodLink RX4 78 yX4_withMark, Cond.instanceMethod yX4_withMark, Cond.selects RX4 yX4_withMark yX4_withMark, Cond.code yX4_withMark cX4_withMark 5 (some .int), Cond.methodLink RX4 81 yX4_ones, Cond.static yX4_ones, Cond.code yX4_ones cX4_ones 1 (some .int)]
def wsX4_matters : List Cond := .code yX4_matters cX4_matters 6 (some .boolean) :: ((wsX4_matters_r1 ++ wsX4_matters_r2) ++ wsX40)
def wsX4_decides_r1 : List Cond := [Cond.methodLink RX4 52 yX4_isFrame, Cond.static yX4_isFrame, Cond.initialized RX4, Cond.code yX4_isFrame cX4_isFrame 1 (some .boolean), Cond.methodLink RX4 33 yX4_in, Cond.static yX4_in, Cond.code yX4_in cX4_in 3 (some .boolean), Cond.methodLink RX4 55 yX4_isOpen, Cond.instanceMethod yX4_isOpen, Cond.selects RX4 yX4_isOpen yX4_isOpen, Cond.code yX4_isOpen cX4_isOpen 2 (some .boolean), Cond.fieldLink RX4 7 "ProofMarksModel" "s" "[I", Cond.methodLink RX4 26 yX4_at, Cond.static yX4_at, Cond.code yX4_at cX4_at 2 (some .int), Cond.methodLink RX4 132 yX4_matters, Cond.instanceMethod yX4_matters, Cond.selects RX4 yX4_matters yX4_matters, Cond.code yX4_matters cX4_matters 6 (some .boolean), Cond.methodLink RX4 45 yX4_markOf, Cond.instanceMethod yX4_markOf, Cond.selects RX4 yX4_markOf yX4_markOf, Cond.code yX4_markOf cX4_markOf 3 (some .int), Cond.methodLink RX4 41 yX4_power]
def wsX4_decides_r2 : List Cond := [Cond.static yX4_power, Cond.code yX4_power cX4_power 1 (some .int), Cond.methodLink RX4 68 yX4_marks, Cond.instanceMethod yX4_marks, Cond.selects RX4 yX4_marks yX4_marks, Cond.code yX4_marks cX4_marks 4 none, Cond.methodLink RX4 129 yX4_reason, Cond.instanceMethod yX4_reason, Cond.selects RX4 yX4_reason yX4_reason, Cond.code yX4_reason cX4_reason 2 (some .int), Cond.methodLink RX4 78 yX4_withMark, Cond.instanceMethod yX4_withMark, Cond.selects RX4 yX4_withMark yX4_withMark, Cond.code yX4_withMark cX4_withMark 5 (some .int), Cond.methodLink RX4 81 yX4_ones, Cond.static yX4_ones, Cond.code yX4_ones cX4_ones 1 (some .int)]
def wsX4_decides : List Cond := .code yX4_decides cX4_decides 4 (some .int) :: ((wsX4_decides_r1 ++ wsX4_decides_r2) ++ wsX40)
def wsX4_agree : List Cond := .code yX4_agree cX4_agree 7 (some .int) :: ([.methodLink RX4 48 yX4_isEditor, .static yX4_isEditor, .initialized RX4, .code yX4_isEditor cX4_isEditor 1 (some .boolean), .methodLink RX4 33 yX4_in, .static yX4_in, .code yX4_in cX4_in 3 (some .boolean), .methodLink RX4 55 yX4_isOpen, .instanceMethod yX4_isOpen, .selects RX4 yX4_isOpen yX4_isOpen, .code yX4_isOpen cX4_isOpen 2 (some .boolean), .fieldLink RX4 7 "ProofMarksModel" "s" "[I", .methodLink RX4 26 yX4_at, .static yX4_at, .code yX4_at cX4_at 2 (some .int), .methodLink RX4 45 yX4_markOf, .instanceMethod yX4_markOf, .selects RX4 yX4_markOf yX4_markOf, .code yX4_markOf cX4_markOf 3 (some .int), .methodLink RX4 41 yX4_power, .static yX4_power, .code yX4_power cX4_power 1 (some .int)] ++ wsX40)
def wsX4_paperFor : List Cond := .code yX4_paperFor cX4_paperFor 3 (some .int) :: ([.fieldLink RX4 7 "ProofMarksModel" "s" "[I", .methodLink RX4 26 yX4_at, .static yX4_at, .initialized RX4, .code yX4_at cX4_at 2 (some .int), .methodLink RX4 95 yX4_paperOf, .static yX4_paperOf, .code yX4_paperOf cX4_paperOf 1 (some .int)] ++ wsX40)
def wsX4_put : List Cond := .code yX4_put cX4_put 8 (some .int) :: ([.constantLong RX4 135 (255), .fieldLink RX4 126 "ProofMarksModel" "length" "I", .fieldLink RX4 23 "ProofMarksModel" "pad" "[I", .methodLink RX4 33 yX4_in, .static yX4_in, .initialized RX4, .code yX4_in cX4_in 3 (some .boolean)] ++ wsX40)
def wsX4_wipe : List Cond := .code yX4_wipe cX4_wipe 2 (some .int) :: ([.fieldLink RX4 126 "ProofMarksModel" "length" "I"] ++ wsX40)
def wsX4_sign : List Cond := .code yX4_sign cX4_sign 2 (some .int) :: ([.fieldLink RX4 126 "ProofMarksModel" "length" "I", .fieldLink RX4 23 "ProofMarksModel" "pad" "[I"] ++ wsX40)
def wsX4_digit : List Cond := .code yX4_digit cX4_digit 2 (some .int) :: ([.methodLink RX4 137 yX4_sign, .instanceMethod yX4_sign, .selects RX4 yX4_sign yX4_sign, .initialized RX4, .code yX4_sign cX4_sign 2 (some .int), .fieldLink RX4 126 "ProofMarksModel" "length" "I", .fieldLink RX4 23 "ProofMarksModel" "pad" "[I", .methodLink RX4 33 yX4_in, .static yX4_in, .code yX4_in cX4_in 3 (some .boolean)] ++ wsX40)
def wsX4_numberEnd : List Cond := .code yX4_numberEnd cX4_numberEnd 2 (some .int) :: ([.methodLink RX4 140 yX4_digit, .instanceMethod yX4_digit, .selects RX4 yX4_digit yX4_digit, .initialized RX4, .code yX4_digit cX4_digit 2 (some .int), .methodLink RX4 137 yX4_sign, .instanceMethod yX4_sign, .selects RX4 yX4_sign yX4_sign, .code yX4_sign cX4_sign 2 (some .int), .fieldLink RX4 126 "ProofMarksModel" "length" "I", .fieldLink RX4 23 "ProofMarksModel" "pad" "[I", .methodLink RX4 33 yX4_in, .static yX4_in, .code yX4_in cX4_in 3 (some .boolean)] ++ wsX40)
def wsX4_numberAt : List Cond := .code yX4_numberAt cX4_numberAt 2 (some .int) :: ([.methodLink RX4 143 yX4_numberEnd, .instanceMethod yX4_numberEnd, .selects RX4 yX4_numberEnd yX4_numberEnd, .initialized RX4, .code yX4_numberEnd cX4_numberEnd 2 (some .int), .methodLink RX4 140 yX4_digit, .instanceMethod yX4_digit, .selects RX4 yX4_digit yX4_digit, .code yX4_digit cX4_digit 2 (some .int), .methodLink RX4 137 yX4_sign, .instanceMethod yX4_sign, .selects RX4 yX4_sign yX4_sign, .code yX4_sign cX4_sign 2 (some .int), .fieldLink RX4 126 "ProofMarksModel" "length" "I", .fieldLink RX4 23 "ProofMarksModel" "pad" "[I", .methodLink RX4 33 yX4_in, .static yX4_in, .code yX4_in cX4_in 3 (some .boolean)] ++ wsX40)
def wsX4_digitEnd : List Cond := .code yX4_digitEnd cX4_digitEnd 2 (some .int) :: ([.methodLink RX4 140 yX4_digit, .instanceMethod yX4_digit, .selects RX4 yX4_digit yX4_digit, .initialized RX4, .code yX4_digit cX4_digit 2 (some .int), .methodLink RX4 137 yX4_sign, .instanceMethod yX4_sign, .selects RX4 yX4_sign yX4_sign, .code yX4_sign cX4_sign 2 (some .int), .fieldLink RX4 126 "ProofMarksModel" "length" "I", .fieldLink RX4 23 "ProofMarksModel" "pad" "[I", .methodLink RX4 33 yX4_in, .static yX4_in, .code yX4_in cX4_in 3 (some .boolean)] ++ wsX40)
def wsX4_behind : List Cond := .code yX4_behind cX4_behind 3 (some .int) :: ([.methodLink RX4 137 yX4_sign, .instanceMethod yX4_sign, .selects RX4 yX4_sign yX4_sign, .initialized RX4, .code yX4_sign cX4_sign 2 (some .int), .fieldLink RX4 126 "ProofMarksModel" "length" "I", .fieldLink RX4 23 "ProofMarksModel" "pad" "[I"] ++ wsX40)
def wsX4_orderEnd_r1 : List Cond := [Cond.methodLink RX4 137 yX4_sign, Cond.instanceMethod yX4_sign, Cond.selects RX4 yX4_sign yX4_sign, Cond.initialized RX4, Cond.code yX4_sign cX4_sign 2 (some .int), Cond.fieldLink RX4 126 "ProofMarksModel" "length" "I", Cond.fieldLink RX4 23 "ProofMarksModel" "pad" "[I", Cond.methodLink RX4 146 yX4_digitEnd, Cond.instanceMethod yX4_digitEnd, Cond.selects RX4 yX4_digitEnd yX4_digitEnd, Cond.code yX4_digitEnd cX4_digitEnd 2 (some .int), Cond.methodLink RX4 140 yX4_digit, Cond.instanceMethod yX4_digit, Cond.selects RX4 yX4_digit yX4_digit, Cond.code yX4_digit cX4_digit 2 (some .int), Cond.methodLink RX4 33 yX4_in, Cond.static yX4_in, Cond.code yX4_in cX4_in 3 (some .boolean), Cond.methodLink RX4 149 yX4_behind, Cond.instanceMethod yX4_behind, Cond.selects RX4 yX4_behind yX4_behind, Cond.code yX4_behind cX4_behind 3 (some .int), Cond.methodLink RX4 143 yX4_numberEnd, Cond.instanceMethod yX4_numberEnd]
def wsX4_orderEnd_r2 : List Cond := [Cond.selects RX4 yX4_numberEnd yX4_numberEnd, Cond.code yX4_numberEnd cX4_numberEnd 2 (some .int)]
def wsX4_orderEnd : List Cond := .code yX4_orderEnd cX4_orderEnd 2 (some .int) :: ((wsX4_orderEnd_r1 ++ wsX4_orderEnd_r2) ++ wsX40)
def wsX4_fault_r1 : List Cond := [Cond.fieldLink RX4 126 "ProofMarksModel" "length" "I", Cond.methodLink RX4 152 yX4_orderEnd, Cond.instanceMethod yX4_orderEnd, Cond.selects RX4 yX4_orderEnd yX4_orderEnd, Cond.initialized RX4, Cond.code yX4_orderEnd cX4_orderEnd 2 (some .int), Cond.methodLink RX4 137 yX4_sign, Cond.instanceMethod yX4_sign, Cond.selects RX4 yX4_sign yX4_sign, Cond.code yX4_sign cX4_sign 2 (some .int), Cond.fieldLink RX4 23 "ProofMarksModel" "pad" "[I", Cond.methodLink RX4 146 yX4_digitEnd, Cond.instanceMethod yX4_digitEnd, Cond.selects RX4 yX4_digitEnd yX4_digitEnd, Cond.code yX4_digitEnd cX4_digitEnd 2 (some .int), Cond.methodLink RX4 140 yX4_digit, Cond.instanceMethod yX4_digit, Cond.selects RX4 yX4_digit yX4_digit, Cond.code yX4_digit cX4_digit 2 (some .int), Cond.methodLink RX4 33 yX4_in, Cond.static yX4_in, Cond.code yX4_in cX4_in 3 (some .boolean), Cond.methodLink RX4 149 yX4_behind, Cond.instanceMethod yX4_behind]
def wsX4_fault_r2 : List Cond := [Cond.selects RX4 yX4_behind yX4_behind, Cond.code yX4_behind cX4_behind 3 (some .int), Cond.methodLink RX4 143 yX4_numberEnd, Cond.instanceMethod yX4_numberEnd, Cond.selects RX4 yX4_numberEnd yX4_numberEnd, Cond.code yX4_numberEnd cX4_numberEnd 2 (some .int)]
def wsX4_fault : List Cond := .code yX4_fault cX4_fault 4 (some .int) :: ((wsX4_fault_r1 ++ wsX4_fault_r2) ++ wsX40)
def wsX4_markIn : List Cond := .code yX4_markIn cX4_markIn 2 (some .int) :: ([.methodLink RX4 137 yX4_sign, .instanceMethod yX4_sign, .selects RX4 yX4_sign yX4_sign, .initialized RX4, .code yX4_sign cX4_sign 2 (some .int), .fieldLink RX4 126 "ProofMarksModel" "length" "I", .fieldLink RX4 23 "ProofMarksModel" "pad" "[I"] ++ wsX40)
def wsX4_whyNot_r1 : List Cond := [Cond.fieldLink RX4 7 "ProofMarksModel" "s" "[I", Cond.methodLink RX4 140 yX4_digit, Cond.instanceMethod yX4_digit, Cond.selects RX4 yX4_digit yX4_digit, Cond.initialized RX4, Cond.code yX4_digit cX4_digit 2 (some .int), Cond.methodLink RX4 137 yX4_sign, Cond.instanceMethod yX4_sign, Cond.selects RX4 yX4_sign yX4_sign, Cond.code yX4_sign cX4_sign 2 (some .int), Cond.fieldLink RX4 126 "ProofMarksModel" "length" "I", Cond.fieldLink RX4 23 "ProofMarksModel" "pad" "[I", Cond.methodLink RX4 33 yX4_in, Cond.static yX4_in, Cond.code yX4_in cX4_in 3 (some .boolean), Cond.methodLink RX4 155 yX4_numberAt, Cond.instanceMethod yX4_numberAt, Cond.selects RX4 yX4_numberAt yX4_numberAt, Cond.code yX4_numberAt cX4_numberAt 2 (some .int), Cond.methodLink RX4 143 yX4_numberEnd, Cond.instanceMethod yX4_numberEnd, Cond.selects RX4 yX4_numberEnd yX4_numberEnd, Cond.code yX4_numberEnd cX4_numberEnd 2 (some .int), Cond.methodLink RX4 72 yX4_whyNotArgue]
def wsX4_whyNot_r2 : List Cond := [Cond.instanceMethod yX4_whyNotArgue, Cond.selects RX4 yX4_whyNotArgue yX4_whyNotArgue, Cond.code yX4_whyNotArgue cX4_whyNotArgue 5 (some .int), Cond.methodLink RX4 48 yX4_isEditor, Cond.static yX4_isEditor, Cond.code yX4_isEditor cX4_isEditor 1 (some .boolean), Cond.methodLink RX4 52 yX4_isFrame, Cond.static yX4_isFrame, Cond.code yX4_isFrame cX4_isFrame 1 (some .boolean), Cond.methodLink RX4 45 yX4_markOf, Cond.instanceMethod yX4_markOf, Cond.selects RX4 yX4_markOf yX4_markOf, Cond.code yX4_markOf cX4_markOf 3 (some .int), Cond.methodLink RX4 26 yX4_at, Cond.static yX4_at, Cond.code yX4_at cX4_at 2 (some .int), Cond.methodLink RX4 41 yX4_power, Cond.static yX4_power, Cond.code yX4_power cX4_power 1 (some .int), Cond.methodLink RX4 30 yX4_of3, Cond.static yX4_of3, Cond.code yX4_of3 cX4_of3 2 (some .int), Cond.methodLink RX4 98 yX4_whyNotPrint, Cond.instanceMethod yX4_whyNotPrint]
def wsX4_whyNot_r3 : List Cond := [Cond.selects RX4 yX4_whyNotPrint yX4_whyNotPrint, Cond.code yX4_whyNotPrint cX4_whyNotPrint 4 (some .int), Cond.methodLink RX4 95 yX4_paperOf, Cond.static yX4_paperOf, Cond.code yX4_paperOf cX4_paperOf 1 (some .int), Cond.methodLink RX4 158 yX4_markIn, Cond.instanceMethod yX4_markIn, Cond.selects RX4 yX4_markIn yX4_markIn, Cond.code yX4_markIn cX4_markIn 2 (some .int), Cond.methodLink RX4 61 yX4_whyNotMark, Cond.instanceMethod yX4_whyNotMark, Cond.selects RX4 yX4_whyNotMark yX4_whyNotMark, Cond.code yX4_whyNotMark cX4_whyNotMark 5 (some .int), Cond.methodLink RX4 55 yX4_isOpen, Cond.instanceMethod yX4_isOpen, Cond.selects RX4 yX4_isOpen yX4_isOpen, Cond.code yX4_isOpen cX4_isOpen 2 (some .boolean), Cond.methodLink RX4 58 yX4_marked, Cond.instanceMethod yX4_marked, Cond.selects RX4 yX4_marked yX4_marked, Cond.code yX4_marked cX4_marked 5 (some .int)]
def wsX4_whyNot : List Cond := .code yX4_whyNot cX4_whyNot 3 (some .int) :: ((wsX4_whyNot_r1 ++ (wsX4_whyNot_r2 ++ wsX4_whyNot_r3)) ++ wsX40)
def wsX4_does_r1 : List Cond := [Cond.methodLink RX4 140 yX4_digit, Cond.instanceMethod yX4_digit, Cond.selects RX4 yX4_digit yX4_digit, Cond.initialized RX4, Cond.code yX4_digit cX4_digit 2 (some .int), Cond.methodLink RX4 137 yX4_sign, Cond.instanceMethod yX4_sign, Cond.selects RX4 yX4_sign yX4_sign, Cond.code yX4_sign cX4_sign 2 (some .int), Cond.fieldLink RX4 126 "ProofMarksModel" "length" "I", Cond.fieldLink RX4 23 "ProofMarksModel" "pad" "[I", Cond.methodLink RX4 33 yX4_in, Cond.static yX4_in, Cond.code yX4_in cX4_in 3 (some .boolean), Cond.methodLink RX4 155 yX4_numberAt, Cond.instanceMethod yX4_numberAt, Cond.selects RX4 yX4_numberAt yX4_numberAt, Cond.code yX4_numberAt cX4_numberAt 2 (some .int), Cond.methodLink RX4 143 yX4_numberEnd, Cond.instanceMethod yX4_numberEnd, Cond.selects RX4 yX4_numberEnd yX4_numberEnd, Cond.code yX4_numberEnd cX4_numberEnd 2 (some .int), Cond.methodLink RX4 75 yX4_argues, Cond.instanceMethod yX4_argues]
def wsX4_does_r2 : List Cond := [Cond.selects RX4 yX4_argues yX4_argues, Cond.code yX4_argues cX4_argues 5 (some .int), Cond.fieldLink RX4 7 "ProofMarksModel" "s" "[I", Cond.methodLink RX4 30 yX4_of3, Cond.static yX4_of3, Cond.code yX4_of3 cX4_of3 2 (some .int), Cond.methodLink RX4 68 yX4_marks, Cond.instanceMethod yX4_marks, Cond.selects RX4 yX4_marks yX4_marks, Cond.code yX4_marks cX4_marks 4 none, Cond.methodLink RX4 26 yX4_at, Cond.static yX4_at, Cond.code yX4_at cX4_at 2 (some .int), Cond.methodLink RX4 41 yX4_power, Cond.static yX4_power, Cond.code yX4_power cX4_power 1 (some .int), Cond.methodLink RX4 45 yX4_markOf, Cond.instanceMethod yX4_markOf, Cond.selects RX4 yX4_markOf yX4_markOf, Cond.code yX4_markOf cX4_markOf 3 (some .int), Cond.methodLink RX4 91 yX4_rounds, Cond.instanceMethod yX4_rounds, Cond.selects RX4 yX4_rounds yX4_rounds, Cond.code yX4_rounds cX4_rounds 4 (some .int)]
def wsX4_does_r3 : List Cond := [Cond.methodLink RX4 55 yX4_isOpen, Cond.instanceMethod yX4_isOpen, Cond.selects RX4 yX4_isOpen yX4_isOpen, Cond.code yX4_isOpen cX4_isOpen 2 (some .boolean), Cond.methodLink RX4 87 yX4_judges, Cond.instanceMethod yX4_judges, Cond.selects RX4 yX4_judges yX4_judges, Cond.code yX4_judges cX4_judges 6 none, Cond.methodLink RX4 84 yX4_then, Cond.instanceMethod yX4_then, Cond.selects RX4 yX4_then yX4_then, Cond.code yX4_then cX4_then 5 (some .int), Cond.methodLink RX4 78 yX4_withMark, Cond.instanceMethod yX4_withMark, Cond.selects RX4 yX4_withMark yX4_withMark, Cond.code yX4_withMark cX4_withMark 5 (some .int), Cond.methodLink RX4 81 yX4_ones, Cond.static yX4_ones, Cond.code yX4_ones cX4_ones 1 (some .int), Cond.methodLink RX4 101 yX4_prints, Cond.instanceMethod yX4_prints, Cond.selects RX4 yX4_prints yX4_prints, Cond.code yX4_prints cX4_prints 3 (some .int), Cond.methodLink RX4 95 yX4_paperOf]
def wsX4_does_r4 : List Cond := [Cond.static yX4_paperOf, Cond.code yX4_paperOf cX4_paperOf 1 (some .int), Cond.methodLink RX4 104 yX4_buys, Cond.instanceMethod yX4_buys, Cond.selects RX4 yX4_buys yX4_buys, Cond.code yX4_buys cX4_buys 2 (some .int), Cond.methodLink RX4 158 yX4_markIn, Cond.instanceMethod yX4_markIn, Cond.selects RX4 yX4_markIn yX4_markIn, Cond.code yX4_markIn cX4_markIn 2 (some .int)]
def wsX4_does : List Cond := .code yX4_does cX4_does 3 (some .int) :: ((wsX4_does_r1 ++ (wsX4_does_r2 ++ (wsX4_does_r3 ++ wsX4_does_r4))) ++ wsX40)
def wsX4_carryOut_r1 : List Cond := [Cond.fieldLink RX4 126 "ProofMarksModel" "length" "I", Cond.methodLink RX4 161 yX4_fault, Cond.instanceMethod yX4_fault, Cond.selects RX4 yX4_fault yX4_fault, Cond.initialized RX4, Cond.code yX4_fault cX4_fault 4 (some .int), Cond.methodLink RX4 152 yX4_orderEnd, Cond.instanceMethod yX4_orderEnd, Cond.selects RX4 yX4_orderEnd yX4_orderEnd, Cond.code yX4_orderEnd cX4_orderEnd 2 (some .int), Cond.methodLink RX4 137 yX4_sign, Cond.instanceMethod yX4_sign, Cond.selects RX4 yX4_sign yX4_sign, Cond.code yX4_sign cX4_sign 2 (some .int), Cond.fieldLink RX4 23 "ProofMarksModel" "pad" "[I", Cond.methodLink RX4 146 yX4_digitEnd, Cond.instanceMethod yX4_digitEnd, Cond.selects RX4 yX4_digitEnd yX4_digitEnd, Cond.code yX4_digitEnd cX4_digitEnd 2 (some .int), Cond.methodLink RX4 140 yX4_digit, Cond.instanceMethod yX4_digit, Cond.selects RX4 yX4_digit yX4_digit, Cond.code yX4_digit cX4_digit 2 (some .int), Cond.methodLink RX4 33 yX4_in]
def wsX4_carryOut_r2 : List Cond := [Cond.static yX4_in, Cond.code yX4_in cX4_in 3 (some .boolean), Cond.methodLink RX4 149 yX4_behind, Cond.instanceMethod yX4_behind, Cond.selects RX4 yX4_behind yX4_behind, Cond.code yX4_behind cX4_behind 3 (some .int), Cond.methodLink RX4 143 yX4_numberEnd, Cond.instanceMethod yX4_numberEnd, Cond.selects RX4 yX4_numberEnd yX4_numberEnd, Cond.code yX4_numberEnd cX4_numberEnd 2 (some .int), Cond.methodLink RX4 65 yX4_remembers, Cond.instanceMethod yX4_remembers, Cond.selects RX4 yX4_remembers yX4_remembers, Cond.code yX4_remembers cX4_remembers 2 none, Cond.fieldLink RX4 37 "ProofMarksModel" "known" "I", Cond.fieldLink RX4 13 "ProofMarksModel" "past" "[I", Cond.fieldLink RX4 7 "ProofMarksModel" "s" "[I", Cond.methodLink RX4 164 yX4_whyNot, Cond.instanceMethod yX4_whyNot, Cond.selects RX4 yX4_whyNot yX4_whyNot, Cond.code yX4_whyNot cX4_whyNot 3 (some .int), Cond.methodLink RX4 155 yX4_numberAt, Cond.instanceMethod yX4_numberAt, Cond.selects RX4 yX4_numberAt yX4_numberAt]
def wsX4_carryOut_r3 : List Cond := [Cond.code yX4_numberAt cX4_numberAt 2 (some .int), Cond.methodLink RX4 72 yX4_whyNotArgue, Cond.instanceMethod yX4_whyNotArgue, Cond.selects RX4 yX4_whyNotArgue yX4_whyNotArgue, Cond.code yX4_whyNotArgue cX4_whyNotArgue 5 (some .int), Cond.methodLink RX4 48 yX4_isEditor, Cond.static yX4_isEditor, Cond.code yX4_isEditor cX4_isEditor 1 (some .boolean), Cond.methodLink RX4 52 yX4_isFrame, Cond.static yX4_isFrame, Cond.code yX4_isFrame cX4_isFrame 1 (some .boolean), Cond.methodLink RX4 45 yX4_markOf, Cond.instanceMethod yX4_markOf, Cond.selects RX4 yX4_markOf yX4_markOf, Cond.code yX4_markOf cX4_markOf 3 (some .int), Cond.methodLink RX4 26 yX4_at, Cond.static yX4_at, Cond.code yX4_at cX4_at 2 (some .int), Cond.methodLink RX4 41 yX4_power, Cond.static yX4_power, Cond.code yX4_power cX4_power 1 (some .int), Cond.methodLink RX4 30 yX4_of3, Cond.static yX4_of3, Cond.code yX4_of3 cX4_of3 2 (some .int)]
def wsX4_carryOut_r4 : List Cond := [Cond.methodLink RX4 98 yX4_whyNotPrint, Cond.instanceMethod yX4_whyNotPrint, Cond.selects RX4 yX4_whyNotPrint yX4_whyNotPrint, Cond.code yX4_whyNotPrint cX4_whyNotPrint 4 (some .int), Cond.methodLink RX4 95 yX4_paperOf, Cond.static yX4_paperOf, Cond.code yX4_paperOf cX4_paperOf 1 (some .int), Cond.methodLink RX4 158 yX4_markIn, Cond.instanceMethod yX4_markIn, Cond.selects RX4 yX4_markIn yX4_markIn, Cond.code yX4_markIn cX4_markIn 2 (some .int), Cond.methodLink RX4 61 yX4_whyNotMark, Cond.instanceMethod yX4_whyNotMark, Cond.selects RX4 yX4_whyNotMark yX4_whyNotMark, Cond.code yX4_whyNotMark cX4_whyNotMark 5 (some .int), Cond.methodLink RX4 55 yX4_isOpen, Cond.instanceMethod yX4_isOpen, Cond.selects RX4 yX4_isOpen yX4_isOpen, Cond.code yX4_isOpen cX4_isOpen 2 (some .boolean), Cond.methodLink RX4 58 yX4_marked, Cond.instanceMethod yX4_marked, Cond.selects RX4 yX4_marked yX4_marked, Cond.code yX4_marked cX4_marked 5 (some .int), Cond.methodLink RX4 167 yX4_does]
def wsX4_carryOut_r5 : List Cond := [Cond.instanceMethod yX4_does, Cond.selects RX4 yX4_does yX4_does, Cond.code yX4_does cX4_does 3 (some .int), Cond.methodLink RX4 75 yX4_argues, Cond.instanceMethod yX4_argues, Cond.selects RX4 yX4_argues yX4_argues, Cond.code yX4_argues cX4_argues 5 (some .int), Cond.methodLink RX4 68 yX4_marks, Cond.instanceMethod yX4_marks, Cond.selects RX4 yX4_marks yX4_marks, Cond.code yX4_marks cX4_marks 4 none, Cond.methodLink RX4 91 yX4_rounds, Cond.instanceMethod yX4_rounds, Cond.selects RX4 yX4_rounds yX4_rounds, Cond.code yX4_rounds cX4_rounds 4 (some .int), Cond.methodLink RX4 87 yX4_judges, Cond.instanceMethod yX4_judges, Cond.selects RX4 yX4_judges yX4_judges, Cond.code yX4_judges cX4_judges 6 none, Cond.methodLink RX4 84 yX4_then, Cond.instanceMethod yX4_then, Cond.selects RX4 yX4_then yX4_then, Cond.code yX4_then cX4_then 5 (some .int), Cond.methodLink RX4 78 yX4_withMark]
def wsX4_carryOut_r6 : List Cond := [Cond.instanceMethod yX4_withMark, Cond.selects RX4 yX4_withMark yX4_withMark, Cond.code yX4_withMark cX4_withMark 5 (some .int), Cond.methodLink RX4 81 yX4_ones, Cond.static yX4_ones, Cond.code yX4_ones cX4_ones 1 (some .int), Cond.methodLink RX4 101 yX4_prints, Cond.instanceMethod yX4_prints, Cond.selects RX4 yX4_prints yX4_prints, Cond.code yX4_prints cX4_prints 3 (some .int), Cond.methodLink RX4 104 yX4_buys, Cond.instanceMethod yX4_buys, Cond.selects RX4 yX4_buys yX4_buys, Cond.code yX4_buys cX4_buys 2 (some .int)]
def wsX4_carryOut : List Cond := .code yX4_carryOut cX4_carryOut 4 (some .int) :: ((wsX4_carryOut_r1 ++ (wsX4_carryOut_r2 ++ (wsX4_carryOut_r3 ++ (wsX4_carryOut_r4 ++ (wsX4_carryOut_r5 ++ wsX4_carryOut_r6))))) ++ wsX40)
def wsX4_undo : List Cond := .code yX4_undo cX4_undo 2 (some .int) :: ([.fieldLink RX4 37 "ProofMarksModel" "known" "I", .fieldLink RX4 7 "ProofMarksModel" "s" "[I", .fieldLink RX4 13 "ProofMarksModel" "past" "[I"] ++ wsX40)
def wsX4_save : List Cond := .code yX4_save cX4_save 3 (some .int) :: ([.fieldLink RX4 16 "ProofMarksModel" "slots" "[I", .fieldLink RX4 7 "ProofMarksModel" "s" "[I", .fieldLink RX4 19 "ProofMarksModel" "isSaved" "[Z", .methodLink RX4 33 yX4_in, .static yX4_in, .initialized RX4, .code yX4_in cX4_in 3 (some .boolean)] ++ wsX40)
def wsX4_restore : List Cond := .code yX4_restore cX4_restore 3 (some .int) :: ([.fieldLink RX4 19 "ProofMarksModel" "isSaved" "[Z", .fieldLink RX4 7 "ProofMarksModel" "s" "[I", .fieldLink RX4 16 "ProofMarksModel" "slots" "[I", .methodLink RX4 33 yX4_in, .static yX4_in, .initialized RX4, .code yX4_in cX4_in 3 (some .boolean), .methodLink RX4 65 yX4_remembers, .instanceMethod yX4_remembers, .selects RX4 yX4_remembers yX4_remembers, .code yX4_remembers cX4_remembers 2 none, .fieldLink RX4 37 "ProofMarksModel" "known" "I", .fieldLink RX4 13 "ProofMarksModel" "past" "[I"] ++ wsX40)
def wsJ9_max_7cf53 : List Cond := .code yJ9_max_7cf53 cJ9_max_7cf53 2 (some .int) :: ([])
def wsJ9_min_7cf53 : List Cond := .code yJ9_min_7cf53 cJ9_min_7cf53 2 (some .int) :: ([])
def wsL_law_r1 : List Cond := [Cond.classLink RL 7 RX3, Cond.instantiable RX3 5, Cond.initialized RX3, Cond.classLink RL 10 RX4, Cond.instantiable RX4 7, Cond.initialized RX4, Cond.constantLong RL 81 (4294967295), Cond.methodLink RL 9 yX3_init, Cond.instanceMethod yX3_init, Cond.code yX3_init cX3_init 2 none, Cond.methodLink RX3 1 objectInit, Cond.instanceMethod objectInit, Cond.code objectInit ⟨#[0xb1]⟩ 1 none, Cond.classLink RX3 7 RX2, Cond.instantiable RX2 15, Cond.initialized RX2, Cond.fieldLink RX3 10 "ProofMarks" "sheet" "LProofMarks$Sheet;", Cond.classLink RX3 16 RX0, Cond.instantiable RX0 2, Cond.initialized RX0, Cond.fieldLink RX3 19 "ProofMarks" "history" "LProofMarks$History;", Cond.classLink RX3 23 RX1, Cond.instantiable RX1 8, Cond.initialized RX1]
def wsL_law_r2 : List Cond := [Cond.fieldLink RX3 26 "ProofMarks" "pad" "LProofMarks$Pad;", Cond.fieldLink RX3 30 "ProofMarks" "slots" "[LProofMarks$Sheet;", Cond.arrayClass .boolean, Cond.fieldLink RX3 34 "ProofMarks" "saved" "[Z", Cond.methodLink RX3 9 yX2_init, Cond.instanceMethod yX2_init, Cond.code yX2_init cX2_init 2 none, Cond.methodLink RX2 5 objectInit, Cond.arrayClass .int, Cond.fieldLink RX2 11 "ProofMarks$Sheet" "settings" "[I", Cond.fieldLink RX2 15 "ProofMarks$Sheet" "how" "[I", Cond.fieldLink RX2 18 "ProofMarks$Sheet" "ticks" "[I", Cond.fieldLink RX2 21 "ProofMarks$Sheet" "crosses" "[I", Cond.fieldLink RX2 24 "ProofMarks$Sheet" "dull" "[I", Cond.fieldLink RX2 27 "ProofMarks$Sheet" "sizes" "[I", Cond.fieldLink RX2 30 "ProofMarks$Sheet" "chosenIn" "[I", Cond.fieldLink RX2 33 "ProofMarks$Sheet" "points" "[I", Cond.fieldLink RX2 36 "ProofMarks$Sheet" "arguments" "[I", Cond.fieldLink RX2 39 "ProofMarks$Sheet" "lifted" "[I", Cond.fieldLink RX2 42 "ProofMarks$Sheet" "favourites" "[I", Cond.fieldLink RX2 45 "ProofMarks$Sheet" "prints" "[I", Cond.fieldLink RX2 48 "ProofMarks$Sheet" "rounds" "I", Cond.fieldLink RX2 52 "ProofMarks$Sheet" "paper" "I", Cond.fieldLink RX2 55 "ProofMarks$Sheet" "paperTaken" "I"]
def wsL_law_r3 : List Cond := [Cond.methodLink RX3 18 yX0_init, Cond.instanceMethod yX0_init, Cond.code yX0_init cX0_init 2 none, Cond.methodLink RX0 1 objectInit, Cond.classLink RX0 9 RX2, Cond.fieldLink RX0 11 "ProofMarks$History" "states" "[LProofMarks$Sheet;", Cond.fieldLink RX0 15 "ProofMarks$History" "kept" "I", Cond.methodLink RX0 19 yX2_init, Cond.instanceMethod yX1_init, Cond.code yX1_init cX1_init 1 none, Cond.methodLink RX1 3 objectInit, Cond.arrayClass .char, Cond.fieldLink RX1 11 "ProofMarks$Pad" "signs" "[C", Cond.fieldLink RX1 15 "ProofMarks$Pad" "length" "I", Cond.fieldLink RX1 19 "ProofMarks$Pad" "at" "I", Cond.fieldLink RX1 22 "ProofMarks$Pad" "order" "C", Cond.fieldLink RX1 26 "ProofMarks$Pad" "editor" "I", Cond.fieldLink RX1 29 "ProofMarks$Pad" "other" "I", Cond.fieldLink RX1 32 "ProofMarks$Pad" "number" "I", Cond.fieldLink RX1 35 "ProofMarks$Pad" "size" "I", Cond.methodLink RL 12 yX4_init, Cond.instanceMethod yX4_init, Cond.code yX4_init cX4_init 2 none, Cond.methodLink RX4 1 objectInit]
def wsL_law_r4 : List Cond := [Cond.fieldLink RX4 7 "ProofMarksModel" "s" "[I", Cond.fieldLink RX4 13 "ProofMarksModel" "past" "[I", Cond.fieldLink RX4 16 "ProofMarksModel" "slots" "[I", Cond.fieldLink RX4 19 "ProofMarksModel" "isSaved" "[Z", Cond.fieldLink RX4 23 "ProofMarksModel" "pad" "[I", Cond.methodLink RX4 26 yX4_at, Cond.static yX4_at, Cond.code yX4_at cX4_at 2 (some .int), Cond.methodLink RX4 30 yX4_of3, Cond.static yX4_of3, Cond.code yX4_of3 cX4_of3 2 (some .int), Cond.methodLink RL 13 yX3_set, Cond.instanceMethod yX3_set, Cond.selects RX3 yX3_set yX3_set, Cond.code yX3_set cX3_set 3 (some .int), Cond.methodLink RX3 38 yX0_note, Cond.instanceMethod yX0_note, Cond.selects RX0 yX0_note yX0_note, Cond.code yX0_note cX0_note 2 none, Cond.methodLink RX0 20 yX2_takeOver, Cond.instanceMethod yX2_takeOver, Cond.selects RX2 yX2_takeOver yX2_takeOver, Cond.code yX2_takeOver cX2_takeOver 2 none, Cond.methodLink RX2 58 arraycopyName]
def wsL_law_r5 : List Cond := [Cond.native arraycopyName, Cond.static arraycopyName, Cond.initialized "java/lang/System", Cond.methodLink RX3 42 yX2_changeSetting, Cond.instanceMethod yX2_changeSetting, Cond.selects RX2 yX2_changeSetting yX2_changeSetting, Cond.code yX2_changeSetting cX2_changeSetting 4 (some .int), Cond.fieldLink RX2 64 "ProofMarks$Sheet" "LEAST_VALUES" "[I", Cond.fieldLink RX2 67 "ProofMarks$Sheet" "MOST_VALUES" "[I", Cond.methodLink RX3 46 yX3_recorded, Cond.instanceMethod yX3_recorded, Cond.selects RX3 yX3_recorded yX3_recorded, Cond.code yX3_recorded cX3_recorded 2 (some .int), Cond.methodLink RX3 130 yX0_keep, Cond.instanceMethod yX0_keep, Cond.selects RX0 yX0_keep yX0_keep, Cond.code yX0_keep cX0_keep 3 none, Cond.methodLink RL 17 yX4_set, Cond.instanceMethod yX4_set, Cond.selects RX4 yX4_set yX4_set, Cond.code yX4_set cX4_set 4 (some .int), Cond.methodLink RX4 107 yX4_canSet, Cond.static yX4_canSet, Cond.code yX4_canSet cX4_canSet 2 (some .boolean)]
def wsL_law_r6 : List Cond := [Cond.methodLink RX4 33 yX4_in, Cond.static yX4_in, Cond.code yX4_in cX4_in 3 (some .boolean), Cond.methodLink RX4 65 yX4_remembers, Cond.instanceMethod yX4_remembers, Cond.selects RX4 yX4_remembers yX4_remembers, Cond.code yX4_remembers cX4_remembers 2 none, Cond.fieldLink RX4 37 "ProofMarksModel" "known" "I", Cond.methodLink RL 18 yX3_mark, Cond.instanceMethod yX3_mark, Cond.selects RX3 yX3_mark yX3_mark, Cond.code yX3_mark cX3_mark 4 (some .int), Cond.methodLink RX3 50 yX2_putMark, Cond.instanceMethod yX2_putMark, Cond.selects RX2 yX2_putMark yX2_putMark, Cond.code yX2_putMark cX2_putMark 5 (some .int), Cond.methodLink RX2 70 yX2_isEditor, Cond.static yX2_isEditor, Cond.code yX2_isEditor cX2_isEditor 1 (some .boolean), Cond.methodLink RX2 74 yX2_isFrame, Cond.static yX2_isFrame, Cond.code yX2_isFrame cX2_isFrame 1 (some .boolean), Cond.methodLink RX2 77 yX2_markOf, Cond.instanceMethod yX2_markOf]
def wsL_law_r7 : List Cond := [Cond.selects RX2 yX2_markOf yX2_markOf, Cond.code yX2_markOf cX2_markOf 4 (some .int), Cond.methodLink RX2 81 yX2_vetoesLeft, Cond.instanceMethod yX2_vetoesLeft, Cond.selects RX2 yX2_vetoesLeft yX2_vetoesLeft, Cond.code yX2_vetoesLeft cX2_vetoesLeft 2 (some .int), Cond.methodLink RX2 138 Lib.Math.max.name, Cond.static Lib.Math.max.name, Cond.initialized "java/lang/Math", Cond.code Lib.Math.max.name Lib.Math.max.code 2 (some .int), Cond.methodLink RX2 100 yX2_marksOf, Cond.instanceMethod yX2_marksOf, Cond.selects RX2 yX2_marksOf yX2_marksOf, Cond.code yX2_marksOf cX2_marksOf 5 (some .int), Cond.methodLink RX2 85 yX2_withEditor, Cond.static yX2_withEditor, Cond.code yX2_withEditor cX2_withEditor 4 (some .int), Cond.methodLink RL 22 yX4_mark, Cond.instanceMethod yX4_mark, Cond.selects RX4 yX4_mark yX4_mark, Cond.code yX4_mark cX4_mark 6 (some .int), Cond.methodLink RX4 61 yX4_whyNotMark, Cond.instanceMethod yX4_whyNotMark, Cond.selects RX4 yX4_whyNotMark yX4_whyNotMark]
def wsL_law_r8 : List Cond := [Cond.code yX4_whyNotMark cX4_whyNotMark 5 (some .int), Cond.methodLink RX4 48 yX4_isEditor, Cond.static yX4_isEditor, Cond.code yX4_isEditor cX4_isEditor 1 (some .boolean), Cond.methodLink RX4 52 yX4_isFrame, Cond.static yX4_isFrame, Cond.code yX4_isFrame cX4_isFrame 1 (some .boolean), Cond.methodLink RX4 55 yX4_isOpen, Cond.instanceMethod yX4_isOpen, Cond.selects RX4 yX4_isOpen yX4_isOpen, Cond.code yX4_isOpen cX4_isOpen 2 (some .boolean), Cond.methodLink RX4 45 yX4_markOf, Cond.instanceMethod yX4_markOf, Cond.selects RX4 yX4_markOf yX4_markOf, Cond.code yX4_markOf cX4_markOf 3 (some .int), Cond.methodLink RX4 41 yX4_power, Cond.static yX4_power, Cond.code yX4_power cX4_power 1 (some .int), Cond.methodLink RX4 58 yX4_marked, Cond.instanceMethod yX4_marked, Cond.selects RX4 yX4_marked yX4_marked, Cond.code yX4_marked cX4_marked 5 (some .int), Cond.methodLink RX4 68 yX4_marks, Cond.instanceMethod yX4_marks]
def wsL_law_r9 : List Cond := [Cond.selects RX4 yX4_marks yX4_marks, Cond.code yX4_marks cX4_marks 4 none, Cond.methodLink RL 23 yX3_argue, Cond.instanceMethod yX3_argue, Cond.selects RX3 yX3_argue yX3_argue, Cond.code yX3_argue cX3_argue 4 (some .int), Cond.methodLink RX3 54 yX2_argueAgainst, Cond.instanceMethod yX2_argueAgainst, Cond.selects RX2 yX2_argueAgainst yX2_argueAgainst, Cond.code yX2_argueAgainst cX2_argueAgainst 5 (some .int), Cond.methodLink RL 26 yX4_argue, Cond.instanceMethod yX4_argue, Cond.selects RX4 yX4_argue yX4_argue, Cond.code yX4_argue cX4_argue 5 (some .int), Cond.methodLink RX4 72 yX4_whyNotArgue, Cond.instanceMethod yX4_whyNotArgue, Cond.selects RX4 yX4_whyNotArgue yX4_whyNotArgue, Cond.code yX4_whyNotArgue cX4_whyNotArgue 5 (some .int), Cond.methodLink RX4 75 yX4_argues, Cond.instanceMethod yX4_argues, Cond.selects RX4 yX4_argues yX4_argues, Cond.code yX4_argues cX4_argues 5 (some .int), Cond.methodLink RL 27 yX3_round, Cond.instanceMethod yX3_round]
def wsL_law_r10 : List Cond := [Cond.selects RX3 yX3_round yX3_round, Cond.code yX3_round cX3_round 1 (some .int), Cond.methodLink RX3 57 yX2_endRound, Cond.instanceMethod yX2_endRound, Cond.selects RX2 yX2_endRound yX2_endRound, Cond.code yX2_endRound cX2_endRound 3 (some .int), Cond.methodLink RX2 92 Lib.Math.min.name, Cond.static Lib.Math.min.name, Cond.code Lib.Math.min.name Lib.Math.min.code 2 (some .int), Cond.methodLink RX2 89 yX2_settle, Cond.instanceMethod yX2_settle, Cond.selects RX2 yX2_settle yX2_settle, Cond.code yX2_settle cX2_settle 3 (some .int), Cond.methodLink RX2 123 yX2_afterRound, Cond.instanceMethod yX2_afterRound, Cond.selects RX2 yX2_afterRound yX2_afterRound, Cond.code yX2_afterRound cX2_afterRound 3 (some .int), Cond.methodLink RX2 133 yJ6_bitCount_0f7a4, Cond.static yJ6_bitCount_0f7a4, Cond.initialized RJ6, Cond.code yJ6_bitCount_0f7a4 cJ6_bitCount_0f7a4 1 (some .int), Cond.constant RJ6 265 (1431655765), Cond.constant RJ6 266 (858993459), Cond.constant RJ6 267 (252645135)]
def wsL_law_r11 : List Cond := [Cond.methodLink RX2 113 yX2_isWanted, Cond.instanceMethod yX2_isWanted, Cond.selects RX2 yX2_isWanted yX2_isWanted, Cond.code yX2_isWanted cX2_isWanted 3 (some .boolean), Cond.methodLink RX2 130 yX2_dullAfterRound, Cond.instanceMethod yX2_dullAfterRound, Cond.selects RX2 yX2_dullAfterRound yX2_dullAfterRound, Cond.code yX2_dullAfterRound cX2_dullAfterRound 3 (some .int), Cond.methodLink RX2 126 yX2_noteChoice, Cond.instanceMethod yX2_noteChoice, Cond.selects RX2 yX2_noteChoice yX2_noteChoice, Cond.code yX2_noteChoice cX2_noteChoice 3 none, Cond.methodLink RL 31 yX4_round, Cond.instanceMethod yX4_round, Cond.selects RX4 yX4_round yX4_round, Cond.code yX4_round cX4_round 1 (some .int), Cond.methodLink RX4 91 yX4_rounds, Cond.instanceMethod yX4_rounds, Cond.selects RX4 yX4_rounds yX4_rounds, Cond.code yX4_rounds cX4_rounds 4 (some .int), Cond.methodLink RX4 87 yX4_judges, Cond.instanceMethod yX4_judges, Cond.selects RX4 yX4_judges yX4_judges, Cond.code yX4_judges cX4_judges 6 none]
def wsL_law_r12 : List Cond := [Cond.methodLink RX4 84 yX4_then, Cond.instanceMethod yX4_then, Cond.selects RX4 yX4_then yX4_then, Cond.code yX4_then cX4_then 5 (some .int), Cond.methodLink RX4 78 yX4_withMark, Cond.instanceMethod yX4_withMark, Cond.selects RX4 yX4_withMark yX4_withMark, Cond.code yX4_withMark cX4_withMark 5 (some .int), Cond.methodLink RX4 81 yX4_ones, Cond.static yX4_ones, Cond.code yX4_ones cX4_ones 1 (some .int), Cond.methodLink RL 32 yX3_print, Cond.instanceMethod yX3_print, Cond.selects RX3 yX3_print yX3_print, Cond.code yX3_print cX3_print 3 (some .int), Cond.methodLink RX3 61 yX2_printFrame, Cond.instanceMethod yX2_printFrame, Cond.selects RX2 yX2_printFrame yX2_printFrame, Cond.code yX2_printFrame cX2_printFrame 4 (some .int), Cond.methodLink RX2 97 yX2_paperOf, Cond.static yX2_paperOf, Cond.code yX2_paperOf cX2_paperOf 1 (some .int), Cond.methodLink RL 35 yX4_print, Cond.instanceMethod yX4_print]
def wsL_law_r13 : List Cond := [Cond.selects RX4 yX4_print yX4_print, Cond.code yX4_print cX4_print 4 (some .int), Cond.methodLink RX4 98 yX4_whyNotPrint, Cond.instanceMethod yX4_whyNotPrint, Cond.selects RX4 yX4_whyNotPrint yX4_whyNotPrint, Cond.code yX4_whyNotPrint cX4_whyNotPrint 4 (some .int), Cond.methodLink RX4 95 yX4_paperOf, Cond.static yX4_paperOf, Cond.code yX4_paperOf cX4_paperOf 1 (some .int), Cond.methodLink RX4 101 yX4_prints, Cond.instanceMethod yX4_prints, Cond.selects RX4 yX4_prints yX4_prints, Cond.code yX4_prints cX4_prints 3 (some .int), Cond.methodLink RL 36 yX3_buy, Cond.instanceMethod yX3_buy, Cond.selects RX3 yX3_buy yX3_buy, Cond.code yX3_buy cX3_buy 2 (some .int), Cond.methodLink RX3 64 yX2_addPaper, Cond.instanceMethod yX2_addPaper, Cond.selects RX2 yX2_addPaper yX2_addPaper, Cond.code yX2_addPaper cX2_addPaper 2 (some .int), Cond.methodLink RL 40 yX4_buy, Cond.instanceMethod yX4_buy, Cond.selects RX4 yX4_buy yX4_buy]
def wsL_law_r14 : List Cond := [Cond.code yX4_buy cX4_buy 2 (some .int), Cond.methodLink RX4 104 yX4_buys, Cond.instanceMethod yX4_buys, Cond.selects RX4 yX4_buys yX4_buys, Cond.code yX4_buys cX4_buys 2 (some .int), Cond.methodLink RL 41 yX3_reopen, Cond.instanceMethod yX3_reopen, Cond.selects RX3 yX3_reopen yX3_reopen, Cond.code yX3_reopen cX3_reopen 2 (some .int), Cond.methodLink RX3 67 yX2_openAgain, Cond.instanceMethod yX2_openAgain, Cond.selects RX2 yX2_openAgain yX2_openAgain, Cond.code yX2_openAgain cX2_openAgain 3 (some .int), Cond.methodLink RL 44 yX4_reopen, Cond.instanceMethod yX4_reopen, Cond.selects RX4 yX4_reopen yX4_reopen, Cond.code yX4_reopen cX4_reopen 3 (some .int), Cond.methodLink RL 45 yX3_of, Cond.instanceMethod yX3_of, Cond.selects RX3 yX3_of yX3_of, Cond.code yX3_of cX3_of 3 (some .int), Cond.methodLink RX3 70 yX2_aboutFrame, Cond.instanceMethod yX2_aboutFrame, Cond.selects RX2 yX2_aboutFrame yX2_aboutFrame]
def wsL_law_r15 : List Cond := [Cond.code yX2_aboutFrame cX2_aboutFrame 3 (some .int), Cond.methodLink RL 48 yX4_of, Cond.instanceMethod yX4_of, Cond.selects RX4 yX4_of yX4_of, Cond.code yX4_of cX4_of 3 (some .int), Cond.methodLink RL 49 yX3_editor, Cond.instanceMethod yX3_editor, Cond.selects RX3 yX3_editor yX3_editor, Cond.code yX3_editor cX3_editor 3 (some .int), Cond.methodLink RX3 73 yX2_aboutEditor, Cond.instanceMethod yX2_aboutEditor, Cond.selects RX2 yX2_aboutEditor yX2_aboutEditor, Cond.code yX2_aboutEditor cX2_aboutEditor 3 (some .int), Cond.methodLink RL 52 yX4_editor, Cond.instanceMethod yX4_editor, Cond.selects RX4 yX4_editor yX4_editor, Cond.code yX4_editor cX4_editor 3 (some .int), Cond.methodLink RX4 111 yX4_vetoesLeft, Cond.instanceMethod yX4_vetoesLeft, Cond.selects RX4 yX4_vetoesLeft yX4_vetoesLeft, Cond.code yX4_vetoesLeft cX4_vetoesLeft 3 (some .int), Cond.methodLink RL 53 yX3_chosen, Cond.instanceMethod yX3_chosen, Cond.selects RX3 yX3_chosen yX3_chosen]
def wsL_law_r16 : List Cond := [Cond.code yX3_chosen cX3_chosen 2 (some .int), Cond.methodLink RX3 76 yX2_chosenAt, Cond.instanceMethod yX2_chosenAt, Cond.selects RX2 yX2_chosenAt yX2_chosenAt, Cond.code yX2_chosenAt cX2_chosenAt 5 (some .int), Cond.methodLink RX2 103 yX2_isPicked, Cond.instanceMethod yX2_isPicked, Cond.selects RX2 yX2_isPicked yX2_isPicked, Cond.code yX2_isPicked cX2_isPicked 2 (some .boolean), Cond.methodLink RL 56 yX4_chosen, Cond.instanceMethod yX4_chosen, Cond.selects RX4 yX4_chosen yX4_chosen, Cond.code yX4_chosen cX4_chosen 3 (some .int), Cond.methodLink RX4 114 yX4_isTaken, Cond.instanceMethod yX4_isTaken, Cond.selects RX4 yX4_isTaken yX4_isTaken, Cond.code yX4_isTaken cX4_isTaken 2 (some .boolean), Cond.methodLink RX4 117 yX4_ahead, Cond.instanceMethod yX4_ahead, Cond.selects RX4 yX4_ahead yX4_ahead, Cond.code yX4_ahead cX4_ahead 5 (some .int), Cond.methodLink RL 57 yX3_count, Cond.instanceMethod yX3_count, Cond.selects RX3 yX3_count yX3_count]
def wsL_law_r17 : List Cond := [Cond.code yX3_count cX3_count 2 (some .int), Cond.methodLink RX3 86 yX2_numberOf, Cond.instanceMethod yX2_numberOf, Cond.selects RX2 yX2_numberOf yX2_numberOf, Cond.code yX2_numberOf cX2_numberOf 2 (some .int), Cond.methodLink RX2 106 yX2_framesThatAre, Cond.instanceMethod yX2_framesThatAre, Cond.selects RX2 yX2_framesThatAre yX2_framesThatAre, Cond.code yX2_framesThatAre cX2_framesThatAre 4 (some .int), Cond.methodLink RX2 109 yX2_longestRow, Cond.instanceMethod yX2_longestRow, Cond.selects RX2 yX2_longestRow yX2_longestRow, Cond.code yX2_longestRow cX2_longestRow 4 (some .int), Cond.methodLink RL 60 yX4_count, Cond.instanceMethod yX4_count, Cond.selects RX4 yX4_count yX4_count, Cond.code yX4_count cX4_count 2 (some .int), Cond.fieldLink RX4 126 "ProofMarksModel" "length" "I", Cond.methodLink RX4 120 yX4_howMany, Cond.instanceMethod yX4_howMany, Cond.selects RX4 yX4_howMany yX4_howMany, Cond.code yX4_howMany cX4_howMany 4 (some .int), Cond.methodLink RX4 123 yX4_longestRow, Cond.instanceMethod yX4_longestRow]
def wsL_law_r18 : List Cond := [Cond.selects RX4 yX4_longestRow yX4_longestRow, Cond.code yX4_longestRow cX4_longestRow 4 (some .int), Cond.methodLink RL 61 yX3_why, Cond.instanceMethod yX3_why, Cond.selects RX3 yX3_why yX3_why, Cond.code yX3_why cX3_why 2 (some .int), Cond.methodLink RX3 89 yX2_whyNotChosen, Cond.instanceMethod yX2_whyNotChosen, Cond.selects RX2 yX2_whyNotChosen yX2_whyNotChosen, Cond.code yX2_whyNotChosen cX2_whyNotChosen 2 (some .int), Cond.methodLink RL 64 yX4_why, Cond.instanceMethod yX4_why, Cond.selects RX4 yX4_why yX4_why, Cond.code yX4_why cX4_why 2 (some .int), Cond.methodLink RX4 129 yX4_reason, Cond.instanceMethod yX4_reason, Cond.selects RX4 yX4_reason yX4_reason, Cond.code yX4_reason cX4_reason 2 (some .int), Cond.methodLink RL 65 yX3_ifRound, Cond.instanceMethod yX3_ifRound, Cond.selects RX3 yX3_ifRound yX3_ifRound, Cond.code yX3_ifRound cX3_ifRound 2 (some .int), Cond.methodLink RX3 92 yX2_roundWouldBring, Cond.instanceMethod yX2_roundWouldBring]
def wsL_law_r19 : List Cond := [Cond.selects RX2 yX2_roundWouldBring yX2_roundWouldBring, Cond.code yX2_roundWouldBring cX2_roundWouldBring 2 (some .int), Cond.methodLink RX2 117 yX2_framesThatBecome, Cond.instanceMethod yX2_framesThatBecome, Cond.selects RX2 yX2_framesThatBecome yX2_framesThatBecome, Cond.code yX2_framesThatBecome cX2_framesThatBecome 4 (some .int), Cond.methodLink RL 68 yX4_ifRound, Cond.instanceMethod yX4_ifRound, Cond.selects RX4 yX4_ifRound yX4_ifRound, Cond.code yX4_ifRound cX4_ifRound 5 (some .int), Cond.methodLink RL 69 yX3_decides, Cond.instanceMethod yX3_decides, Cond.selects RX3 yX3_decides yX3_decides, Cond.code yX3_decides cX3_decides 2 (some .int), Cond.methodLink RX3 95 yX2_deciders, Cond.instanceMethod yX2_deciders, Cond.selects RX2 yX2_deciders yX2_deciders, Cond.code yX2_deciders cX2_deciders 4 (some .int), Cond.methodLink RX2 120 yX2_markDecides, Cond.instanceMethod yX2_markDecides, Cond.selects RX2 yX2_markDecides yX2_markDecides, Cond.code yX2_markDecides cX2_markDecides 7 (some .boolean), Cond.methodLink RL 72 yX4_decides, Cond.instanceMethod yX4_decides]
def wsL_law_r20 : List Cond := [Cond.selects RX4 yX4_decides yX4_decides, Cond.code yX4_decides cX4_decides 4 (some .int), Cond.methodLink RX4 132 yX4_matters, Cond.instanceMethod yX4_matters, Cond.selects RX4 yX4_matters yX4_matters, Cond.code yX4_matters cX4_matters 6 (some .boolean), Cond.methodLink RL 73 yX3_agree, Cond.instanceMethod yX3_agree, Cond.selects RX3 yX3_agree yX3_agree, Cond.code yX3_agree cX3_agree 3 (some .int), Cond.methodLink RX3 98 yX2_agreement, Cond.instanceMethod yX2_agreement, Cond.selects RX2 yX2_agreement yX2_agreement, Cond.code yX2_agreement cX2_agreement 8 (some .int), Cond.methodLink RL 76 yX4_agree, Cond.instanceMethod yX4_agree, Cond.selects RX4 yX4_agree yX4_agree, Cond.code yX4_agree cX4_agree 7 (some .int), Cond.methodLink RL 77 yX3_paperFor, Cond.instanceMethod yX3_paperFor, Cond.selects RX3 yX3_paperFor yX3_paperFor, Cond.code yX3_paperFor cX3_paperFor 1 (some .int), Cond.methodLink RX3 101 yX2_paperForChosen, Cond.instanceMethod yX2_paperForChosen]
def wsL_law_r21 : List Cond := [Cond.selects RX2 yX2_paperForChosen yX2_paperForChosen, Cond.code yX2_paperForChosen cX2_paperForChosen 3 (some .int), Cond.methodLink RL 80 yX4_paperFor, Cond.instanceMethod yX4_paperFor, Cond.selects RX4 yX4_paperFor yX4_paperFor, Cond.code yX4_paperFor cX4_paperFor 3 (some .int), Cond.methodLink RL 83 yX3_put, Cond.instanceMethod yX3_put, Cond.selects RX3 yX3_put yX3_put, Cond.code yX3_put cX3_put 3 (some .int), Cond.methodLink RX3 104 yX1_append, Cond.instanceMethod yX1_append, Cond.selects RX1 yX1_append yX1_append, Cond.code yX1_append cX1_append 5 (some .int), Cond.constantLong RX1 42 (255), Cond.methodLink RX1 38 yX1_charactersIn, Cond.static yX1_charactersIn, Cond.code yX1_charactersIn cX1_charactersIn 7 (some .int), Cond.constantLong RX1 44 (33), Cond.constantLong RX1 46 (126), Cond.methodLink RL 87 yX4_put, Cond.instanceMethod yX4_put, Cond.selects RX4 yX4_put yX4_put, Cond.code yX4_put cX4_put 8 (some .int)]
def wsL_law_r22 : List Cond := [Cond.constantLong RX4 135 (255), Cond.methodLink RL 88 yX3_wipe, Cond.instanceMethod yX3_wipe, Cond.selects RX3 yX3_wipe yX3_wipe, Cond.code yX3_wipe cX3_wipe 1 (some .int), Cond.methodLink RX3 108 yX1_empty, Cond.instanceMethod yX1_empty, Cond.selects RX1 yX1_empty yX1_empty, Cond.code yX1_empty cX1_empty 2 (some .int), Cond.methodLink RL 91 yX4_wipe, Cond.instanceMethod yX4_wipe, Cond.selects RX4 yX4_wipe yX4_wipe, Cond.code yX4_wipe cX4_wipe 2 (some .int), Cond.methodLink RL 92 yX3_fault, Cond.instanceMethod yX3_fault, Cond.selects RX3 yX3_fault yX3_fault, Cond.code yX3_fault cX3_fault 1 (some .int), Cond.methodLink RX3 111 yX1_faultAt, Cond.instanceMethod yX1_faultAt, Cond.selects RX1 yX1_faultAt yX1_faultAt, Cond.code yX1_faultAt cX1_faultAt 3 (some .int), Cond.methodLink RX1 48 yX1_rewind, Cond.instanceMethod yX1_rewind, Cond.selects RX1 yX1_rewind yX1_rewind]
def wsL_law_r23 : List Cond := [Cond.code yX1_rewind cX1_rewind 1 none, Cond.methodLink RX1 51 yX1_nextOrder, Cond.instanceMethod yX1_nextOrder, Cond.selects RX1 yX1_nextOrder yX1_nextOrder, Cond.code yX1_nextOrder cX1_nextOrder 1 (some .boolean), Cond.methodLink RX1 55 yX1_take, Cond.instanceMethod yX1_take, Cond.selects RX1 yX1_take yX1_take, Cond.code yX1_take cX1_take 2 (some .boolean), Cond.methodLink RX1 62 yX1_here, Cond.instanceMethod yX1_here, Cond.selects RX1 yX1_here yX1_here, Cond.code yX1_here cX1_here 1 (some .char), Cond.methodLink RX1 59 yX1_takeOrder, Cond.instanceMethod yX1_takeOrder, Cond.selects RX1 yX1_takeOrder yX1_takeOrder, Cond.code yX1_takeOrder cX1_takeOrder 1 (some .boolean), Cond.methodLink RX1 66 yX1_takeEditor, Cond.instanceMethod yX1_takeEditor, Cond.selects RX1 yX1_takeEditor yX1_takeEditor, Cond.code yX1_takeEditor cX1_takeEditor 1 (some .boolean), Cond.methodLink RX1 78 yX1_digitHere, Cond.instanceMethod yX1_digitHere, Cond.selects RX1 yX1_digitHere yX1_digitHere]
def wsL_law_r24 : List Cond := [Cond.code yX1_digitHere cX1_digitHere 2 (some .int), Cond.methodLink RX1 82 yX1_pass, Cond.instanceMethod yX1_pass, Cond.selects RX1 yX1_pass yX1_pass, Cond.code yX1_pass cX1_pass 2 (some .boolean), Cond.methodLink RX1 69 yX1_takeNumber, Cond.instanceMethod yX1_takeNumber, Cond.selects RX1 yX1_takeNumber yX1_takeNumber, Cond.code yX1_takeNumber cX1_takeNumber 2 (some .boolean), Cond.methodLink RX1 72 yX1_takeOther, Cond.instanceMethod yX1_takeOther, Cond.selects RX1 yX1_takeOther yX1_takeOther, Cond.code yX1_takeOther cX1_takeOther 1 (some .boolean), Cond.methodLink RX1 75 yX1_takeSize, Cond.instanceMethod yX1_takeSize, Cond.selects RX1 yX1_takeSize yX1_takeSize, Cond.code yX1_takeSize cX1_takeSize 1 (some .boolean), Cond.methodLink RL 95 yX4_fault, Cond.instanceMethod yX4_fault, Cond.selects RX4 yX4_fault yX4_fault, Cond.code yX4_fault cX4_fault 4 (some .int), Cond.methodLink RX4 152 yX4_orderEnd, Cond.instanceMethod yX4_orderEnd, Cond.selects RX4 yX4_orderEnd yX4_orderEnd]
def wsL_law_r25 : List Cond := [Cond.code yX4_orderEnd cX4_orderEnd 2 (some .int), Cond.methodLink RX4 137 yX4_sign, Cond.instanceMethod yX4_sign, Cond.selects RX4 yX4_sign yX4_sign, Cond.code yX4_sign cX4_sign 2 (some .int), Cond.methodLink RX4 146 yX4_digitEnd, Cond.instanceMethod yX4_digitEnd, Cond.selects RX4 yX4_digitEnd yX4_digitEnd, Cond.code yX4_digitEnd cX4_digitEnd 2 (some .int), Cond.methodLink RX4 140 yX4_digit, Cond.instanceMethod yX4_digit, Cond.selects RX4 yX4_digit yX4_digit, Cond.code yX4_digit cX4_digit 2 (some .int), Cond.methodLink RX4 149 yX4_behind, Cond.instanceMethod yX4_behind, Cond.selects RX4 yX4_behind yX4_behind, Cond.code yX4_behind cX4_behind 3 (some .int), Cond.methodLink RX4 143 yX4_numberEnd, Cond.instanceMethod yX4_numberEnd, Cond.selects RX4 yX4_numberEnd yX4_numberEnd, Cond.code yX4_numberEnd cX4_numberEnd 2 (some .int), Cond.methodLink RL 96 yX3_carryOut, Cond.instanceMethod yX3_carryOut, Cond.selects RX3 yX3_carryOut yX3_carryOut]
def wsL_law_r26 : List Cond := [Cond.code yX3_carryOut cX3_carryOut 2 (some .int), Cond.methodLink RX3 114 yX3_carryOrders, Cond.instanceMethod yX3_carryOrders, Cond.selects RX3 yX3_carryOrders yX3_carryOrders, Cond.code yX3_carryOrders cX3_carryOrders 2 (some .int), Cond.methodLink RX3 133 yX1_rewind, Cond.methodLink RX3 136 yX1_nextOrder, Cond.methodLink RX3 140 yX3_obey, Cond.instanceMethod yX3_obey, Cond.selects RX3 yX3_obey yX3_obey, Cond.code yX3_obey cX3_obey 1 (some .int), Cond.methodLink RL 99 yX4_carryOut, Cond.instanceMethod yX4_carryOut, Cond.selects RX4 yX4_carryOut yX4_carryOut, Cond.code yX4_carryOut cX4_carryOut 4 (some .int), Cond.methodLink RX4 161 yX4_fault, Cond.methodLink RX4 164 yX4_whyNot, Cond.instanceMethod yX4_whyNot, Cond.selects RX4 yX4_whyNot yX4_whyNot, Cond.code yX4_whyNot cX4_whyNot 3 (some .int), Cond.methodLink RX4 155 yX4_numberAt, Cond.instanceMethod yX4_numberAt, Cond.selects RX4 yX4_numberAt yX4_numberAt, Cond.code yX4_numberAt cX4_numberAt 2 (some .int)]
def wsL_law_r27 : List Cond := [Cond.methodLink RX4 158 yX4_markIn, Cond.instanceMethod yX4_markIn, Cond.selects RX4 yX4_markIn yX4_markIn, Cond.code yX4_markIn cX4_markIn 2 (some .int), Cond.methodLink RX4 167 yX4_does, Cond.instanceMethod yX4_does, Cond.selects RX4 yX4_does yX4_does, Cond.code yX4_does cX4_does 3 (some .int), Cond.methodLink RL 100 yX3_undo, Cond.instanceMethod yX3_undo, Cond.selects RX3 yX3_undo yX3_undo, Cond.code yX3_undo cX3_undo 1 (some .int), Cond.methodLink RX3 117 yX0_bringBack, Cond.instanceMethod yX0_bringBack, Cond.selects RX0 yX0_bringBack yX0_bringBack, Cond.code yX0_bringBack cX0_bringBack 2 none, Cond.methodLink RL 103 yX4_undo, Cond.instanceMethod yX4_undo, Cond.selects RX4 yX4_undo yX4_undo, Cond.code yX4_undo cX4_undo 2 (some .int), Cond.methodLink RL 104 yX3_save, Cond.instanceMethod yX3_save, Cond.selects RX3 yX3_save yX3_save, Cond.code yX3_save cX3_save 2 (some .int)]
def wsL_law_r28 : List Cond := [Cond.methodLink RX3 120 yX3_isSlot, Cond.static yX3_isSlot, Cond.code yX3_isSlot cX3_isSlot 1 (some .boolean), Cond.methodLink RX3 124 yX2_takeOver, Cond.methodLink RL 107 yX4_save, Cond.instanceMethod yX4_save, Cond.selects RX4 yX4_save yX4_save, Cond.code yX4_save cX4_save 3 (some .int), Cond.methodLink RL 108 yX3_restore, Cond.instanceMethod yX3_restore, Cond.selects RX3 yX3_restore yX3_restore, Cond.code yX3_restore cX3_restore 2 (some .int), Cond.methodLink RL 111 yX4_restore, Cond.instanceMethod yX4_restore, Cond.selects RX4 yX4_restore yX4_restore, Cond.code yX4_restore cX4_restore 3 (some .int)]
def wsL_law : List Cond := (wsL_law_r1 ++ (wsL_law_r2 ++ (wsL_law_r3 ++ (wsL_law_r4 ++ (wsL_law_r5 ++ (wsL_law_r6 ++ (wsL_law_r7 ++ (wsL_law_r8 ++ (wsL_law_r9 ++ (wsL_law_r10 ++ (wsL_law_r11 ++ (wsL_law_r12 ++ (wsL_law_r13 ++ (wsL_law_r14 ++ (wsL_law_r15 ++ (wsL_law_r16 ++ (wsL_law_r17 ++ (wsL_law_r18 ++ (wsL_law_r19 ++ (wsL_law_r20 ++ (wsL_law_r21 ++ (wsL_law_r22 ++ (wsL_law_r23 ++ (wsL_law_r24 ++ (wsL_law_r25 ++ (wsL_law_r26 ++ (wsL_law_r27 ++ wsL_law_r28))))))))))))))))))))))))))) ++ wsX30 ++ wsX40 ++ wsX20 ++ wsX00 ++ wsX10 ++ ([] : List Cond)
abbrev vwCl : List vw_C := [(RX0, TX0, 2), (RX1, TX1, 8), (RX2, TX2, 15), (RX3, TX3, 5), (RX4, TX4, 7)]
end
section
theorem dJ6_bitCount_0f7a4_0 : decode cJ6_bitCount_0f7a4 0 = .ok (.iload_n 0, 1) := by decide +kernel
theorem dJ6_bitCount_0f7a4_1 : decode cJ6_bitCount_0f7a4 1 = .ok (.iload_n 0, 1) := by decide +kernel
theorem dJ6_bitCount_0f7a4_2 : decode cJ6_bitCount_0f7a4 2 = .ok (.iconst 1, 1) := by decide +kernel
theorem dJ6_bitCount_0f7a4_3 : decode cJ6_bitCount_0f7a4 3 = .ok (.iushr, 1) := by decide +kernel
theorem dJ6_bitCount_0f7a4_4 : decode cJ6_bitCount_0f7a4 4 = .ok (.ldc_w 265, 3) := by decide +kernel
theorem dJ6_bitCount_0f7a4_7 : decode cJ6_bitCount_0f7a4 7 = .ok (.iand, 1) := by decide +kernel
theorem dJ6_bitCount_0f7a4_8 : decode cJ6_bitCount_0f7a4 8 = .ok (.isub, 1) := by decide +kernel
theorem dJ6_bitCount_0f7a4_9 : decode cJ6_bitCount_0f7a4 9 = .ok (.istore_n 0, 1) := by decide +kernel
theorem dJ6_bitCount_0f7a4_10 : decode cJ6_bitCount_0f7a4 10 = .ok (.iload_n 0, 1) := by decide +kernel
theorem dJ6_bitCount_0f7a4_11 : decode cJ6_bitCount_0f7a4 11 = .ok (.ldc_w 266, 3) := by decide +kernel
theorem dJ6_bitCount_0f7a4_14 : decode cJ6_bitCount_0f7a4 14 = .ok (.iand, 1) := by decide +kernel
theorem dJ6_bitCount_0f7a4_15 : decode cJ6_bitCount_0f7a4 15 = .ok (.iload_n 0, 1) := by decide +kernel
theorem dJ6_bitCount_0f7a4_16 : decode cJ6_bitCount_0f7a4 16 = .ok (.iconst 2, 1) := by decide +kernel
theorem dJ6_bitCount_0f7a4_17 : decode cJ6_bitCount_0f7a4 17 = .ok (.iushr, 1) := by decide +kernel
theorem dJ6_bitCount_0f7a4_18 : decode cJ6_bitCount_0f7a4 18 = .ok (.ldc_w 266, 3) := by decide +kernel
theorem dJ6_bitCount_0f7a4_21 : decode cJ6_bitCount_0f7a4 21 = .ok (.iand, 1) := by decide +kernel
theorem dJ6_bitCount_0f7a4_22 : decode cJ6_bitCount_0f7a4 22 = .ok (.iadd, 1) := by decide +kernel
theorem dJ6_bitCount_0f7a4_23 : decode cJ6_bitCount_0f7a4 23 = .ok (.istore_n 0, 1) := by decide +kernel
theorem dJ6_bitCount_0f7a4_24 : decode cJ6_bitCount_0f7a4 24 = .ok (.iload_n 0, 1) := by decide +kernel
theorem dJ6_bitCount_0f7a4_25 : decode cJ6_bitCount_0f7a4 25 = .ok (.iload_n 0, 1) := by decide +kernel
theorem dJ6_bitCount_0f7a4_26 : decode cJ6_bitCount_0f7a4 26 = .ok (.iconst 4, 1) := by decide +kernel
theorem dJ6_bitCount_0f7a4_27 : decode cJ6_bitCount_0f7a4 27 = .ok (.iushr, 1) := by decide +kernel
theorem dJ6_bitCount_0f7a4_28 : decode cJ6_bitCount_0f7a4 28 = .ok (.iadd, 1) := by decide +kernel
theorem dJ6_bitCount_0f7a4_29 : decode cJ6_bitCount_0f7a4 29 = .ok (.ldc_w 267, 3) := by decide +kernel
theorem dJ6_bitCount_0f7a4_32 : decode cJ6_bitCount_0f7a4 32 = .ok (.iand, 1) := by decide +kernel
theorem dJ6_bitCount_0f7a4_33 : decode cJ6_bitCount_0f7a4 33 = .ok (.istore_n 0, 1) := by decide +kernel
theorem dJ6_bitCount_0f7a4_34 : decode cJ6_bitCount_0f7a4 34 = .ok (.iload_n 0, 1) := by decide +kernel
theorem dJ6_bitCount_0f7a4_35 : decode cJ6_bitCount_0f7a4 35 = .ok (.iload_n 0, 1) := by decide +kernel
theorem dJ6_bitCount_0f7a4_36 : decode cJ6_bitCount_0f7a4 36 = .ok (.bipush 8, 2) := by decide +kernel
theorem dJ6_bitCount_0f7a4_38 : decode cJ6_bitCount_0f7a4 38 = .ok (.iushr, 1) := by decide +kernel
theorem dJ6_bitCount_0f7a4_39 : decode cJ6_bitCount_0f7a4 39 = .ok (.iadd, 1) := by decide +kernel
theorem dJ6_bitCount_0f7a4_40 : decode cJ6_bitCount_0f7a4 40 = .ok (.istore_n 0, 1) := by decide +kernel
theorem dJ6_bitCount_0f7a4_41 : decode cJ6_bitCount_0f7a4 41 = .ok (.iload_n 0, 1) := by decide +kernel
theorem dJ6_bitCount_0f7a4_42 : decode cJ6_bitCount_0f7a4 42 = .ok (.iload_n 0, 1) := by decide +kernel
theorem dJ6_bitCount_0f7a4_43 : decode cJ6_bitCount_0f7a4 43 = .ok (.bipush 16, 2) := by decide +kernel
theorem dJ6_bitCount_0f7a4_45 : decode cJ6_bitCount_0f7a4 45 = .ok (.iushr, 1) := by decide +kernel
theorem dJ6_bitCount_0f7a4_46 : decode cJ6_bitCount_0f7a4 46 = .ok (.iadd, 1) := by decide +kernel
theorem dJ6_bitCount_0f7a4_47 : decode cJ6_bitCount_0f7a4 47 = .ok (.istore_n 0, 1) := by decide +kernel
theorem dJ6_bitCount_0f7a4_48 : decode cJ6_bitCount_0f7a4 48 = .ok (.iload_n 0, 1) := by decide +kernel
theorem dJ6_bitCount_0f7a4_49 : decode cJ6_bitCount_0f7a4 49 = .ok (.bipush 63, 2) := by decide +kernel
theorem dJ6_bitCount_0f7a4_51 : decode cJ6_bitCount_0f7a4 51 = .ok (.iand, 1) := by decide +kernel
theorem dJ6_bitCount_0f7a4_52 : decode cJ6_bitCount_0f7a4 52 = .ok (.ireturn, 1) := by decide +kernel
theorem dJ9_max_7cf53_0 : decode cJ9_max_7cf53 0 = .ok (.iload_n 0, 1) := by decide +kernel
theorem dJ9_max_7cf53_1 : decode cJ9_max_7cf53 1 = .ok (.iload_n 1, 1) := by decide +kernel
theorem dJ9_max_7cf53_2 : decode cJ9_max_7cf53 2 = .ok (.if_icmp .lt 7, 3) := by decide +kernel
theorem dJ9_max_7cf53_5 : decode cJ9_max_7cf53 5 = .ok (.iload_n 0, 1) := by decide +kernel
theorem dJ9_max_7cf53_6 : decode cJ9_max_7cf53 6 = .ok (.goto 4, 3) := by decide +kernel
theorem dJ9_max_7cf53_9 : decode cJ9_max_7cf53 9 = .ok (.iload_n 1, 1) := by decide +kernel
theorem dJ9_max_7cf53_10 : decode cJ9_max_7cf53 10 = .ok (.ireturn, 1) := by decide +kernel
theorem dJ9_min_7cf53_0 : decode cJ9_min_7cf53 0 = .ok (.iload_n 0, 1) := by decide +kernel
theorem dJ9_min_7cf53_1 : decode cJ9_min_7cf53 1 = .ok (.iload_n 1, 1) := by decide +kernel
theorem dJ9_min_7cf53_2 : decode cJ9_min_7cf53 2 = .ok (.if_icmp .gt 7, 3) := by decide +kernel
theorem dJ9_min_7cf53_5 : decode cJ9_min_7cf53 5 = .ok (.iload_n 0, 1) := by decide +kernel
theorem dJ9_min_7cf53_6 : decode cJ9_min_7cf53 6 = .ok (.goto 4, 3) := by decide +kernel
theorem dJ9_min_7cf53_9 : decode cJ9_min_7cf53 9 = .ok (.iload_n 1, 1) := by decide +kernel
theorem dJ9_min_7cf53_10 : decode cJ9_min_7cf53 10 = .ok (.ireturn, 1) := by decide +kernel
set_option maxRecDepth 20000 in
theorem ggX2_putMark_X2_isEditor : GoodIn wsX2_putMark wsX2_isEditor := goodIn_r _ [7] (by decide +kernel) (by decide +kernel)
set_option maxRecDepth 20000 in
theorem gX2_putMark_X2_isEditor : GoodIn wsX2_putMark (va_wsS RX2 70 yX2_isEditor wsX2_isEditor) := goodIn_app (goodIn_of _ (by decide +kernel)) ggX2_putMark_X2_isEditor
set_option maxRecDepth 20000 in
theorem ggX2_putMark_X2_isFrame : GoodIn wsX2_putMark wsX2_isFrame := goodIn_r _ [10] (by decide +kernel) (by decide +kernel)
set_option maxRecDepth 20000 in
theorem gX2_putMark_X2_isFrame : GoodIn wsX2_putMark (va_wsS RX2 74 yX2_isFrame wsX2_isFrame) := goodIn_app (goodIn_of _ (by decide +kernel)) ggX2_putMark_X2_isFrame
set_option maxRecDepth 20000 in
theorem ggX2_putMark_X2_markOf : GoodIn wsX2_putMark wsX2_markOf := goodIn_r _ [14, 2, 3, 31, 32, 33, 34, 35, 36, 37, 38, 39, 40, 41, 42, 43, 44, 45] (by decide +kernel) (by decide +kernel)
set_option maxRecDepth 20000 in
theorem gX2_putMark_X2_markOf : GoodIn wsX2_putMark (wsV RX2 77 RX2 yX2_markOf wsX2_markOf) := goodIn_app (goodIn_of _ (by decide +kernel)) ggX2_putMark_X2_markOf
set_option maxRecDepth 20000 in
theorem ggX2_putMark_X2_vetoesLeft : GoodIn wsX2_putMark wsX2_vetoesLeft := goodIn_r _ [18, 19, 20, 21, 22, 23, 24, 25, 26, 6, 27, 11, 12, 13, 14, 2, 3, 31, 32, 33, 34, 35, 36, 37, 38, 39, 40, 41, 42, 43, 44, 45] (by decide +kernel) (by decide +kernel)
set_option maxRecDepth 20000 in
theorem gX2_putMark_X2_vetoesLeft : GoodIn wsX2_putMark (wsV RX2 81 RX2 yX2_vetoesLeft wsX2_vetoesLeft) := goodIn_app (goodIn_of _ (by decide +kernel)) ggX2_putMark_X2_vetoesLeft
set_option maxRecDepth 20000 in
theorem ggX2_putMark_X2_withEditor : GoodIn wsX2_putMark wsX2_withEditor := goodIn_r _ [30] (by decide +kernel) (by decide +kernel)
set_option maxRecDepth 20000 in
theorem gX2_putMark_X2_withEditor : GoodIn wsX2_putMark (va_wsS RX2 85 yX2_withEditor wsX2_withEditor) := goodIn_app (goodIn_of _ (by decide +kernel)) ggX2_putMark_X2_withEditor
set_option maxRecDepth 20000 in
theorem ggX2_argueAgainst_X2_isEditor : GoodIn wsX2_argueAgainst wsX2_isEditor := goodIn_r _ [9] (by decide +kernel) (by decide +kernel)
set_option maxRecDepth 20000 in
theorem gX2_argueAgainst_X2_isEditor : GoodIn wsX2_argueAgainst (va_wsS RX2 70 yX2_isEditor wsX2_isEditor) := goodIn_app (goodIn_of _ (by decide +kernel)) ggX2_argueAgainst_X2_isEditor
set_option maxRecDepth 20000 in
theorem ggX2_argueAgainst_X2_isFrame : GoodIn wsX2_argueAgainst wsX2_isFrame := goodIn_r _ [12] (by decide +kernel) (by decide +kernel)
set_option maxRecDepth 20000 in
theorem gX2_argueAgainst_X2_isFrame : GoodIn wsX2_argueAgainst (va_wsS RX2 74 yX2_isFrame wsX2_isFrame) := goodIn_app (goodIn_of _ (by decide +kernel)) ggX2_argueAgainst_X2_isFrame
set_option maxRecDepth 20000 in
theorem ggX2_argueAgainst_X2_markOf : GoodIn wsX2_argueAgainst wsX2_markOf := goodIn_r _ [16, 17, 4, 21, 22, 23, 24, 25, 26, 27, 28, 29, 30, 31, 32, 33, 34, 35] (by decide +kernel) (by decide +kernel)
set_option maxRecDepth 20000 in
theorem gX2_argueAgainst_X2_markOf : GoodIn wsX2_argueAgainst (wsV RX2 77 RX2 yX2_markOf wsX2_markOf) := goodIn_app (goodIn_of _ (by decide +kernel)) ggX2_argueAgainst_X2_markOf
set_option maxRecDepth 20000 in
theorem ggX2_argueAgainst_X2_withEditor : GoodIn wsX2_argueAgainst wsX2_withEditor := goodIn_r _ [20] (by decide +kernel) (by decide +kernel)
set_option maxRecDepth 20000 in
theorem gX2_argueAgainst_X2_withEditor : GoodIn wsX2_argueAgainst (va_wsS RX2 85 yX2_withEditor wsX2_withEditor) := goodIn_app (goodIn_of _ (by decide +kernel)) ggX2_argueAgainst_X2_withEditor
set_option maxRecDepth 20000 in
theorem ggX2_endRound_X2_settle : GoodIn wsX2_endRound wsX2_settle := goodIn_r _ [12, 13, 2, 14, 15, 16, 17, 18, 11, 19, 20, 21, 22, 23, 24, 25, 26, 27, 28, 29, 30, 31, 32, 33, 34, 35, 36, 37, 38, 39, 40, 41, 1, 42, 43, 44, 45, 46, 47, 48, 49, 50, 51, 52, 53, 54, 55, 56, 57, 58, 59, 60, 61] (by decide +kernel) (by decide +kernel)
set_option maxRecDepth 20000 in
theorem gX2_endRound_X2_settle : GoodIn wsX2_endRound (wsV RX2 89 RX2 yX2_settle wsX2_settle) := goodIn_app (goodIn_of _ (by decide +kernel)) ggX2_endRound_X2_settle
set_option maxRecDepth 20000 in
theorem ggX2_printFrame_X2_isFrame : GoodIn wsX2_printFrame wsX2_isFrame := goodIn_r _ [9] (by decide +kernel) (by decide +kernel)
set_option maxRecDepth 20000 in
theorem gX2_printFrame_X2_isFrame : GoodIn wsX2_printFrame (va_wsS RX2 74 yX2_isFrame wsX2_isFrame) := goodIn_app (goodIn_of _ (by decide +kernel)) ggX2_printFrame_X2_isFrame
set_option maxRecDepth 20000 in
theorem ggX2_printFrame_X2_paperOf : GoodIn wsX2_printFrame wsX2_paperOf := goodIn_r _ [12] (by decide +kernel) (by decide +kernel)
set_option maxRecDepth 20000 in
theorem gX2_printFrame_X2_paperOf : GoodIn wsX2_printFrame (va_wsS RX2 97 yX2_paperOf wsX2_paperOf) := goodIn_app (goodIn_of _ (by decide +kernel)) ggX2_printFrame_X2_paperOf
set_option maxRecDepth 20000 in
theorem ggX2_openAgain_X2_isFrame : GoodIn wsX2_openAgain wsX2_isFrame := goodIn_r _ [7] (by decide +kernel) (by decide +kernel)
set_option maxRecDepth 20000 in
theorem gX2_openAgain_X2_isFrame : GoodIn wsX2_openAgain (va_wsS RX2 74 yX2_isFrame wsX2_isFrame) := goodIn_app (goodIn_of _ (by decide +kernel)) ggX2_openAgain_X2_isFrame
set_option maxRecDepth 20000 in
theorem ggX2_aboutFrame_X2_isFrame : GoodIn wsX2_aboutFrame wsX2_isFrame := goodIn_r _ [10] (by decide +kernel) (by decide +kernel)
set_option maxRecDepth 20000 in
theorem gX2_aboutFrame_X2_isFrame : GoodIn wsX2_aboutFrame (va_wsS RX2 74 yX2_isFrame wsX2_isFrame) := goodIn_app (goodIn_of _ (by decide +kernel)) ggX2_aboutFrame_X2_isFrame
set_option maxRecDepth 20000 in
theorem ggX2_aboutEditor_X2_isEditor : GoodIn wsX2_aboutEditor wsX2_isEditor := goodIn_r _ [8] (by decide +kernel) (by decide +kernel)
set_option maxRecDepth 20000 in
theorem gX2_aboutEditor_X2_isEditor : GoodIn wsX2_aboutEditor (va_wsS RX2 70 yX2_isEditor wsX2_isEditor) := goodIn_app (goodIn_of _ (by decide +kernel)) ggX2_aboutEditor_X2_isEditor
set_option maxRecDepth 20000 in
theorem ggX2_aboutEditor_X2_marksOf : GoodIn wsX2_aboutEditor wsX2_marksOf := goodIn_r _ [12, 13, 14, 15, 7, 16, 17, 18, 28, 29, 30, 31, 32, 33, 34, 35, 36, 37, 38, 39, 40, 41, 42] (by decide +kernel) (by decide +kernel)
set_option maxRecDepth 20000 in
theorem gX2_aboutEditor_X2_marksOf : GoodIn wsX2_aboutEditor (wsV RX2 100 RX2 yX2_marksOf wsX2_marksOf) := goodIn_app (goodIn_of _ (by decide +kernel)) ggX2_aboutEditor_X2_marksOf
set_option maxRecDepth 20000 in
theorem ggX2_aboutEditor_X2_vetoesLeft : GoodIn wsX2_aboutEditor wsX2_vetoesLeft := goodIn_r _ [22, 23, 24, 25, 26, 27, 9, 10, 11, 7, 12, 13, 14, 15, 16, 17, 18, 28, 29, 30, 31, 32, 33, 34, 35, 36, 37, 38, 39, 40, 41, 42] (by decide +kernel) (by decide +kernel)
set_option maxRecDepth 20000 in
theorem gX2_aboutEditor_X2_vetoesLeft : GoodIn wsX2_aboutEditor (wsV RX2 81 RX2 yX2_vetoesLeft wsX2_vetoesLeft) := goodIn_app (goodIn_of _ (by decide +kernel)) ggX2_aboutEditor_X2_vetoesLeft
set_option maxRecDepth 20000 in
theorem ggX2_chosenAt_X2_isPicked : GoodIn wsX2_chosenAt wsX2_isPicked := goodIn_r _ [7, 8, 9, 10, 11, 12, 13, 14, 15, 16, 17, 18, 19, 20, 21, 22, 23] (by decide +kernel) (by decide +kernel)
set_option maxRecDepth 20000 in
theorem gX2_chosenAt_X2_isPicked : GoodIn wsX2_chosenAt (wsV RX2 103 RX2 yX2_isPicked wsX2_isPicked) := goodIn_app (goodIn_of _ (by decide +kernel)) ggX2_chosenAt_X2_isPicked
set_option maxRecDepth 20000 in
theorem ggX2_numberOf_X2_framesThatAre : GoodIn wsX2_numberOf wsX2_framesThatAre := goodIn_r _ [10, 11, 24, 25, 26, 27, 28, 29, 30, 31, 32, 33, 34, 35, 36, 37, 38] (by decide +kernel) (by decide +kernel)
set_option maxRecDepth 20000 in
theorem gX2_numberOf_X2_framesThatAre : GoodIn wsX2_numberOf (wsV RX2 106 RX2 yX2_framesThatAre wsX2_framesThatAre) := goodIn_app (goodIn_of _ (by decide +kernel)) ggX2_numberOf_X2_framesThatAre
set_option maxRecDepth 20000 in
theorem ggX2_numberOf_X2_longestRow : GoodIn wsX2_numberOf wsX2_longestRow := goodIn_r _ [15, 16, 17, 18, 19, 20, 21, 22, 9, 23, 11, 24, 25, 26, 27, 28, 29, 30, 31, 32, 33, 34, 35, 36, 37, 38] (by decide +kernel) (by decide +kernel)
set_option maxRecDepth 20000 in
theorem gX2_numberOf_X2_longestRow : GoodIn wsX2_numberOf (wsV RX2 109 RX2 yX2_longestRow wsX2_longestRow) := goodIn_app (goodIn_of _ (by decide +kernel)) ggX2_numberOf_X2_longestRow
set_option maxRecDepth 20000 in
theorem ggX2_whyNotChosen_X2_isFrame : GoodIn wsX2_whyNotChosen wsX2_isFrame := goodIn_r _ [7] (by decide +kernel) (by decide +kernel)
set_option maxRecDepth 20000 in
theorem gX2_whyNotChosen_X2_isFrame : GoodIn wsX2_whyNotChosen (va_wsS RX2 74 yX2_isFrame wsX2_isFrame) := goodIn_app (goodIn_of _ (by decide +kernel)) ggX2_whyNotChosen_X2_isFrame
set_option maxRecDepth 20000 in
theorem ggX2_whyNotChosen_X2_isWanted : GoodIn wsX2_whyNotChosen wsX2_isWanted := goodIn_r _ [11, 12, 13, 14, 15, 16, 17, 18, 19, 20, 21, 22, 23, 24, 25, 26, 27, 28, 29, 30, 31, 32, 33, 34] (by decide +kernel) (by decide +kernel)
set_option maxRecDepth 20000 in
theorem gX2_whyNotChosen_X2_isWanted : GoodIn wsX2_whyNotChosen (wsV RX2 113 RX2 yX2_isWanted wsX2_isWanted) := goodIn_app (goodIn_of _ (by decide +kernel)) ggX2_whyNotChosen_X2_isWanted
set_option maxRecDepth 20000 in
theorem ggX2_roundWouldBring_X2_framesThatBecome : GoodIn wsX2_roundWouldBring wsX2_framesThatBecome := goodIn_r _ [5, 6, 7, 8, 9, 4, 10, 11, 12, 13, 14, 15, 16, 17, 18, 19, 20, 21, 22, 23, 24, 25, 26, 27, 28, 29, 30, 31, 32, 33, 34, 35, 36, 37, 38, 39, 40, 41, 42, 43, 44] (by decide +kernel) (by decide +kernel)
set_option maxRecDepth 20000 in
theorem gX2_roundWouldBring_X2_framesThatBecome : GoodIn wsX2_roundWouldBring (wsV RX2 117 RX2 yX2_framesThatBecome wsX2_framesThatBecome) := goodIn_app (goodIn_of _ (by decide +kernel)) ggX2_roundWouldBring_X2_framesThatBecome
set_option maxRecDepth 20000 in
theorem ggX2_deciders_X2_isFrame : GoodIn wsX2_deciders wsX2_isFrame := goodIn_r _ [5] (by decide +kernel) (by decide +kernel)
set_option maxRecDepth 20000 in
theorem gX2_deciders_X2_isFrame : GoodIn wsX2_deciders (va_wsS RX2 74 yX2_isFrame wsX2_isFrame) := goodIn_app (goodIn_of _ (by decide +kernel)) ggX2_deciders_X2_isFrame
set_option maxRecDepth 20000 in
theorem ggX2_deciders_X2_markDecides : GoodIn wsX2_deciders wsX2_markDecides := goodIn_r _ [9, 10, 11, 12, 13, 14, 4, 15, 16, 17, 18, 19, 20, 21, 22, 23, 24, 25, 26, 27, 28, 29, 30, 31, 32, 33, 34, 35, 36, 37, 38, 39, 40, 41] (by decide +kernel) (by decide +kernel)
set_option maxRecDepth 20000 in
theorem gX2_deciders_X2_markDecides : GoodIn wsX2_deciders (wsV RX2 120 RX2 yX2_markDecides wsX2_markDecides) := goodIn_app (goodIn_of _ (by decide +kernel)) ggX2_deciders_X2_markDecides
set_option maxRecDepth 20000 in
theorem ggX2_deciders_X2_withEditor : GoodIn wsX2_deciders wsX2_withEditor := goodIn_r _ [26] (by decide +kernel) (by decide +kernel)
set_option maxRecDepth 20000 in
theorem gX2_deciders_X2_withEditor : GoodIn wsX2_deciders (va_wsS RX2 85 yX2_withEditor wsX2_withEditor) := goodIn_app (goodIn_of _ (by decide +kernel)) ggX2_deciders_X2_withEditor
set_option maxRecDepth 20000 in
theorem ggX2_agreement_X2_isEditor : GoodIn wsX2_agreement wsX2_isEditor := goodIn_r _ [4] (by decide +kernel) (by decide +kernel)
set_option maxRecDepth 20000 in
theorem gX2_agreement_X2_isEditor : GoodIn wsX2_agreement (va_wsS RX2 70 yX2_isEditor wsX2_isEditor) := goodIn_app (goodIn_of _ (by decide +kernel)) ggX2_agreement_X2_isEditor
set_option maxRecDepth 20000 in
theorem ggX2_agreement_X2_markOf : GoodIn wsX2_agreement wsX2_markOf := goodIn_r _ [8, 9, 10, 11, 12, 13, 14, 15, 16, 17, 18, 19, 20, 21, 22, 23, 24, 25] (by decide +kernel) (by decide +kernel)
set_option maxRecDepth 20000 in
theorem gX2_agreement_X2_markOf : GoodIn wsX2_agreement (wsV RX2 77 RX2 yX2_markOf wsX2_markOf) := goodIn_app (goodIn_of _ (by decide +kernel)) ggX2_agreement_X2_markOf
set_option maxRecDepth 20000 in
theorem ggX2_paperForChosen_X2_paperOf : GoodIn wsX2_paperForChosen wsX2_paperOf := goodIn_r _ [6] (by decide +kernel) (by decide +kernel)
set_option maxRecDepth 20000 in
theorem gX2_paperForChosen_X2_paperOf : GoodIn wsX2_paperForChosen (va_wsS RX2 97 yX2_paperOf wsX2_paperOf) := goodIn_app (goodIn_of _ (by decide +kernel)) ggX2_paperForChosen_X2_paperOf
set_option maxRecDepth 20000 in
theorem ggX2_settle_X2_afterRound : GoodIn wsX2_settle wsX2_afterRound := goodIn_r _ [9, 4, 3, 10, 11, 12, 13, 14, 15, 16, 17, 18, 19, 20, 8, 21, 22, 23, 24, 25, 1, 38, 39, 40, 41, 42, 43, 44, 45, 46, 47, 48, 49, 50, 51, 52] (by decide +kernel) (by decide +kernel)
set_option maxRecDepth 20000 in
theorem gX2_settle_X2_afterRound : GoodIn wsX2_settle (wsV RX2 123 RX2 yX2_afterRound wsX2_afterRound) := goodIn_app (goodIn_of _ (by decide +kernel)) ggX2_settle_X2_afterRound
set_option maxRecDepth 20000 in
theorem ggX2_settle_X2_noteChoice : GoodIn wsX2_settle wsX2_noteChoice := goodIn_r _ [29, 30, 3, 31, 32, 33, 11, 12, 13, 14, 15, 16, 17, 34, 35, 36, 8, 37, 4, 38, 39, 40, 41, 42, 43, 44, 45, 46, 47, 48, 49, 50, 51, 52] (by decide +kernel) (by decide +kernel)
set_option maxRecDepth 20000 in
theorem gX2_settle_X2_noteChoice : GoodIn wsX2_settle (wsV RX2 126 RX2 yX2_noteChoice wsX2_noteChoice) := goodIn_app (goodIn_of _ (by decide +kernel)) ggX2_settle_X2_noteChoice
set_option maxRecDepth 20000 in
theorem ggX2_settle_X2_dullAfterRound : GoodIn wsX2_settle wsX2_dullAfterRound := goodIn_r _ [25, 3, 4, 1, 38, 39, 40, 41, 42, 43, 44, 45, 46, 47, 48, 49, 50, 51, 52] (by decide +kernel) (by decide +kernel)
set_option maxRecDepth 20000 in
theorem gX2_settle_X2_dullAfterRound : GoodIn wsX2_settle (wsV RX2 130 RX2 yX2_dullAfterRound wsX2_dullAfterRound) := goodIn_app (goodIn_of _ (by decide +kernel)) ggX2_settle_X2_dullAfterRound
set_option maxRecDepth 20000 in
theorem ggX2_noteChoice_J6_bitCount_0f7a4 : GoodIn wsX2_noteChoice wsJ6_bitCount_0f7a4 := goodIn_r _ [9, 10, 11, 12] (by decide +kernel) (by decide +kernel)
set_option maxRecDepth 20000 in
theorem gX2_noteChoice_J6_bitCount_0f7a4 : GoodIn wsX2_noteChoice (va_wsS RX2 133 yJ6_bitCount_0f7a4 wsJ6_bitCount_0f7a4) := goodIn_app (goodIn_of _ (by decide +kernel)) ggX2_noteChoice_J6_bitCount_0f7a4
set_option maxRecDepth 20000 in
theorem ggX2_noteChoice_X2_markOf : GoodIn wsX2_noteChoice wsX2_markOf := goodIn_r _ [17, 2, 18, 19, 20, 21, 22, 23, 24, 25, 26, 27, 28, 29, 30, 31, 32, 33] (by decide +kernel) (by decide +kernel)
set_option maxRecDepth 20000 in
theorem gX2_noteChoice_X2_markOf : GoodIn wsX2_noteChoice (wsV RX2 77 RX2 yX2_markOf wsX2_markOf) := goodIn_app (goodIn_of _ (by decide +kernel)) ggX2_noteChoice_X2_markOf
set_option maxRecDepth 20000 in
theorem ggX2_afterRound_J6_bitCount_0f7a4 : GoodIn wsX2_afterRound wsJ6_bitCount_0f7a4 := goodIn_r _ [7, 8, 9, 10] (by decide +kernel) (by decide +kernel)
set_option maxRecDepth 20000 in
theorem gX2_afterRound_J6_bitCount_0f7a4 : GoodIn wsX2_afterRound (va_wsS RX2 133 yJ6_bitCount_0f7a4 wsJ6_bitCount_0f7a4) := goodIn_app (goodIn_of _ (by decide +kernel)) ggX2_afterRound_J6_bitCount_0f7a4
set_option maxRecDepth 20000 in
theorem ggX2_afterRound_X2_isWanted : GoodIn wsX2_afterRound wsX2_isWanted := goodIn_r _ [15, 3, 4, 5, 6, 7, 8, 9, 10, 21, 22, 23, 24, 25, 26, 27, 28, 29, 30, 31, 32, 33, 34, 35] (by decide +kernel) (by decide +kernel)
set_option maxRecDepth 20000 in
theorem gX2_afterRound_X2_isWanted : GoodIn wsX2_afterRound (wsV RX2 113 RX2 yX2_isWanted wsX2_isWanted) := goodIn_app (goodIn_of _ (by decide +kernel)) ggX2_afterRound_X2_isWanted
set_option maxRecDepth 20000 in
theorem ggX2_afterRound_X2_dullAfterRound : GoodIn wsX2_afterRound wsX2_dullAfterRound := goodIn_r _ [19, 2, 1, 20, 21, 22, 23, 24, 25, 26, 27, 28, 29, 30, 31, 32, 33, 34, 35] (by decide +kernel) (by decide +kernel)
set_option maxRecDepth 20000 in
theorem gX2_afterRound_X2_dullAfterRound : GoodIn wsX2_afterRound (wsV RX2 130 RX2 yX2_dullAfterRound wsX2_dullAfterRound) := goodIn_app (goodIn_of _ (by decide +kernel)) ggX2_afterRound_X2_dullAfterRound
set_option maxRecDepth 20000 in
theorem ggX2_isWanted_J6_bitCount_0f7a4 : GoodIn wsX2_isWanted wsJ6_bitCount_0f7a4 := goodIn_r _ [5, 6, 7, 8] (by decide +kernel) (by decide +kernel)
set_option maxRecDepth 20000 in
theorem gX2_isWanted_J6_bitCount_0f7a4 : GoodIn wsX2_isWanted (va_wsS RX2 133 yJ6_bitCount_0f7a4 wsJ6_bitCount_0f7a4) := goodIn_app (goodIn_of _ (by decide +kernel)) ggX2_isWanted_J6_bitCount_0f7a4
set_option maxRecDepth 20000 in
theorem ggX2_markDecides_X2_isWanted : GoodIn wsX2_markDecides wsX2_isWanted := goodIn_r _ [7, 8, 9, 10, 11, 12, 13, 14, 15, 19, 20, 21, 22, 23, 24, 25, 26, 27, 28, 29, 30, 31, 32, 33] (by decide +kernel) (by decide +kernel)
set_option maxRecDepth 20000 in
theorem gX2_markDecides_X2_isWanted : GoodIn wsX2_markDecides (wsV RX2 113 RX2 yX2_isWanted wsX2_isWanted) := goodIn_app (goodIn_of _ (by decide +kernel)) ggX2_markDecides_X2_isWanted
set_option maxRecDepth 20000 in
theorem ggX2_markDecides_X2_withEditor : GoodIn wsX2_markDecides wsX2_withEditor := goodIn_r _ [18] (by decide +kernel) (by decide +kernel)
set_option maxRecDepth 20000 in
theorem gX2_markDecides_X2_withEditor : GoodIn wsX2_markDecides (va_wsS RX2 85 yX2_withEditor wsX2_withEditor) := goodIn_app (goodIn_of _ (by decide +kernel)) ggX2_markDecides_X2_withEditor
set_option maxRecDepth 20000 in
theorem ggX2_framesThatBecome_X2_afterRound : GoodIn wsX2_framesThatBecome wsX2_afterRound := goodIn_r _ [6, 7, 8, 9, 10, 11, 12, 13, 14, 15, 16, 17, 18, 19, 5, 20, 21, 22, 23, 24, 25, 26, 27, 28, 29, 30, 31, 32, 33, 34, 35, 36, 37, 38, 39, 40] (by decide +kernel) (by decide +kernel)
set_option maxRecDepth 20000 in
theorem gX2_framesThatBecome_X2_afterRound : GoodIn wsX2_framesThatBecome (wsV RX2 123 RX2 yX2_afterRound wsX2_afterRound) := goodIn_app (goodIn_of _ (by decide +kernel)) ggX2_framesThatBecome_X2_afterRound
set_option maxRecDepth 20000 in
theorem ggX2_longestRow_X2_isPicked : GoodIn wsX2_longestRow wsX2_isPicked := goodIn_r _ [9, 10, 11, 12, 13, 14, 15, 16, 17, 18, 19, 20, 21, 22, 23, 24, 25] (by decide +kernel) (by decide +kernel)
set_option maxRecDepth 20000 in
theorem gX2_longestRow_X2_isPicked : GoodIn wsX2_longestRow (wsV RX2 103 RX2 yX2_isPicked wsX2_isPicked) := goodIn_app (goodIn_of _ (by decide +kernel)) ggX2_longestRow_X2_isPicked
set_option maxRecDepth 20000 in
theorem ggX2_marksOf_X2_markOf : GoodIn wsX2_marksOf wsX2_markOf := goodIn_r _ [5, 6, 7, 8, 9, 10, 11, 12, 13, 14, 15, 16, 17, 18, 19, 20, 21, 22] (by decide +kernel) (by decide +kernel)
set_option maxRecDepth 20000 in
theorem gX2_marksOf_X2_markOf : GoodIn wsX2_marksOf (wsV RX2 77 RX2 yX2_markOf wsX2_markOf) := goodIn_app (goodIn_of _ (by decide +kernel)) ggX2_marksOf_X2_markOf
set_option maxRecDepth 20000 in
theorem ggX2_vetoesLeft_X2_marksOf : GoodIn wsX2_vetoesLeft wsX2_marksOf := goodIn_r _ [10, 11, 12, 13, 9, 14, 15, 16, 17, 18, 19, 20, 21, 22, 23, 24, 25, 26, 27, 28, 29, 30, 31] (by decide +kernel) (by decide +kernel)
set_option maxRecDepth 20000 in
theorem gX2_vetoesLeft_X2_marksOf : GoodIn wsX2_vetoesLeft (wsV RX2 100 RX2 yX2_marksOf wsX2_marksOf) := goodIn_app (goodIn_of _ (by decide +kernel)) ggX2_vetoesLeft_X2_marksOf
end
section
theorem dX2_init_0 : decode cX2_init 0 = .ok (.aload_n 0, 1) := by decide +kernel
theorem dX2_init_1 : decode cX2_init 1 = .ok (.invokespecial 5, 3) := by decide +kernel
theorem dX2_init_4 : decode cX2_init 4 = .ok (.aload_n 0, 1) := by decide +kernel
theorem dX2_init_5 : decode cX2_init 5 = .ok (.iconst 4, 1) := by decide +kernel
theorem dX2_init_6 : decode cX2_init 6 = .ok (.newarray .int, 2) := by decide +kernel
theorem dX2_init_8 : decode cX2_init 8 = .ok (.dup, 1) := by decide +kernel
theorem dX2_init_9 : decode cX2_init 9 = .ok (.iconst 0, 1) := by decide +kernel
theorem dX2_init_10 : decode cX2_init 10 = .ok (.iconst 2, 1) := by decide +kernel
theorem dX2_init_11 : decode cX2_init 11 = .ok (.iastore, 1) := by decide +kernel
theorem dX2_init_12 : decode cX2_init 12 = .ok (.dup, 1) := by decide +kernel
theorem dX2_init_13 : decode cX2_init 13 = .ok (.iconst 1, 1) := by decide +kernel
theorem dX2_init_14 : decode cX2_init 14 = .ok (.iconst 3, 1) := by decide +kernel
theorem dX2_init_15 : decode cX2_init 15 = .ok (.iastore, 1) := by decide +kernel
theorem dX2_init_16 : decode cX2_init 16 = .ok (.dup, 1) := by decide +kernel
theorem dX2_init_17 : decode cX2_init 17 = .ok (.iconst 2, 1) := by decide +kernel
theorem dX2_init_18 : decode cX2_init 18 = .ok (.iconst 2, 1) := by decide +kernel
theorem dX2_init_19 : decode cX2_init 19 = .ok (.iastore, 1) := by decide +kernel
theorem dX2_init_20 : decode cX2_init 20 = .ok (.dup, 1) := by decide +kernel
theorem dX2_init_21 : decode cX2_init 21 = .ok (.iconst 3, 1) := by decide +kernel
theorem dX2_init_22 : decode cX2_init 22 = .ok (.iconst 2, 1) := by decide +kernel
theorem dX2_init_23 : decode cX2_init 23 = .ok (.iastore, 1) := by decide +kernel
theorem dX2_init_24 : decode cX2_init 24 = .ok (.putfield 11, 3) := by decide +kernel
theorem dX2_init_27 : decode cX2_init 27 = .ok (.aload_n 0, 1) := by decide +kernel
theorem dX2_init_28 : decode cX2_init 28 = .ok (.bipush 30, 2) := by decide +kernel
theorem dX2_init_30 : decode cX2_init 30 = .ok (.newarray .int, 2) := by decide +kernel
theorem dX2_init_32 : decode cX2_init 32 = .ok (.putfield 15, 3) := by decide +kernel
theorem dX2_init_35 : decode cX2_init 35 = .ok (.aload_n 0, 1) := by decide +kernel
theorem dX2_init_36 : decode cX2_init 36 = .ok (.bipush 30, 2) := by decide +kernel
theorem dX2_init_38 : decode cX2_init 38 = .ok (.newarray .int, 2) := by decide +kernel
theorem dX2_init_40 : decode cX2_init 40 = .ok (.putfield 18, 3) := by decide +kernel
theorem dX2_init_43 : decode cX2_init 43 = .ok (.aload_n 0, 1) := by decide +kernel
theorem dX2_init_44 : decode cX2_init 44 = .ok (.bipush 30, 2) := by decide +kernel
theorem dX2_init_46 : decode cX2_init 46 = .ok (.newarray .int, 2) := by decide +kernel
theorem dX2_init_48 : decode cX2_init 48 = .ok (.putfield 21, 3) := by decide +kernel
theorem dX2_init_51 : decode cX2_init 51 = .ok (.aload_n 0, 1) := by decide +kernel
theorem dX2_init_52 : decode cX2_init 52 = .ok (.bipush 30, 2) := by decide +kernel
theorem dX2_init_54 : decode cX2_init 54 = .ok (.newarray .int, 2) := by decide +kernel
theorem dX2_init_56 : decode cX2_init 56 = .ok (.putfield 24, 3) := by decide +kernel
theorem dX2_init_59 : decode cX2_init 59 = .ok (.aload_n 0, 1) := by decide +kernel
theorem dX2_init_60 : decode cX2_init 60 = .ok (.bipush 30, 2) := by decide +kernel
theorem dX2_init_62 : decode cX2_init 62 = .ok (.newarray .int, 2) := by decide +kernel
theorem dX2_init_64 : decode cX2_init 64 = .ok (.putfield 27, 3) := by decide +kernel
theorem dX2_init_67 : decode cX2_init 67 = .ok (.aload_n 0, 1) := by decide +kernel
theorem dX2_init_68 : decode cX2_init 68 = .ok (.bipush 30, 2) := by decide +kernel
theorem dX2_init_70 : decode cX2_init 70 = .ok (.newarray .int, 2) := by decide +kernel
theorem dX2_init_72 : decode cX2_init 72 = .ok (.putfield 30, 3) := by decide +kernel
theorem dX2_init_75 : decode cX2_init 75 = .ok (.aload_n 0, 1) := by decide +kernel
theorem dX2_init_76 : decode cX2_init 76 = .ok (.iconst 3, 1) := by decide +kernel
theorem dX2_init_77 : decode cX2_init 77 = .ok (.newarray .int, 2) := by decide +kernel
theorem dX2_init_79 : decode cX2_init 79 = .ok (.putfield 33, 3) := by decide +kernel
theorem dX2_init_82 : decode cX2_init 82 = .ok (.aload_n 0, 1) := by decide +kernel
theorem dX2_init_83 : decode cX2_init 83 = .ok (.iconst 3, 1) := by decide +kernel
theorem dX2_init_84 : decode cX2_init 84 = .ok (.newarray .int, 2) := by decide +kernel
theorem dX2_init_86 : decode cX2_init 86 = .ok (.putfield 36, 3) := by decide +kernel
theorem dX2_init_89 : decode cX2_init 89 = .ok (.aload_n 0, 1) := by decide +kernel
theorem dX2_init_90 : decode cX2_init 90 = .ok (.iconst 3, 1) := by decide +kernel
theorem dX2_init_91 : decode cX2_init 91 = .ok (.newarray .int, 2) := by decide +kernel
theorem dX2_init_93 : decode cX2_init 93 = .ok (.putfield 39, 3) := by decide +kernel
theorem dX2_init_96 : decode cX2_init 96 = .ok (.aload_n 0, 1) := by decide +kernel
theorem dX2_init_97 : decode cX2_init 97 = .ok (.iconst 3, 1) := by decide +kernel
theorem dX2_init_98 : decode cX2_init 98 = .ok (.newarray .int, 2) := by decide +kernel
theorem dX2_init_100 : decode cX2_init 100 = .ok (.putfield 42, 3) := by decide +kernel
theorem dX2_init_103 : decode cX2_init 103 = .ok (.aload_n 0, 1) := by decide +kernel
theorem dX2_init_104 : decode cX2_init 104 = .ok (.iconst 4, 1) := by decide +kernel
theorem dX2_init_105 : decode cX2_init 105 = .ok (.newarray .int, 2) := by decide +kernel
theorem dX2_init_107 : decode cX2_init 107 = .ok (.putfield 45, 3) := by decide +kernel
theorem dX2_init_110 : decode cX2_init 110 = .ok (.aload_n 0, 1) := by decide +kernel
theorem dX2_init_111 : decode cX2_init 111 = .ok (.iconst 0, 1) := by decide +kernel
theorem dX2_init_112 : decode cX2_init 112 = .ok (.putfield 48, 3) := by decide +kernel
theorem dX2_init_115 : decode cX2_init 115 = .ok (.aload_n 0, 1) := by decide +kernel
theorem dX2_init_116 : decode cX2_init 116 = .ok (.sipush 300, 3) := by decide +kernel
theorem dX2_init_119 : decode cX2_init 119 = .ok (.putfield 52, 3) := by decide +kernel
theorem dX2_init_122 : decode cX2_init 122 = .ok (.aload_n 0, 1) := by decide +kernel
theorem dX2_init_123 : decode cX2_init 123 = .ok (.iconst 0, 1) := by decide +kernel
theorem dX2_init_124 : decode cX2_init 124 = .ok (.putfield 55, 3) := by decide +kernel
theorem dX2_init_127 : decode cX2_init 127 = .ok (.iconst 0, 1) := by decide +kernel
theorem dX2_init_128 : decode cX2_init 128 = .ok (.istore_n 1, 1) := by decide +kernel
theorem dX2_init_129 : decode cX2_init 129 = .ok (.iload_n 1, 1) := by decide +kernel
theorem dX2_init_130 : decode cX2_init 130 = .ok (.bipush 30, 2) := by decide +kernel
theorem dX2_init_132 : decode cX2_init 132 = .ok (.if_icmp .ge 17, 3) := by decide +kernel
theorem dX2_init_135 : decode cX2_init 135 = .ok (.aload_n 0, 1) := by decide +kernel
theorem dX2_init_136 : decode cX2_init 136 = .ok (.getfield 30, 3) := by decide +kernel
theorem dX2_init_139 : decode cX2_init 139 = .ok (.iload_n 1, 1) := by decide +kernel
theorem dX2_init_140 : decode cX2_init 140 = .ok (.bipush (-6), 2) := by decide +kernel
theorem dX2_init_142 : decode cX2_init 142 = .ok (.iastore, 1) := by decide +kernel
theorem dX2_init_143 : decode cX2_init 143 = .ok (.iinc 1 1, 3) := by decide +kernel
theorem dX2_init_146 : decode cX2_init 146 = .ok (.goto (-17), 3) := by decide +kernel
theorem dX2_init_149 : decode cX2_init 149 = .ok (.iconst 0, 1) := by decide +kernel
theorem dX2_init_150 : decode cX2_init 150 = .ok (.istore_n 1, 1) := by decide +kernel
theorem dX2_init_151 : decode cX2_init 151 = .ok (.iload_n 1, 1) := by decide +kernel
theorem dX2_init_152 : decode cX2_init 152 = .ok (.iconst 3, 1) := by decide +kernel
theorem dX2_init_153 : decode cX2_init 153 = .ok (.if_icmp .ge 16, 3) := by decide +kernel
theorem dX2_init_156 : decode cX2_init 156 = .ok (.aload_n 0, 1) := by decide +kernel
theorem dX2_init_157 : decode cX2_init 157 = .ok (.getfield 33, 3) := by decide +kernel
theorem dX2_init_160 : decode cX2_init 160 = .ok (.iload_n 1, 1) := by decide +kernel
theorem dX2_init_161 : decode cX2_init 161 = .ok (.iconst 5, 1) := by decide +kernel
theorem dX2_init_162 : decode cX2_init 162 = .ok (.iastore, 1) := by decide +kernel
theorem dX2_init_163 : decode cX2_init 163 = .ok (.iinc 1 1, 3) := by decide +kernel
theorem dX2_init_166 : decode cX2_init 166 = .ok (.goto (-15), 3) := by decide +kernel
theorem dX2_init_169 : decode cX2_init 169 = .ok (.return_, 1) := by decide +kernel
theorem dX2_takeOver_0 : decode cX2_takeOver 0 = .ok (.aload_n 1, 1) := by decide +kernel
theorem dX2_takeOver_1 : decode cX2_takeOver 1 = .ok (.getfield 11, 3) := by decide +kernel
theorem dX2_takeOver_4 : decode cX2_takeOver 4 = .ok (.iconst 0, 1) := by decide +kernel
theorem dX2_takeOver_5 : decode cX2_takeOver 5 = .ok (.aload_n 0, 1) := by decide +kernel
theorem dX2_takeOver_6 : decode cX2_takeOver 6 = .ok (.getfield 11, 3) := by decide +kernel
theorem dX2_takeOver_9 : decode cX2_takeOver 9 = .ok (.iconst 0, 1) := by decide +kernel
theorem dX2_takeOver_10 : decode cX2_takeOver 10 = .ok (.aload_n 0, 1) := by decide +kernel
theorem dX2_takeOver_11 : decode cX2_takeOver 11 = .ok (.getfield 11, 3) := by decide +kernel
theorem dX2_takeOver_14 : decode cX2_takeOver 14 = .ok (.arraylength, 1) := by decide +kernel
theorem dX2_takeOver_15 : decode cX2_takeOver 15 = .ok (.invokestatic 58, 3) := by decide +kernel
theorem dX2_takeOver_18 : decode cX2_takeOver 18 = .ok (.aload_n 1, 1) := by decide +kernel
theorem dX2_takeOver_19 : decode cX2_takeOver 19 = .ok (.getfield 15, 3) := by decide +kernel
theorem dX2_takeOver_22 : decode cX2_takeOver 22 = .ok (.iconst 0, 1) := by decide +kernel
theorem dX2_takeOver_23 : decode cX2_takeOver 23 = .ok (.aload_n 0, 1) := by decide +kernel
theorem dX2_takeOver_24 : decode cX2_takeOver 24 = .ok (.getfield 15, 3) := by decide +kernel
theorem dX2_takeOver_27 : decode cX2_takeOver 27 = .ok (.iconst 0, 1) := by decide +kernel
theorem dX2_takeOver_28 : decode cX2_takeOver 28 = .ok (.bipush 30, 2) := by decide +kernel
theorem dX2_takeOver_30 : decode cX2_takeOver 30 = .ok (.invokestatic 58, 3) := by decide +kernel
theorem dX2_takeOver_33 : decode cX2_takeOver 33 = .ok (.aload_n 1, 1) := by decide +kernel
theorem dX2_takeOver_34 : decode cX2_takeOver 34 = .ok (.getfield 18, 3) := by decide +kernel
theorem dX2_takeOver_37 : decode cX2_takeOver 37 = .ok (.iconst 0, 1) := by decide +kernel
theorem dX2_takeOver_38 : decode cX2_takeOver 38 = .ok (.aload_n 0, 1) := by decide +kernel
theorem dX2_takeOver_39 : decode cX2_takeOver 39 = .ok (.getfield 18, 3) := by decide +kernel
theorem dX2_takeOver_42 : decode cX2_takeOver 42 = .ok (.iconst 0, 1) := by decide +kernel
theorem dX2_takeOver_43 : decode cX2_takeOver 43 = .ok (.bipush 30, 2) := by decide +kernel
theorem dX2_takeOver_45 : decode cX2_takeOver 45 = .ok (.invokestatic 58, 3) := by decide +kernel
theorem dX2_takeOver_48 : decode cX2_takeOver 48 = .ok (.aload_n 1, 1) := by decide +kernel
theorem dX2_takeOver_49 : decode cX2_takeOver 49 = .ok (.getfield 21, 3) := by decide +kernel
theorem dX2_takeOver_52 : decode cX2_takeOver 52 = .ok (.iconst 0, 1) := by decide +kernel
theorem dX2_takeOver_53 : decode cX2_takeOver 53 = .ok (.aload_n 0, 1) := by decide +kernel
theorem dX2_takeOver_54 : decode cX2_takeOver 54 = .ok (.getfield 21, 3) := by decide +kernel
theorem dX2_takeOver_57 : decode cX2_takeOver 57 = .ok (.iconst 0, 1) := by decide +kernel
theorem dX2_takeOver_58 : decode cX2_takeOver 58 = .ok (.bipush 30, 2) := by decide +kernel
theorem dX2_takeOver_60 : decode cX2_takeOver 60 = .ok (.invokestatic 58, 3) := by decide +kernel
theorem dX2_takeOver_63 : decode cX2_takeOver 63 = .ok (.aload_n 1, 1) := by decide +kernel
theorem dX2_takeOver_64 : decode cX2_takeOver 64 = .ok (.getfield 24, 3) := by decide +kernel
theorem dX2_takeOver_67 : decode cX2_takeOver 67 = .ok (.iconst 0, 1) := by decide +kernel
theorem dX2_takeOver_68 : decode cX2_takeOver 68 = .ok (.aload_n 0, 1) := by decide +kernel
theorem dX2_takeOver_69 : decode cX2_takeOver 69 = .ok (.getfield 24, 3) := by decide +kernel
theorem dX2_takeOver_72 : decode cX2_takeOver 72 = .ok (.iconst 0, 1) := by decide +kernel
theorem dX2_takeOver_73 : decode cX2_takeOver 73 = .ok (.bipush 30, 2) := by decide +kernel
theorem dX2_takeOver_75 : decode cX2_takeOver 75 = .ok (.invokestatic 58, 3) := by decide +kernel
theorem dX2_takeOver_78 : decode cX2_takeOver 78 = .ok (.aload_n 1, 1) := by decide +kernel
theorem dX2_takeOver_79 : decode cX2_takeOver 79 = .ok (.getfield 27, 3) := by decide +kernel
theorem dX2_takeOver_82 : decode cX2_takeOver 82 = .ok (.iconst 0, 1) := by decide +kernel
theorem dX2_takeOver_83 : decode cX2_takeOver 83 = .ok (.aload_n 0, 1) := by decide +kernel
theorem dX2_takeOver_84 : decode cX2_takeOver 84 = .ok (.getfield 27, 3) := by decide +kernel
theorem dX2_takeOver_87 : decode cX2_takeOver 87 = .ok (.iconst 0, 1) := by decide +kernel
theorem dX2_takeOver_88 : decode cX2_takeOver 88 = .ok (.bipush 30, 2) := by decide +kernel
theorem dX2_takeOver_90 : decode cX2_takeOver 90 = .ok (.invokestatic 58, 3) := by decide +kernel
theorem dX2_takeOver_93 : decode cX2_takeOver 93 = .ok (.aload_n 1, 1) := by decide +kernel
theorem dX2_takeOver_94 : decode cX2_takeOver 94 = .ok (.getfield 30, 3) := by decide +kernel
theorem dX2_takeOver_97 : decode cX2_takeOver 97 = .ok (.iconst 0, 1) := by decide +kernel
theorem dX2_takeOver_98 : decode cX2_takeOver 98 = .ok (.aload_n 0, 1) := by decide +kernel
theorem dX2_takeOver_99 : decode cX2_takeOver 99 = .ok (.getfield 30, 3) := by decide +kernel
theorem dX2_takeOver_102 : decode cX2_takeOver 102 = .ok (.iconst 0, 1) := by decide +kernel
theorem dX2_takeOver_103 : decode cX2_takeOver 103 = .ok (.bipush 30, 2) := by decide +kernel
theorem dX2_takeOver_105 : decode cX2_takeOver 105 = .ok (.invokestatic 58, 3) := by decide +kernel
theorem dX2_takeOver_108 : decode cX2_takeOver 108 = .ok (.aload_n 1, 1) := by decide +kernel
theorem dX2_takeOver_109 : decode cX2_takeOver 109 = .ok (.getfield 33, 3) := by decide +kernel
theorem dX2_takeOver_112 : decode cX2_takeOver 112 = .ok (.iconst 0, 1) := by decide +kernel
theorem dX2_takeOver_113 : decode cX2_takeOver 113 = .ok (.aload_n 0, 1) := by decide +kernel
theorem dX2_takeOver_114 : decode cX2_takeOver 114 = .ok (.getfield 33, 3) := by decide +kernel
theorem dX2_takeOver_117 : decode cX2_takeOver 117 = .ok (.iconst 0, 1) := by decide +kernel
theorem dX2_takeOver_118 : decode cX2_takeOver 118 = .ok (.iconst 3, 1) := by decide +kernel
theorem dX2_takeOver_119 : decode cX2_takeOver 119 = .ok (.invokestatic 58, 3) := by decide +kernel
theorem dX2_takeOver_122 : decode cX2_takeOver 122 = .ok (.aload_n 1, 1) := by decide +kernel
theorem dX2_takeOver_123 : decode cX2_takeOver 123 = .ok (.getfield 36, 3) := by decide +kernel
theorem dX2_takeOver_126 : decode cX2_takeOver 126 = .ok (.iconst 0, 1) := by decide +kernel
theorem dX2_takeOver_127 : decode cX2_takeOver 127 = .ok (.aload_n 0, 1) := by decide +kernel
theorem dX2_takeOver_128 : decode cX2_takeOver 128 = .ok (.getfield 36, 3) := by decide +kernel
theorem dX2_takeOver_131 : decode cX2_takeOver 131 = .ok (.iconst 0, 1) := by decide +kernel
theorem dX2_takeOver_132 : decode cX2_takeOver 132 = .ok (.iconst 3, 1) := by decide +kernel
theorem dX2_takeOver_133 : decode cX2_takeOver 133 = .ok (.invokestatic 58, 3) := by decide +kernel
theorem dX2_takeOver_136 : decode cX2_takeOver 136 = .ok (.aload_n 1, 1) := by decide +kernel
theorem dX2_takeOver_137 : decode cX2_takeOver 137 = .ok (.getfield 39, 3) := by decide +kernel
theorem dX2_takeOver_140 : decode cX2_takeOver 140 = .ok (.iconst 0, 1) := by decide +kernel
theorem dX2_takeOver_141 : decode cX2_takeOver 141 = .ok (.aload_n 0, 1) := by decide +kernel
theorem dX2_takeOver_142 : decode cX2_takeOver 142 = .ok (.getfield 39, 3) := by decide +kernel
theorem dX2_takeOver_145 : decode cX2_takeOver 145 = .ok (.iconst 0, 1) := by decide +kernel
theorem dX2_takeOver_146 : decode cX2_takeOver 146 = .ok (.iconst 3, 1) := by decide +kernel
theorem dX2_takeOver_147 : decode cX2_takeOver 147 = .ok (.invokestatic 58, 3) := by decide +kernel
theorem dX2_takeOver_150 : decode cX2_takeOver 150 = .ok (.aload_n 1, 1) := by decide +kernel
theorem dX2_takeOver_151 : decode cX2_takeOver 151 = .ok (.getfield 42, 3) := by decide +kernel
theorem dX2_takeOver_154 : decode cX2_takeOver 154 = .ok (.iconst 0, 1) := by decide +kernel
theorem dX2_takeOver_155 : decode cX2_takeOver 155 = .ok (.aload_n 0, 1) := by decide +kernel
theorem dX2_takeOver_156 : decode cX2_takeOver 156 = .ok (.getfield 42, 3) := by decide +kernel
theorem dX2_takeOver_159 : decode cX2_takeOver 159 = .ok (.iconst 0, 1) := by decide +kernel
theorem dX2_takeOver_160 : decode cX2_takeOver 160 = .ok (.iconst 3, 1) := by decide +kernel
theorem dX2_takeOver_161 : decode cX2_takeOver 161 = .ok (.invokestatic 58, 3) := by decide +kernel
theorem dX2_takeOver_164 : decode cX2_takeOver 164 = .ok (.aload_n 1, 1) := by decide +kernel
theorem dX2_takeOver_165 : decode cX2_takeOver 165 = .ok (.getfield 45, 3) := by decide +kernel
theorem dX2_takeOver_168 : decode cX2_takeOver 168 = .ok (.iconst 0, 1) := by decide +kernel
theorem dX2_takeOver_169 : decode cX2_takeOver 169 = .ok (.aload_n 0, 1) := by decide +kernel
theorem dX2_takeOver_170 : decode cX2_takeOver 170 = .ok (.getfield 45, 3) := by decide +kernel
theorem dX2_takeOver_173 : decode cX2_takeOver 173 = .ok (.iconst 0, 1) := by decide +kernel
theorem dX2_takeOver_174 : decode cX2_takeOver 174 = .ok (.aload_n 0, 1) := by decide +kernel
theorem dX2_takeOver_175 : decode cX2_takeOver 175 = .ok (.getfield 45, 3) := by decide +kernel
theorem dX2_takeOver_178 : decode cX2_takeOver 178 = .ok (.arraylength, 1) := by decide +kernel
theorem dX2_takeOver_179 : decode cX2_takeOver 179 = .ok (.invokestatic 58, 3) := by decide +kernel
theorem dX2_takeOver_182 : decode cX2_takeOver 182 = .ok (.aload_n 0, 1) := by decide +kernel
theorem dX2_takeOver_183 : decode cX2_takeOver 183 = .ok (.aload_n 1, 1) := by decide +kernel
theorem dX2_takeOver_184 : decode cX2_takeOver 184 = .ok (.getfield 48, 3) := by decide +kernel
theorem dX2_takeOver_187 : decode cX2_takeOver 187 = .ok (.putfield 48, 3) := by decide +kernel
theorem dX2_takeOver_190 : decode cX2_takeOver 190 = .ok (.aload_n 0, 1) := by decide +kernel
theorem dX2_takeOver_191 : decode cX2_takeOver 191 = .ok (.aload_n 1, 1) := by decide +kernel
theorem dX2_takeOver_192 : decode cX2_takeOver 192 = .ok (.getfield 52, 3) := by decide +kernel
theorem dX2_takeOver_195 : decode cX2_takeOver 195 = .ok (.putfield 52, 3) := by decide +kernel
theorem dX2_takeOver_198 : decode cX2_takeOver 198 = .ok (.aload_n 0, 1) := by decide +kernel
theorem dX2_takeOver_199 : decode cX2_takeOver 199 = .ok (.aload_n 1, 1) := by decide +kernel
theorem dX2_takeOver_200 : decode cX2_takeOver 200 = .ok (.getfield 55, 3) := by decide +kernel
theorem dX2_takeOver_203 : decode cX2_takeOver 203 = .ok (.putfield 55, 3) := by decide +kernel
theorem dX2_takeOver_206 : decode cX2_takeOver 206 = .ok (.return_, 1) := by decide +kernel
theorem dX2_changeSetting_0 : decode cX2_changeSetting 0 = .ok (.iload_n 1, 1) := by decide +kernel
theorem dX2_changeSetting_1 : decode cX2_changeSetting 1 = .ok (.ifCond .lt 12, 3) := by decide +kernel
theorem dX2_changeSetting_4 : decode cX2_changeSetting 4 = .ok (.iload_n 1, 1) := by decide +kernel
theorem dX2_changeSetting_5 : decode cX2_changeSetting 5 = .ok (.aload_n 0, 1) := by decide +kernel
theorem dX2_changeSetting_6 : decode cX2_changeSetting 6 = .ok (.getfield 11, 3) := by decide +kernel
theorem dX2_changeSetting_9 : decode cX2_changeSetting 9 = .ok (.arraylength, 1) := by decide +kernel
theorem dX2_changeSetting_10 : decode cX2_changeSetting 10 = .ok (.if_icmp .lt 6, 3) := by decide +kernel
theorem dX2_changeSetting_13 : decode cX2_changeSetting 13 = .ok (.bipush (-2), 2) := by decide +kernel
theorem dX2_changeSetting_15 : decode cX2_changeSetting 15 = .ok (.ireturn, 1) := by decide +kernel
theorem dX2_changeSetting_16 : decode cX2_changeSetting 16 = .ok (.iload_n 2, 1) := by decide +kernel
theorem dX2_changeSetting_17 : decode cX2_changeSetting 17 = .ok (.getstatic 64, 3) := by decide +kernel
theorem dX2_changeSetting_20 : decode cX2_changeSetting 20 = .ok (.iload_n 1, 1) := by decide +kernel
theorem dX2_changeSetting_21 : decode cX2_changeSetting 21 = .ok (.iaload, 1) := by decide +kernel
theorem dX2_changeSetting_22 : decode cX2_changeSetting 22 = .ok (.if_icmp .lt 12, 3) := by decide +kernel
theorem dX2_changeSetting_25 : decode cX2_changeSetting 25 = .ok (.iload_n 2, 1) := by decide +kernel
theorem dX2_changeSetting_26 : decode cX2_changeSetting 26 = .ok (.getstatic 67, 3) := by decide +kernel
theorem dX2_changeSetting_29 : decode cX2_changeSetting 29 = .ok (.iload_n 1, 1) := by decide +kernel
theorem dX2_changeSetting_30 : decode cX2_changeSetting 30 = .ok (.iaload, 1) := by decide +kernel
theorem dX2_changeSetting_31 : decode cX2_changeSetting 31 = .ok (.if_icmp .le 6, 3) := by decide +kernel
theorem dX2_changeSetting_34 : decode cX2_changeSetting 34 = .ok (.bipush (-2), 2) := by decide +kernel
theorem dX2_changeSetting_36 : decode cX2_changeSetting 36 = .ok (.ireturn, 1) := by decide +kernel
theorem dX2_changeSetting_37 : decode cX2_changeSetting 37 = .ok (.aload_n 0, 1) := by decide +kernel
theorem dX2_changeSetting_38 : decode cX2_changeSetting 38 = .ok (.getfield 11, 3) := by decide +kernel
theorem dX2_changeSetting_41 : decode cX2_changeSetting 41 = .ok (.iload_n 1, 1) := by decide +kernel
theorem dX2_changeSetting_42 : decode cX2_changeSetting 42 = .ok (.iaload, 1) := by decide +kernel
theorem dX2_changeSetting_43 : decode cX2_changeSetting 43 = .ok (.istore_n 3, 1) := by decide +kernel
theorem dX2_changeSetting_44 : decode cX2_changeSetting 44 = .ok (.aload_n 0, 1) := by decide +kernel
theorem dX2_changeSetting_45 : decode cX2_changeSetting 45 = .ok (.getfield 11, 3) := by decide +kernel
theorem dX2_changeSetting_48 : decode cX2_changeSetting 48 = .ok (.iload_n 1, 1) := by decide +kernel
theorem dX2_changeSetting_49 : decode cX2_changeSetting 49 = .ok (.iload_n 2, 1) := by decide +kernel
theorem dX2_changeSetting_50 : decode cX2_changeSetting 50 = .ok (.iastore, 1) := by decide +kernel
theorem dX2_changeSetting_51 : decode cX2_changeSetting 51 = .ok (.iload_n 3, 1) := by decide +kernel
theorem dX2_changeSetting_52 : decode cX2_changeSetting 52 = .ok (.ireturn, 1) := by decide +kernel
theorem dX2_putMark_0 : decode cX2_putMark 0 = .ok (.iload_n 1, 1) := by decide +kernel
theorem dX2_putMark_1 : decode cX2_putMark 1 = .ok (.invokestatic 70, 3) := by decide +kernel
theorem dX2_putMark_4 : decode cX2_putMark 4 = .ok (.ifCond .eq 10, 3) := by decide +kernel
theorem dX2_putMark_7 : decode cX2_putMark 7 = .ok (.iload_n 2, 1) := by decide +kernel
theorem dX2_putMark_8 : decode cX2_putMark 8 = .ok (.invokestatic 74, 3) := by decide +kernel
theorem dX2_putMark_11 : decode cX2_putMark 11 = .ok (.ifCond .ne 5, 3) := by decide +kernel
theorem dX2_putMark_14 : decode cX2_putMark 14 = .ok (.iconst (-1), 1) := by decide +kernel
theorem dX2_putMark_15 : decode cX2_putMark 15 = .ok (.ireturn, 1) := by decide +kernel
theorem dX2_putMark_16 : decode cX2_putMark 16 = .ok (.iload_n 3, 1) := by decide +kernel
theorem dX2_putMark_17 : decode cX2_putMark 17 = .ok (.ifCond .lt 8, 3) := by decide +kernel
theorem dX2_putMark_20 : decode cX2_putMark 20 = .ok (.iload_n 3, 1) := by decide +kernel
theorem dX2_putMark_21 : decode cX2_putMark 21 = .ok (.iconst 2, 1) := by decide +kernel
theorem dX2_putMark_22 : decode cX2_putMark 22 = .ok (.if_icmp .le 6, 3) := by decide +kernel
theorem dX2_putMark_25 : decode cX2_putMark 25 = .ok (.bipush (-2), 2) := by decide +kernel
theorem dX2_putMark_27 : decode cX2_putMark 27 = .ok (.ireturn, 1) := by decide +kernel
theorem dX2_putMark_28 : decode cX2_putMark 28 = .ok (.aload_n 0, 1) := by decide +kernel
theorem dX2_putMark_29 : decode cX2_putMark 29 = .ok (.getfield 15, 3) := by decide +kernel
theorem dX2_putMark_32 : decode cX2_putMark 32 = .ok (.iload_n 2, 1) := by decide +kernel
theorem dX2_putMark_33 : decode cX2_putMark 33 = .ok (.iaload, 1) := by decide +kernel
theorem dX2_putMark_34 : decode cX2_putMark 34 = .ok (.ifCond .eq 6, 3) := by decide +kernel
theorem dX2_putMark_37 : decode cX2_putMark 37 = .ok (.bipush (-5), 2) := by decide +kernel
theorem dX2_putMark_39 : decode cX2_putMark 39 = .ok (.ireturn, 1) := by decide +kernel
theorem dX2_putMark_40 : decode cX2_putMark 40 = .ok (.aload_n 0, 1) := by decide +kernel
theorem dX2_putMark_41 : decode cX2_putMark 41 = .ok (.iload_n 1, 1) := by decide +kernel
theorem dX2_putMark_42 : decode cX2_putMark 42 = .ok (.iload_n 2, 1) := by decide +kernel
theorem dX2_putMark_43 : decode cX2_putMark 43 = .ok (.invokevirtual 77, 3) := by decide +kernel
theorem dX2_putMark_46 : decode cX2_putMark 46 = .ok (.istore 4, 2) := by decide +kernel
theorem dX2_putMark_48 : decode cX2_putMark 48 = .ok (.iload_n 3, 1) := by decide +kernel
theorem dX2_putMark_49 : decode cX2_putMark 49 = .ok (.iconst 2, 1) := by decide +kernel
theorem dX2_putMark_50 : decode cX2_putMark 50 = .ok (.if_icmp .ne 20, 3) := by decide +kernel
theorem dX2_putMark_53 : decode cX2_putMark 53 = .ok (.iload 4, 2) := by decide +kernel
theorem dX2_putMark_55 : decode cX2_putMark 55 = .ok (.iconst 2, 1) := by decide +kernel
theorem dX2_putMark_56 : decode cX2_putMark 56 = .ok (.if_icmp .eq 14, 3) := by decide +kernel
theorem dX2_putMark_59 : decode cX2_putMark 59 = .ok (.aload_n 0, 1) := by decide +kernel
theorem dX2_putMark_60 : decode cX2_putMark 60 = .ok (.iload_n 1, 1) := by decide +kernel
theorem dX2_putMark_61 : decode cX2_putMark 61 = .ok (.invokevirtual 81, 3) := by decide +kernel
theorem dX2_putMark_64 : decode cX2_putMark 64 = .ok (.ifCond .ne 6, 3) := by decide +kernel
theorem dX2_putMark_67 : decode cX2_putMark 67 = .ok (.bipush (-4), 2) := by decide +kernel
theorem dX2_putMark_69 : decode cX2_putMark 69 = .ok (.ireturn, 1) := by decide +kernel
theorem dX2_putMark_70 : decode cX2_putMark 70 = .ok (.aload_n 0, 1) := by decide +kernel
theorem dX2_putMark_71 : decode cX2_putMark 71 = .ok (.getfield 18, 3) := by decide +kernel
theorem dX2_putMark_74 : decode cX2_putMark 74 = .ok (.iload_n 2, 1) := by decide +kernel
theorem dX2_putMark_75 : decode cX2_putMark 75 = .ok (.aload_n 0, 1) := by decide +kernel
theorem dX2_putMark_76 : decode cX2_putMark 76 = .ok (.getfield 18, 3) := by decide +kernel
theorem dX2_putMark_79 : decode cX2_putMark 79 = .ok (.iload_n 2, 1) := by decide +kernel
theorem dX2_putMark_80 : decode cX2_putMark 80 = .ok (.iaload, 1) := by decide +kernel
theorem dX2_putMark_81 : decode cX2_putMark 81 = .ok (.iload_n 1, 1) := by decide +kernel
theorem dX2_putMark_82 : decode cX2_putMark 82 = .ok (.iload_n 3, 1) := by decide +kernel
theorem dX2_putMark_83 : decode cX2_putMark 83 = .ok (.iconst 1, 1) := by decide +kernel
theorem dX2_putMark_84 : decode cX2_putMark 84 = .ok (.if_icmp .ne 7, 3) := by decide +kernel
theorem dX2_putMark_87 : decode cX2_putMark 87 = .ok (.iconst 1, 1) := by decide +kernel
theorem dX2_putMark_88 : decode cX2_putMark 88 = .ok (.goto 4, 3) := by decide +kernel
theorem dX2_putMark_91 : decode cX2_putMark 91 = .ok (.iconst 0, 1) := by decide +kernel
theorem dX2_putMark_92 : decode cX2_putMark 92 = .ok (.invokestatic 85, 3) := by decide +kernel
theorem dX2_putMark_95 : decode cX2_putMark 95 = .ok (.iastore, 1) := by decide +kernel
theorem dX2_putMark_96 : decode cX2_putMark 96 = .ok (.aload_n 0, 1) := by decide +kernel
theorem dX2_putMark_97 : decode cX2_putMark 97 = .ok (.getfield 21, 3) := by decide +kernel
theorem dX2_putMark_100 : decode cX2_putMark 100 = .ok (.iload_n 2, 1) := by decide +kernel
theorem dX2_putMark_101 : decode cX2_putMark 101 = .ok (.aload_n 0, 1) := by decide +kernel
theorem dX2_putMark_102 : decode cX2_putMark 102 = .ok (.getfield 21, 3) := by decide +kernel
theorem dX2_putMark_105 : decode cX2_putMark 105 = .ok (.iload_n 2, 1) := by decide +kernel
theorem dX2_putMark_106 : decode cX2_putMark 106 = .ok (.iaload, 1) := by decide +kernel
theorem dX2_putMark_107 : decode cX2_putMark 107 = .ok (.iload_n 1, 1) := by decide +kernel
theorem dX2_putMark_108 : decode cX2_putMark 108 = .ok (.iload_n 3, 1) := by decide +kernel
theorem dX2_putMark_109 : decode cX2_putMark 109 = .ok (.iconst 2, 1) := by decide +kernel
theorem dX2_putMark_110 : decode cX2_putMark 110 = .ok (.if_icmp .ne 7, 3) := by decide +kernel
theorem dX2_putMark_113 : decode cX2_putMark 113 = .ok (.iconst 1, 1) := by decide +kernel
theorem dX2_putMark_114 : decode cX2_putMark 114 = .ok (.goto 4, 3) := by decide +kernel
theorem dX2_putMark_117 : decode cX2_putMark 117 = .ok (.iconst 0, 1) := by decide +kernel
theorem dX2_putMark_118 : decode cX2_putMark 118 = .ok (.invokestatic 85, 3) := by decide +kernel
theorem dX2_putMark_121 : decode cX2_putMark 121 = .ok (.iastore, 1) := by decide +kernel
theorem dX2_putMark_122 : decode cX2_putMark 122 = .ok (.iload 4, 2) := by decide +kernel
theorem dX2_putMark_124 : decode cX2_putMark 124 = .ok (.ireturn, 1) := by decide +kernel
theorem dX2_argueAgainst_0 : decode cX2_argueAgainst 0 = .ok (.iload_n 1, 1) := by decide +kernel
theorem dX2_argueAgainst_1 : decode cX2_argueAgainst 1 = .ok (.invokestatic 70, 3) := by decide +kernel
theorem dX2_argueAgainst_4 : decode cX2_argueAgainst 4 = .ok (.ifCond .eq 17, 3) := by decide +kernel
theorem dX2_argueAgainst_7 : decode cX2_argueAgainst 7 = .ok (.iload_n 2, 1) := by decide +kernel
theorem dX2_argueAgainst_8 : decode cX2_argueAgainst 8 = .ok (.invokestatic 70, 3) := by decide +kernel
theorem dX2_argueAgainst_11 : decode cX2_argueAgainst 11 = .ok (.ifCond .eq 10, 3) := by decide +kernel
theorem dX2_argueAgainst_14 : decode cX2_argueAgainst 14 = .ok (.iload_n 3, 1) := by decide +kernel
theorem dX2_argueAgainst_15 : decode cX2_argueAgainst 15 = .ok (.invokestatic 74, 3) := by decide +kernel
theorem dX2_argueAgainst_18 : decode cX2_argueAgainst 18 = .ok (.ifCond .ne 5, 3) := by decide +kernel
theorem dX2_argueAgainst_21 : decode cX2_argueAgainst 21 = .ok (.iconst (-1), 1) := by decide +kernel
theorem dX2_argueAgainst_22 : decode cX2_argueAgainst 22 = .ok (.ireturn, 1) := by decide +kernel
theorem dX2_argueAgainst_23 : decode cX2_argueAgainst 23 = .ok (.iload_n 1, 1) := by decide +kernel
theorem dX2_argueAgainst_24 : decode cX2_argueAgainst 24 = .ok (.iload_n 2, 1) := by decide +kernel
theorem dX2_argueAgainst_25 : decode cX2_argueAgainst 25 = .ok (.if_icmp .ne 6, 3) := by decide +kernel
theorem dX2_argueAgainst_28 : decode cX2_argueAgainst 28 = .ok (.bipush (-2), 2) := by decide +kernel
theorem dX2_argueAgainst_30 : decode cX2_argueAgainst 30 = .ok (.ireturn, 1) := by decide +kernel
theorem dX2_argueAgainst_31 : decode cX2_argueAgainst 31 = .ok (.aload_n 0, 1) := by decide +kernel
theorem dX2_argueAgainst_32 : decode cX2_argueAgainst 32 = .ok (.getfield 11, 3) := by decide +kernel
theorem dX2_argueAgainst_35 : decode cX2_argueAgainst 35 = .ok (.iconst 2, 1) := by decide +kernel
theorem dX2_argueAgainst_36 : decode cX2_argueAgainst 36 = .ok (.iaload, 1) := by decide +kernel
theorem dX2_argueAgainst_37 : decode cX2_argueAgainst 37 = .ok (.istore 4, 2) := by decide +kernel
theorem dX2_argueAgainst_39 : decode cX2_argueAgainst 39 = .ok (.aload_n 0, 1) := by decide +kernel
theorem dX2_argueAgainst_40 : decode cX2_argueAgainst 40 = .ok (.iload_n 2, 1) := by decide +kernel
theorem dX2_argueAgainst_41 : decode cX2_argueAgainst 41 = .ok (.iload_n 3, 1) := by decide +kernel
theorem dX2_argueAgainst_42 : decode cX2_argueAgainst 42 = .ok (.invokevirtual 77, 3) := by decide +kernel
theorem dX2_argueAgainst_45 : decode cX2_argueAgainst 45 = .ok (.iconst 2, 1) := by decide +kernel
theorem dX2_argueAgainst_46 : decode cX2_argueAgainst 46 = .ok (.if_icmp .ne 14, 3) := by decide +kernel
theorem dX2_argueAgainst_49 : decode cX2_argueAgainst 49 = .ok (.aload_n 0, 1) := by decide +kernel
theorem dX2_argueAgainst_50 : decode cX2_argueAgainst 50 = .ok (.getfield 33, 3) := by decide +kernel
theorem dX2_argueAgainst_53 : decode cX2_argueAgainst 53 = .ok (.iload_n 1, 1) := by decide +kernel
theorem dX2_argueAgainst_54 : decode cX2_argueAgainst 54 = .ok (.iaload, 1) := by decide +kernel
theorem dX2_argueAgainst_55 : decode cX2_argueAgainst 55 = .ok (.iload 4, 2) := by decide +kernel
theorem dX2_argueAgainst_57 : decode cX2_argueAgainst 57 = .ok (.if_icmp .ge 6, 3) := by decide +kernel
theorem dX2_argueAgainst_60 : decode cX2_argueAgainst 60 = .ok (.bipush (-5), 2) := by decide +kernel
theorem dX2_argueAgainst_62 : decode cX2_argueAgainst 62 = .ok (.ireturn, 1) := by decide +kernel
theorem dX2_argueAgainst_63 : decode cX2_argueAgainst 63 = .ok (.aload_n 0, 1) := by decide +kernel
theorem dX2_argueAgainst_64 : decode cX2_argueAgainst 64 = .ok (.getfield 33, 3) := by decide +kernel
theorem dX2_argueAgainst_67 : decode cX2_argueAgainst 67 = .ok (.iload_n 1, 1) := by decide +kernel
theorem dX2_argueAgainst_68 : decode cX2_argueAgainst 68 = .ok (.dup2, 1) := by decide +kernel
theorem dX2_argueAgainst_69 : decode cX2_argueAgainst 69 = .ok (.iaload, 1) := by decide +kernel
theorem dX2_argueAgainst_70 : decode cX2_argueAgainst 70 = .ok (.iload 4, 2) := by decide +kernel
theorem dX2_argueAgainst_72 : decode cX2_argueAgainst 72 = .ok (.isub, 1) := by decide +kernel
theorem dX2_argueAgainst_73 : decode cX2_argueAgainst 73 = .ok (.iastore, 1) := by decide +kernel
theorem dX2_argueAgainst_74 : decode cX2_argueAgainst 74 = .ok (.aload_n 0, 1) := by decide +kernel
theorem dX2_argueAgainst_75 : decode cX2_argueAgainst 75 = .ok (.getfield 36, 3) := by decide +kernel
theorem dX2_argueAgainst_78 : decode cX2_argueAgainst 78 = .ok (.iload_n 1, 1) := by decide +kernel
theorem dX2_argueAgainst_79 : decode cX2_argueAgainst 79 = .ok (.dup2, 1) := by decide +kernel
theorem dX2_argueAgainst_80 : decode cX2_argueAgainst 80 = .ok (.iaload, 1) := by decide +kernel
theorem dX2_argueAgainst_81 : decode cX2_argueAgainst 81 = .ok (.iconst 1, 1) := by decide +kernel
theorem dX2_argueAgainst_82 : decode cX2_argueAgainst 82 = .ok (.iadd, 1) := by decide +kernel
theorem dX2_argueAgainst_83 : decode cX2_argueAgainst 83 = .ok (.iastore, 1) := by decide +kernel
theorem dX2_argueAgainst_84 : decode cX2_argueAgainst 84 = .ok (.aload_n 0, 1) := by decide +kernel
theorem dX2_argueAgainst_85 : decode cX2_argueAgainst 85 = .ok (.getfield 33, 3) := by decide +kernel
theorem dX2_argueAgainst_88 : decode cX2_argueAgainst 88 = .ok (.iload_n 2, 1) := by decide +kernel
theorem dX2_argueAgainst_89 : decode cX2_argueAgainst 89 = .ok (.iaload, 1) := by decide +kernel
theorem dX2_argueAgainst_90 : decode cX2_argueAgainst 90 = .ok (.iload 4, 2) := by decide +kernel
theorem dX2_argueAgainst_92 : decode cX2_argueAgainst 92 = .ok (.if_icmp .lt 16, 3) := by decide +kernel
theorem dX2_argueAgainst_95 : decode cX2_argueAgainst 95 = .ok (.aload_n 0, 1) := by decide +kernel
theorem dX2_argueAgainst_96 : decode cX2_argueAgainst 96 = .ok (.getfield 33, 3) := by decide +kernel
theorem dX2_argueAgainst_99 : decode cX2_argueAgainst 99 = .ok (.iload_n 2, 1) := by decide +kernel
theorem dX2_argueAgainst_100 : decode cX2_argueAgainst 100 = .ok (.dup2, 1) := by decide +kernel
theorem dX2_argueAgainst_101 : decode cX2_argueAgainst 101 = .ok (.iaload, 1) := by decide +kernel
theorem dX2_argueAgainst_102 : decode cX2_argueAgainst 102 = .ok (.iload 4, 2) := by decide +kernel
theorem dX2_argueAgainst_104 : decode cX2_argueAgainst 104 = .ok (.isub, 1) := by decide +kernel
theorem dX2_argueAgainst_105 : decode cX2_argueAgainst 105 = .ok (.iastore, 1) := by decide +kernel
theorem dX2_argueAgainst_106 : decode cX2_argueAgainst 106 = .ok (.iconst 0, 1) := by decide +kernel
theorem dX2_argueAgainst_107 : decode cX2_argueAgainst 107 = .ok (.ireturn, 1) := by decide +kernel
theorem dX2_argueAgainst_108 : decode cX2_argueAgainst 108 = .ok (.aload_n 0, 1) := by decide +kernel
theorem dX2_argueAgainst_109 : decode cX2_argueAgainst 109 = .ok (.getfield 21, 3) := by decide +kernel
theorem dX2_argueAgainst_112 : decode cX2_argueAgainst 112 = .ok (.iload_n 3, 1) := by decide +kernel
theorem dX2_argueAgainst_113 : decode cX2_argueAgainst 113 = .ok (.aload_n 0, 1) := by decide +kernel
theorem dX2_argueAgainst_114 : decode cX2_argueAgainst 114 = .ok (.getfield 21, 3) := by decide +kernel
theorem dX2_argueAgainst_117 : decode cX2_argueAgainst 117 = .ok (.iload_n 3, 1) := by decide +kernel
theorem dX2_argueAgainst_118 : decode cX2_argueAgainst 118 = .ok (.iaload, 1) := by decide +kernel
theorem dX2_argueAgainst_119 : decode cX2_argueAgainst 119 = .ok (.iload_n 2, 1) := by decide +kernel
theorem dX2_argueAgainst_120 : decode cX2_argueAgainst 120 = .ok (.iconst 0, 1) := by decide +kernel
theorem dX2_argueAgainst_121 : decode cX2_argueAgainst 121 = .ok (.invokestatic 85, 3) := by decide +kernel
theorem dX2_argueAgainst_124 : decode cX2_argueAgainst 124 = .ok (.iastore, 1) := by decide +kernel
theorem dX2_argueAgainst_125 : decode cX2_argueAgainst 125 = .ok (.aload_n 0, 1) := by decide +kernel
theorem dX2_argueAgainst_126 : decode cX2_argueAgainst 126 = .ok (.getfield 39, 3) := by decide +kernel
theorem dX2_argueAgainst_129 : decode cX2_argueAgainst 129 = .ok (.iload_n 2, 1) := by decide +kernel
theorem dX2_argueAgainst_130 : decode cX2_argueAgainst 130 = .ok (.dup2, 1) := by decide +kernel
theorem dX2_argueAgainst_131 : decode cX2_argueAgainst 131 = .ok (.iaload, 1) := by decide +kernel
theorem dX2_argueAgainst_132 : decode cX2_argueAgainst 132 = .ok (.iconst 1, 1) := by decide +kernel
theorem dX2_argueAgainst_133 : decode cX2_argueAgainst 133 = .ok (.iadd, 1) := by decide +kernel
theorem dX2_argueAgainst_134 : decode cX2_argueAgainst 134 = .ok (.iastore, 1) := by decide +kernel
theorem dX2_argueAgainst_135 : decode cX2_argueAgainst 135 = .ok (.iconst 1, 1) := by decide +kernel
theorem dX2_argueAgainst_136 : decode cX2_argueAgainst 136 = .ok (.ireturn, 1) := by decide +kernel
theorem dX2_endRound_0 : decode cX2_endRound 0 = .ok (.aload_n 0, 1) := by decide +kernel
theorem dX2_endRound_1 : decode cX2_endRound 1 = .ok (.getfield 48, 3) := by decide +kernel
theorem dX2_endRound_4 : decode cX2_endRound 4 = .ok (.bipush 99, 2) := by decide +kernel
theorem dX2_endRound_6 : decode cX2_endRound 6 = .ok (.if_icmp .lt 6, 3) := by decide +kernel
theorem dX2_endRound_9 : decode cX2_endRound 9 = .ok (.bipush (-5), 2) := by decide +kernel
theorem dX2_endRound_11 : decode cX2_endRound 11 = .ok (.ireturn, 1) := by decide +kernel
theorem dX2_endRound_12 : decode cX2_endRound 12 = .ok (.iconst 0, 1) := by decide +kernel
theorem dX2_endRound_13 : decode cX2_endRound 13 = .ok (.istore_n 1, 1) := by decide +kernel
theorem dX2_endRound_14 : decode cX2_endRound 14 = .ok (.iconst 0, 1) := by decide +kernel
theorem dX2_endRound_15 : decode cX2_endRound 15 = .ok (.istore_n 2, 1) := by decide +kernel
theorem dX2_endRound_16 : decode cX2_endRound 16 = .ok (.iload_n 2, 1) := by decide +kernel
theorem dX2_endRound_17 : decode cX2_endRound 17 = .ok (.bipush 30, 2) := by decide +kernel
theorem dX2_endRound_19 : decode cX2_endRound 19 = .ok (.if_icmp .ge 30, 3) := by decide +kernel
theorem dX2_endRound_22 : decode cX2_endRound 22 = .ok (.aload_n 0, 1) := by decide +kernel
theorem dX2_endRound_23 : decode cX2_endRound 23 = .ok (.getfield 15, 3) := by decide +kernel
theorem dX2_endRound_26 : decode cX2_endRound 26 = .ok (.iload_n 2, 1) := by decide +kernel
theorem dX2_endRound_27 : decode cX2_endRound 27 = .ok (.iaload, 1) := by decide +kernel
theorem dX2_endRound_28 : decode cX2_endRound 28 = .ok (.ifCond .ne 15, 3) := by decide +kernel
theorem dX2_endRound_31 : decode cX2_endRound 31 = .ok (.aload_n 0, 1) := by decide +kernel
theorem dX2_endRound_32 : decode cX2_endRound 32 = .ok (.iload_n 2, 1) := by decide +kernel
theorem dX2_endRound_33 : decode cX2_endRound 33 = .ok (.invokevirtual 89, 3) := by decide +kernel
theorem dX2_endRound_36 : decode cX2_endRound 36 = .ok (.iconst 1, 1) := by decide +kernel
theorem dX2_endRound_37 : decode cX2_endRound 37 = .ok (.if_icmp .ne 6, 3) := by decide +kernel
theorem dX2_endRound_40 : decode cX2_endRound 40 = .ok (.iinc 1 1, 3) := by decide +kernel
theorem dX2_endRound_43 : decode cX2_endRound 43 = .ok (.iinc 2 1, 3) := by decide +kernel
theorem dX2_endRound_46 : decode cX2_endRound 46 = .ok (.goto (-30), 3) := by decide +kernel
theorem dX2_endRound_49 : decode cX2_endRound 49 = .ok (.iconst 0, 1) := by decide +kernel
theorem dX2_endRound_50 : decode cX2_endRound 50 = .ok (.istore_n 2, 1) := by decide +kernel
theorem dX2_endRound_51 : decode cX2_endRound 51 = .ok (.iload_n 2, 1) := by decide +kernel
theorem dX2_endRound_52 : decode cX2_endRound 52 = .ok (.iconst 3, 1) := by decide +kernel
theorem dX2_endRound_53 : decode cX2_endRound 53 = .ok (.if_icmp .ge 28, 3) := by decide +kernel
theorem dX2_endRound_56 : decode cX2_endRound 56 = .ok (.aload_n 0, 1) := by decide +kernel
theorem dX2_endRound_57 : decode cX2_endRound 57 = .ok (.getfield 33, 3) := by decide +kernel
theorem dX2_endRound_60 : decode cX2_endRound 60 = .ok (.iload_n 2, 1) := by decide +kernel
theorem dX2_endRound_61 : decode cX2_endRound 61 = .ok (.aload_n 0, 1) := by decide +kernel
theorem dX2_endRound_62 : decode cX2_endRound 62 = .ok (.getfield 33, 3) := by decide +kernel
theorem dX2_endRound_65 : decode cX2_endRound 65 = .ok (.iload_n 2, 1) := by decide +kernel
theorem dX2_endRound_66 : decode cX2_endRound 66 = .ok (.iaload, 1) := by decide +kernel
theorem dX2_endRound_67 : decode cX2_endRound 67 = .ok (.iconst 2, 1) := by decide +kernel
theorem dX2_endRound_68 : decode cX2_endRound 68 = .ok (.iadd, 1) := by decide +kernel
theorem dX2_endRound_69 : decode cX2_endRound 69 = .ok (.bipush 20, 2) := by decide +kernel
theorem dX2_endRound_71 : decode cX2_endRound 71 = .ok (.invokestatic 92, 3) := by decide +kernel
theorem dX2_endRound_74 : decode cX2_endRound 74 = .ok (.iastore, 1) := by decide +kernel
theorem dX2_endRound_75 : decode cX2_endRound 75 = .ok (.iinc 2 1, 3) := by decide +kernel
theorem dX2_endRound_78 : decode cX2_endRound 78 = .ok (.goto (-27), 3) := by decide +kernel
theorem dX2_endRound_81 : decode cX2_endRound 81 = .ok (.aload_n 0, 1) := by decide +kernel
theorem dX2_endRound_82 : decode cX2_endRound 82 = .ok (.dup, 1) := by decide +kernel
theorem dX2_endRound_83 : decode cX2_endRound 83 = .ok (.getfield 48, 3) := by decide +kernel
theorem dX2_endRound_86 : decode cX2_endRound 86 = .ok (.iconst 1, 1) := by decide +kernel
theorem dX2_endRound_87 : decode cX2_endRound 87 = .ok (.iadd, 1) := by decide +kernel
theorem dX2_endRound_88 : decode cX2_endRound 88 = .ok (.putfield 48, 3) := by decide +kernel
theorem dX2_endRound_91 : decode cX2_endRound 91 = .ok (.iload_n 1, 1) := by decide +kernel
theorem dX2_endRound_92 : decode cX2_endRound 92 = .ok (.ireturn, 1) := by decide +kernel
theorem dX2_printFrame_0 : decode cX2_printFrame 0 = .ok (.iload_n 1, 1) := by decide +kernel
theorem dX2_printFrame_1 : decode cX2_printFrame 1 = .ok (.invokestatic 74, 3) := by decide +kernel
theorem dX2_printFrame_4 : decode cX2_printFrame 4 = .ok (.ifCond .ne 5, 3) := by decide +kernel
theorem dX2_printFrame_7 : decode cX2_printFrame 7 = .ok (.iconst (-1), 1) := by decide +kernel
theorem dX2_printFrame_8 : decode cX2_printFrame 8 = .ok (.ireturn, 1) := by decide +kernel
theorem dX2_printFrame_9 : decode cX2_printFrame 9 = .ok (.iload_n 2, 1) := by decide +kernel
theorem dX2_printFrame_10 : decode cX2_printFrame 10 = .ok (.iconst 1, 1) := by decide +kernel
theorem dX2_printFrame_11 : decode cX2_printFrame 11 = .ok (.if_icmp .lt 8, 3) := by decide +kernel
theorem dX2_printFrame_14 : decode cX2_printFrame 14 = .ok (.iload_n 2, 1) := by decide +kernel
theorem dX2_printFrame_15 : decode cX2_printFrame 15 = .ok (.iconst 3, 1) := by decide +kernel
theorem dX2_printFrame_16 : decode cX2_printFrame 16 = .ok (.if_icmp .le 6, 3) := by decide +kernel
theorem dX2_printFrame_19 : decode cX2_printFrame 19 = .ok (.bipush (-2), 2) := by decide +kernel
theorem dX2_printFrame_21 : decode cX2_printFrame 21 = .ok (.ireturn, 1) := by decide +kernel
theorem dX2_printFrame_22 : decode cX2_printFrame 22 = .ok (.iload_n 2, 1) := by decide +kernel
theorem dX2_printFrame_23 : decode cX2_printFrame 23 = .ok (.invokestatic 97, 3) := by decide +kernel
theorem dX2_printFrame_26 : decode cX2_printFrame 26 = .ok (.istore_n 3, 1) := by decide +kernel
theorem dX2_printFrame_27 : decode cX2_printFrame 27 = .ok (.aload_n 0, 1) := by decide +kernel
theorem dX2_printFrame_28 : decode cX2_printFrame 28 = .ok (.getfield 15, 3) := by decide +kernel
theorem dX2_printFrame_31 : decode cX2_printFrame 31 = .ok (.iload_n 1, 1) := by decide +kernel
theorem dX2_printFrame_32 : decode cX2_printFrame 32 = .ok (.iaload, 1) := by decide +kernel
theorem dX2_printFrame_33 : decode cX2_printFrame 33 = .ok (.iconst 1, 1) := by decide +kernel
theorem dX2_printFrame_34 : decode cX2_printFrame 34 = .ok (.if_icmp .ne 21, 3) := by decide +kernel
theorem dX2_printFrame_37 : decode cX2_printFrame 37 = .ok (.iload_n 2, 1) := by decide +kernel
theorem dX2_printFrame_38 : decode cX2_printFrame 38 = .ok (.aload_n 0, 1) := by decide +kernel
theorem dX2_printFrame_39 : decode cX2_printFrame 39 = .ok (.getfield 27, 3) := by decide +kernel
theorem dX2_printFrame_42 : decode cX2_printFrame 42 = .ok (.iload_n 1, 1) := by decide +kernel
theorem dX2_printFrame_43 : decode cX2_printFrame 43 = .ok (.iaload, 1) := by decide +kernel
theorem dX2_printFrame_44 : decode cX2_printFrame 44 = .ok (.if_icmp .gt 11, 3) := by decide +kernel
theorem dX2_printFrame_47 : decode cX2_printFrame 47 = .ok (.iload_n 3, 1) := by decide +kernel
theorem dX2_printFrame_48 : decode cX2_printFrame 48 = .ok (.aload_n 0, 1) := by decide +kernel
theorem dX2_printFrame_49 : decode cX2_printFrame 49 = .ok (.getfield 52, 3) := by decide +kernel
theorem dX2_printFrame_52 : decode cX2_printFrame 52 = .ok (.if_icmp .le 6, 3) := by decide +kernel
theorem dX2_printFrame_55 : decode cX2_printFrame 55 = .ok (.bipush (-5), 2) := by decide +kernel
theorem dX2_printFrame_57 : decode cX2_printFrame 57 = .ok (.ireturn, 1) := by decide +kernel
theorem dX2_printFrame_58 : decode cX2_printFrame 58 = .ok (.aload_n 0, 1) := by decide +kernel
theorem dX2_printFrame_59 : decode cX2_printFrame 59 = .ok (.getfield 15, 3) := by decide +kernel
theorem dX2_printFrame_62 : decode cX2_printFrame 62 = .ok (.iload_n 1, 1) := by decide +kernel
theorem dX2_printFrame_63 : decode cX2_printFrame 63 = .ok (.iconst 3, 1) := by decide +kernel
theorem dX2_printFrame_64 : decode cX2_printFrame 64 = .ok (.iastore, 1) := by decide +kernel
theorem dX2_printFrame_65 : decode cX2_printFrame 65 = .ok (.aload_n 0, 1) := by decide +kernel
theorem dX2_printFrame_66 : decode cX2_printFrame 66 = .ok (.getfield 27, 3) := by decide +kernel
theorem dX2_printFrame_69 : decode cX2_printFrame 69 = .ok (.iload_n 1, 1) := by decide +kernel
theorem dX2_printFrame_70 : decode cX2_printFrame 70 = .ok (.iload_n 2, 1) := by decide +kernel
theorem dX2_printFrame_71 : decode cX2_printFrame 71 = .ok (.iastore, 1) := by decide +kernel
theorem dX2_printFrame_72 : decode cX2_printFrame 72 = .ok (.aload_n 0, 1) := by decide +kernel
theorem dX2_printFrame_73 : decode cX2_printFrame 73 = .ok (.getfield 45, 3) := by decide +kernel
theorem dX2_printFrame_76 : decode cX2_printFrame 76 = .ok (.iload_n 2, 1) := by decide +kernel
theorem dX2_printFrame_77 : decode cX2_printFrame 77 = .ok (.dup2, 1) := by decide +kernel
theorem dX2_printFrame_78 : decode cX2_printFrame 78 = .ok (.iaload, 1) := by decide +kernel
theorem dX2_printFrame_79 : decode cX2_printFrame 79 = .ok (.iconst 1, 1) := by decide +kernel
theorem dX2_printFrame_80 : decode cX2_printFrame 80 = .ok (.iadd, 1) := by decide +kernel
theorem dX2_printFrame_81 : decode cX2_printFrame 81 = .ok (.iastore, 1) := by decide +kernel
theorem dX2_printFrame_82 : decode cX2_printFrame 82 = .ok (.aload_n 0, 1) := by decide +kernel
theorem dX2_printFrame_83 : decode cX2_printFrame 83 = .ok (.dup, 1) := by decide +kernel
theorem dX2_printFrame_84 : decode cX2_printFrame 84 = .ok (.getfield 52, 3) := by decide +kernel
theorem dX2_printFrame_87 : decode cX2_printFrame 87 = .ok (.iload_n 3, 1) := by decide +kernel
theorem dX2_printFrame_88 : decode cX2_printFrame 88 = .ok (.isub, 1) := by decide +kernel
theorem dX2_printFrame_89 : decode cX2_printFrame 89 = .ok (.putfield 52, 3) := by decide +kernel
theorem dX2_printFrame_92 : decode cX2_printFrame 92 = .ok (.aload_n 0, 1) := by decide +kernel
theorem dX2_printFrame_93 : decode cX2_printFrame 93 = .ok (.dup, 1) := by decide +kernel
theorem dX2_printFrame_94 : decode cX2_printFrame 94 = .ok (.getfield 55, 3) := by decide +kernel
theorem dX2_printFrame_97 : decode cX2_printFrame 97 = .ok (.iload_n 3, 1) := by decide +kernel
theorem dX2_printFrame_98 : decode cX2_printFrame 98 = .ok (.iadd, 1) := by decide +kernel
theorem dX2_printFrame_99 : decode cX2_printFrame 99 = .ok (.putfield 55, 3) := by decide +kernel
theorem dX2_printFrame_102 : decode cX2_printFrame 102 = .ok (.aload_n 0, 1) := by decide +kernel
theorem dX2_printFrame_103 : decode cX2_printFrame 103 = .ok (.getfield 52, 3) := by decide +kernel
theorem dX2_printFrame_106 : decode cX2_printFrame 106 = .ok (.ireturn, 1) := by decide +kernel
theorem dX2_addPaper_0 : decode cX2_addPaper 0 = .ok (.iload_n 1, 1) := by decide +kernel
theorem dX2_addPaper_1 : decode cX2_addPaper 1 = .ok (.iconst 1, 1) := by decide +kernel
theorem dX2_addPaper_2 : decode cX2_addPaper 2 = .ok (.if_icmp .lt 9, 3) := by decide +kernel
theorem dX2_addPaper_5 : decode cX2_addPaper 5 = .ok (.iload_n 1, 1) := by decide +kernel
theorem dX2_addPaper_6 : decode cX2_addPaper 6 = .ok (.bipush 99, 2) := by decide +kernel
theorem dX2_addPaper_8 : decode cX2_addPaper 8 = .ok (.if_icmp .le 6, 3) := by decide +kernel
theorem dX2_addPaper_11 : decode cX2_addPaper 11 = .ok (.bipush (-2), 2) := by decide +kernel
theorem dX2_addPaper_13 : decode cX2_addPaper 13 = .ok (.ireturn, 1) := by decide +kernel
theorem dX2_addPaper_14 : decode cX2_addPaper 14 = .ok (.aload_n 0, 1) := by decide +kernel
theorem dX2_addPaper_15 : decode cX2_addPaper 15 = .ok (.aload_n 0, 1) := by decide +kernel
theorem dX2_addPaper_16 : decode cX2_addPaper 16 = .ok (.getfield 52, 3) := by decide +kernel
theorem dX2_addPaper_19 : decode cX2_addPaper 19 = .ok (.iload_n 1, 1) := by decide +kernel
theorem dX2_addPaper_20 : decode cX2_addPaper 20 = .ok (.iadd, 1) := by decide +kernel
theorem dX2_addPaper_21 : decode cX2_addPaper 21 = .ok (.sipush 999, 3) := by decide +kernel
theorem dX2_addPaper_24 : decode cX2_addPaper 24 = .ok (.invokestatic 92, 3) := by decide +kernel
theorem dX2_addPaper_27 : decode cX2_addPaper 27 = .ok (.putfield 52, 3) := by decide +kernel
theorem dX2_addPaper_30 : decode cX2_addPaper 30 = .ok (.aload_n 0, 1) := by decide +kernel
theorem dX2_addPaper_31 : decode cX2_addPaper 31 = .ok (.getfield 52, 3) := by decide +kernel
theorem dX2_addPaper_34 : decode cX2_addPaper 34 = .ok (.ireturn, 1) := by decide +kernel
theorem dX2_openAgain_0 : decode cX2_openAgain 0 = .ok (.iload_n 1, 1) := by decide +kernel
theorem dX2_openAgain_1 : decode cX2_openAgain 1 = .ok (.invokestatic 74, 3) := by decide +kernel
theorem dX2_openAgain_4 : decode cX2_openAgain 4 = .ok (.ifCond .ne 5, 3) := by decide +kernel
theorem dX2_openAgain_7 : decode cX2_openAgain 7 = .ok (.iconst (-1), 1) := by decide +kernel
theorem dX2_openAgain_8 : decode cX2_openAgain 8 = .ok (.ireturn, 1) := by decide +kernel
theorem dX2_openAgain_9 : decode cX2_openAgain 9 = .ok (.aload_n 0, 1) := by decide +kernel
theorem dX2_openAgain_10 : decode cX2_openAgain 10 = .ok (.getfield 15, 3) := by decide +kernel
theorem dX2_openAgain_13 : decode cX2_openAgain 13 = .ok (.iload_n 1, 1) := by decide +kernel
theorem dX2_openAgain_14 : decode cX2_openAgain 14 = .ok (.iaload, 1) := by decide +kernel
theorem dX2_openAgain_15 : decode cX2_openAgain 15 = .ok (.istore_n 2, 1) := by decide +kernel
theorem dX2_openAgain_16 : decode cX2_openAgain 16 = .ok (.iload_n 2, 1) := by decide +kernel
theorem dX2_openAgain_17 : decode cX2_openAgain 17 = .ok (.ifCond .eq 8, 3) := by decide +kernel
theorem dX2_openAgain_20 : decode cX2_openAgain 20 = .ok (.iload_n 2, 1) := by decide +kernel
theorem dX2_openAgain_21 : decode cX2_openAgain 21 = .ok (.iconst 3, 1) := by decide +kernel
theorem dX2_openAgain_22 : decode cX2_openAgain 22 = .ok (.if_icmp .ne 6, 3) := by decide +kernel
theorem dX2_openAgain_25 : decode cX2_openAgain 25 = .ok (.bipush (-5), 2) := by decide +kernel
theorem dX2_openAgain_27 : decode cX2_openAgain 27 = .ok (.ireturn, 1) := by decide +kernel
theorem dX2_openAgain_28 : decode cX2_openAgain 28 = .ok (.aload_n 0, 1) := by decide +kernel
theorem dX2_openAgain_29 : decode cX2_openAgain 29 = .ok (.getfield 15, 3) := by decide +kernel
theorem dX2_openAgain_32 : decode cX2_openAgain 32 = .ok (.iload_n 1, 1) := by decide +kernel
theorem dX2_openAgain_33 : decode cX2_openAgain 33 = .ok (.iconst 0, 1) := by decide +kernel
theorem dX2_openAgain_34 : decode cX2_openAgain 34 = .ok (.iastore, 1) := by decide +kernel
theorem dX2_openAgain_35 : decode cX2_openAgain 35 = .ok (.aload_n 0, 1) := by decide +kernel
theorem dX2_openAgain_36 : decode cX2_openAgain 36 = .ok (.getfield 24, 3) := by decide +kernel
theorem dX2_openAgain_39 : decode cX2_openAgain 39 = .ok (.iload_n 1, 1) := by decide +kernel
theorem dX2_openAgain_40 : decode cX2_openAgain 40 = .ok (.iconst 0, 1) := by decide +kernel
theorem dX2_openAgain_41 : decode cX2_openAgain 41 = .ok (.iastore, 1) := by decide +kernel
theorem dX2_openAgain_42 : decode cX2_openAgain 42 = .ok (.aload_n 0, 1) := by decide +kernel
theorem dX2_openAgain_43 : decode cX2_openAgain 43 = .ok (.getfield 27, 3) := by decide +kernel
theorem dX2_openAgain_46 : decode cX2_openAgain 46 = .ok (.iload_n 1, 1) := by decide +kernel
theorem dX2_openAgain_47 : decode cX2_openAgain 47 = .ok (.iconst 0, 1) := by decide +kernel
theorem dX2_openAgain_48 : decode cX2_openAgain 48 = .ok (.iastore, 1) := by decide +kernel
theorem dX2_openAgain_49 : decode cX2_openAgain 49 = .ok (.iload_n 2, 1) := by decide +kernel
theorem dX2_openAgain_50 : decode cX2_openAgain 50 = .ok (.ireturn, 1) := by decide +kernel
theorem dX2_aboutFrame_0 : decode cX2_aboutFrame 0 = .ok (.iload_n 1, 1) := by decide +kernel
theorem dX2_aboutFrame_1 : decode cX2_aboutFrame 1 = .ok (.invokestatic 74, 3) := by decide +kernel
theorem dX2_aboutFrame_4 : decode cX2_aboutFrame 4 = .ok (.ifCond .ne 5, 3) := by decide +kernel
theorem dX2_aboutFrame_7 : decode cX2_aboutFrame 7 = .ok (.iconst (-1), 1) := by decide +kernel
theorem dX2_aboutFrame_8 : decode cX2_aboutFrame 8 = .ok (.ireturn, 1) := by decide +kernel
theorem dX2_aboutFrame_9 : decode cX2_aboutFrame 9 = .ok (.iload_n 2, 1) := by decide +kernel
theorem dX2_aboutFrame_10 : decode cX2_aboutFrame 10 = .ok (.tableswitch 80 0 5 #[38, 45, 52, 59, 66, 73], 38) := by decide +kernel
theorem dX2_aboutFrame_48 : decode cX2_aboutFrame 48 = .ok (.aload_n 0, 1) := by decide +kernel
theorem dX2_aboutFrame_49 : decode cX2_aboutFrame 49 = .ok (.getfield 15, 3) := by decide +kernel
theorem dX2_aboutFrame_52 : decode cX2_aboutFrame 52 = .ok (.iload_n 1, 1) := by decide +kernel
theorem dX2_aboutFrame_53 : decode cX2_aboutFrame 53 = .ok (.iaload, 1) := by decide +kernel
theorem dX2_aboutFrame_54 : decode cX2_aboutFrame 54 = .ok (.ireturn, 1) := by decide +kernel
theorem dX2_aboutFrame_55 : decode cX2_aboutFrame 55 = .ok (.aload_n 0, 1) := by decide +kernel
theorem dX2_aboutFrame_56 : decode cX2_aboutFrame 56 = .ok (.getfield 18, 3) := by decide +kernel
theorem dX2_aboutFrame_59 : decode cX2_aboutFrame 59 = .ok (.iload_n 1, 1) := by decide +kernel
theorem dX2_aboutFrame_60 : decode cX2_aboutFrame 60 = .ok (.iaload, 1) := by decide +kernel
theorem dX2_aboutFrame_61 : decode cX2_aboutFrame 61 = .ok (.ireturn, 1) := by decide +kernel
theorem dX2_aboutFrame_62 : decode cX2_aboutFrame 62 = .ok (.aload_n 0, 1) := by decide +kernel
theorem dX2_aboutFrame_63 : decode cX2_aboutFrame 63 = .ok (.getfield 21, 3) := by decide +kernel
theorem dX2_aboutFrame_66 : decode cX2_aboutFrame 66 = .ok (.iload_n 1, 1) := by decide +kernel
theorem dX2_aboutFrame_67 : decode cX2_aboutFrame 67 = .ok (.iaload, 1) := by decide +kernel
theorem dX2_aboutFrame_68 : decode cX2_aboutFrame 68 = .ok (.ireturn, 1) := by decide +kernel
theorem dX2_aboutFrame_69 : decode cX2_aboutFrame 69 = .ok (.aload_n 0, 1) := by decide +kernel
theorem dX2_aboutFrame_70 : decode cX2_aboutFrame 70 = .ok (.getfield 24, 3) := by decide +kernel
theorem dX2_aboutFrame_73 : decode cX2_aboutFrame 73 = .ok (.iload_n 1, 1) := by decide +kernel
theorem dX2_aboutFrame_74 : decode cX2_aboutFrame 74 = .ok (.iaload, 1) := by decide +kernel
theorem dX2_aboutFrame_75 : decode cX2_aboutFrame 75 = .ok (.ireturn, 1) := by decide +kernel
theorem dX2_aboutFrame_76 : decode cX2_aboutFrame 76 = .ok (.aload_n 0, 1) := by decide +kernel
theorem dX2_aboutFrame_77 : decode cX2_aboutFrame 77 = .ok (.getfield 27, 3) := by decide +kernel
theorem dX2_aboutFrame_80 : decode cX2_aboutFrame 80 = .ok (.iload_n 1, 1) := by decide +kernel
theorem dX2_aboutFrame_81 : decode cX2_aboutFrame 81 = .ok (.iaload, 1) := by decide +kernel
theorem dX2_aboutFrame_82 : decode cX2_aboutFrame 82 = .ok (.ireturn, 1) := by decide +kernel
theorem dX2_aboutFrame_83 : decode cX2_aboutFrame 83 = .ok (.aload_n 0, 1) := by decide +kernel
theorem dX2_aboutFrame_84 : decode cX2_aboutFrame 84 = .ok (.getfield 30, 3) := by decide +kernel
theorem dX2_aboutFrame_87 : decode cX2_aboutFrame 87 = .ok (.iload_n 1, 1) := by decide +kernel
theorem dX2_aboutFrame_88 : decode cX2_aboutFrame 88 = .ok (.iaload, 1) := by decide +kernel
theorem dX2_aboutFrame_89 : decode cX2_aboutFrame 89 = .ok (.ireturn, 1) := by decide +kernel
theorem dX2_aboutFrame_90 : decode cX2_aboutFrame 90 = .ok (.bipush (-2), 2) := by decide +kernel
theorem dX2_aboutFrame_92 : decode cX2_aboutFrame 92 = .ok (.ireturn, 1) := by decide +kernel
theorem dX2_aboutEditor_0 : decode cX2_aboutEditor 0 = .ok (.iload_n 1, 1) := by decide +kernel
theorem dX2_aboutEditor_1 : decode cX2_aboutEditor 1 = .ok (.invokestatic 70, 3) := by decide +kernel
theorem dX2_aboutEditor_4 : decode cX2_aboutEditor 4 = .ok (.ifCond .ne 5, 3) := by decide +kernel
theorem dX2_aboutEditor_7 : decode cX2_aboutEditor 7 = .ok (.iconst (-1), 1) := by decide +kernel
theorem dX2_aboutEditor_8 : decode cX2_aboutEditor 8 = .ok (.ireturn, 1) := by decide +kernel
theorem dX2_aboutEditor_9 : decode cX2_aboutEditor 9 = .ok (.iload_n 2, 1) := by decide +kernel
theorem dX2_aboutEditor_10 : decode cX2_aboutEditor 10 = .ok (.tableswitch 90 0 6 #[42, 49, 56, 63, 69, 76, 83], 42) := by decide +kernel
theorem dX2_aboutEditor_52 : decode cX2_aboutEditor 52 = .ok (.aload_n 0, 1) := by decide +kernel
theorem dX2_aboutEditor_53 : decode cX2_aboutEditor 53 = .ok (.getfield 33, 3) := by decide +kernel
theorem dX2_aboutEditor_56 : decode cX2_aboutEditor 56 = .ok (.iload_n 1, 1) := by decide +kernel
theorem dX2_aboutEditor_57 : decode cX2_aboutEditor 57 = .ok (.iaload, 1) := by decide +kernel
theorem dX2_aboutEditor_58 : decode cX2_aboutEditor 58 = .ok (.ireturn, 1) := by decide +kernel
theorem dX2_aboutEditor_59 : decode cX2_aboutEditor 59 = .ok (.aload_n 0, 1) := by decide +kernel
theorem dX2_aboutEditor_60 : decode cX2_aboutEditor 60 = .ok (.iload_n 1, 1) := by decide +kernel
theorem dX2_aboutEditor_61 : decode cX2_aboutEditor 61 = .ok (.iconst 1, 1) := by decide +kernel
theorem dX2_aboutEditor_62 : decode cX2_aboutEditor 62 = .ok (.invokevirtual 100, 3) := by decide +kernel
theorem dX2_aboutEditor_65 : decode cX2_aboutEditor 65 = .ok (.ireturn, 1) := by decide +kernel
theorem dX2_aboutEditor_66 : decode cX2_aboutEditor 66 = .ok (.aload_n 0, 1) := by decide +kernel
theorem dX2_aboutEditor_67 : decode cX2_aboutEditor 67 = .ok (.iload_n 1, 1) := by decide +kernel
theorem dX2_aboutEditor_68 : decode cX2_aboutEditor 68 = .ok (.iconst 2, 1) := by decide +kernel
theorem dX2_aboutEditor_69 : decode cX2_aboutEditor 69 = .ok (.invokevirtual 100, 3) := by decide +kernel
theorem dX2_aboutEditor_72 : decode cX2_aboutEditor 72 = .ok (.ireturn, 1) := by decide +kernel
theorem dX2_aboutEditor_73 : decode cX2_aboutEditor 73 = .ok (.aload_n 0, 1) := by decide +kernel
theorem dX2_aboutEditor_74 : decode cX2_aboutEditor 74 = .ok (.iload_n 1, 1) := by decide +kernel
theorem dX2_aboutEditor_75 : decode cX2_aboutEditor 75 = .ok (.invokevirtual 81, 3) := by decide +kernel
theorem dX2_aboutEditor_78 : decode cX2_aboutEditor 78 = .ok (.ireturn, 1) := by decide +kernel
theorem dX2_aboutEditor_79 : decode cX2_aboutEditor 79 = .ok (.aload_n 0, 1) := by decide +kernel
theorem dX2_aboutEditor_80 : decode cX2_aboutEditor 80 = .ok (.getfield 36, 3) := by decide +kernel
theorem dX2_aboutEditor_83 : decode cX2_aboutEditor 83 = .ok (.iload_n 1, 1) := by decide +kernel
theorem dX2_aboutEditor_84 : decode cX2_aboutEditor 84 = .ok (.iaload, 1) := by decide +kernel
theorem dX2_aboutEditor_85 : decode cX2_aboutEditor 85 = .ok (.ireturn, 1) := by decide +kernel
theorem dX2_aboutEditor_86 : decode cX2_aboutEditor 86 = .ok (.aload_n 0, 1) := by decide +kernel
theorem dX2_aboutEditor_87 : decode cX2_aboutEditor 87 = .ok (.getfield 39, 3) := by decide +kernel
theorem dX2_aboutEditor_90 : decode cX2_aboutEditor 90 = .ok (.iload_n 1, 1) := by decide +kernel
theorem dX2_aboutEditor_91 : decode cX2_aboutEditor 91 = .ok (.iaload, 1) := by decide +kernel
theorem dX2_aboutEditor_92 : decode cX2_aboutEditor 92 = .ok (.ireturn, 1) := by decide +kernel
theorem dX2_aboutEditor_93 : decode cX2_aboutEditor 93 = .ok (.aload_n 0, 1) := by decide +kernel
theorem dX2_aboutEditor_94 : decode cX2_aboutEditor 94 = .ok (.getfield 42, 3) := by decide +kernel
theorem dX2_aboutEditor_97 : decode cX2_aboutEditor 97 = .ok (.iload_n 1, 1) := by decide +kernel
theorem dX2_aboutEditor_98 : decode cX2_aboutEditor 98 = .ok (.iaload, 1) := by decide +kernel
theorem dX2_aboutEditor_99 : decode cX2_aboutEditor 99 = .ok (.ireturn, 1) := by decide +kernel
theorem dX2_aboutEditor_100 : decode cX2_aboutEditor 100 = .ok (.bipush (-2), 2) := by decide +kernel
theorem dX2_aboutEditor_102 : decode cX2_aboutEditor 102 = .ok (.ireturn, 1) := by decide +kernel
theorem dX2_chosenAt_0 : decode cX2_chosenAt 0 = .ok (.iload_n 1, 1) := by decide +kernel
theorem dX2_chosenAt_1 : decode cX2_chosenAt 1 = .ok (.ifCond .ge 5, 3) := by decide +kernel
theorem dX2_chosenAt_4 : decode cX2_chosenAt 4 = .ok (.iconst (-1), 1) := by decide +kernel
theorem dX2_chosenAt_5 : decode cX2_chosenAt 5 = .ok (.ireturn, 1) := by decide +kernel
theorem dX2_chosenAt_6 : decode cX2_chosenAt 6 = .ok (.iconst 0, 1) := by decide +kernel
theorem dX2_chosenAt_7 : decode cX2_chosenAt 7 = .ok (.istore_n 2, 1) := by decide +kernel
theorem dX2_chosenAt_8 : decode cX2_chosenAt 8 = .ok (.iconst 0, 1) := by decide +kernel
theorem dX2_chosenAt_9 : decode cX2_chosenAt 9 = .ok (.istore_n 3, 1) := by decide +kernel
theorem dX2_chosenAt_10 : decode cX2_chosenAt 10 = .ok (.iload_n 3, 1) := by decide +kernel
theorem dX2_chosenAt_11 : decode cX2_chosenAt 11 = .ok (.aload_n 0, 1) := by decide +kernel
theorem dX2_chosenAt_12 : decode cX2_chosenAt 12 = .ok (.getfield 48, 3) := by decide +kernel
theorem dX2_chosenAt_15 : decode cX2_chosenAt 15 = .ok (.if_icmp .ge 56, 3) := by decide +kernel
theorem dX2_chosenAt_18 : decode cX2_chosenAt 18 = .ok (.iconst 0, 1) := by decide +kernel
theorem dX2_chosenAt_19 : decode cX2_chosenAt 19 = .ok (.istore 4, 2) := by decide +kernel
theorem dX2_chosenAt_21 : decode cX2_chosenAt 21 = .ok (.iload 4, 2) := by decide +kernel
theorem dX2_chosenAt_23 : decode cX2_chosenAt 23 = .ok (.bipush 30, 2) := by decide +kernel
theorem dX2_chosenAt_25 : decode cX2_chosenAt 25 = .ok (.if_icmp .ge 40, 3) := by decide +kernel
theorem dX2_chosenAt_28 : decode cX2_chosenAt 28 = .ok (.aload_n 0, 1) := by decide +kernel
theorem dX2_chosenAt_29 : decode cX2_chosenAt 29 = .ok (.iload 4, 2) := by decide +kernel
theorem dX2_chosenAt_31 : decode cX2_chosenAt 31 = .ok (.invokevirtual 103, 3) := by decide +kernel
theorem dX2_chosenAt_34 : decode cX2_chosenAt 34 = .ok (.ifCond .eq 25, 3) := by decide +kernel
theorem dX2_chosenAt_37 : decode cX2_chosenAt 37 = .ok (.aload_n 0, 1) := by decide +kernel
theorem dX2_chosenAt_38 : decode cX2_chosenAt 38 = .ok (.getfield 30, 3) := by decide +kernel
theorem dX2_chosenAt_41 : decode cX2_chosenAt 41 = .ok (.iload 4, 2) := by decide +kernel
theorem dX2_chosenAt_43 : decode cX2_chosenAt 43 = .ok (.iaload, 1) := by decide +kernel
theorem dX2_chosenAt_44 : decode cX2_chosenAt 44 = .ok (.iload_n 3, 1) := by decide +kernel
theorem dX2_chosenAt_45 : decode cX2_chosenAt 45 = .ok (.if_icmp .ne 14, 3) := by decide +kernel
theorem dX2_chosenAt_48 : decode cX2_chosenAt 48 = .ok (.iload_n 2, 1) := by decide +kernel
theorem dX2_chosenAt_49 : decode cX2_chosenAt 49 = .ok (.iload_n 1, 1) := by decide +kernel
theorem dX2_chosenAt_50 : decode cX2_chosenAt 50 = .ok (.if_icmp .ne 6, 3) := by decide +kernel
theorem dX2_chosenAt_53 : decode cX2_chosenAt 53 = .ok (.iload 4, 2) := by decide +kernel
theorem dX2_chosenAt_55 : decode cX2_chosenAt 55 = .ok (.ireturn, 1) := by decide +kernel
theorem dX2_chosenAt_56 : decode cX2_chosenAt 56 = .ok (.iinc 2 1, 3) := by decide +kernel
theorem dX2_chosenAt_59 : decode cX2_chosenAt 59 = .ok (.iinc 4 1, 3) := by decide +kernel
theorem dX2_chosenAt_62 : decode cX2_chosenAt 62 = .ok (.goto (-41), 3) := by decide +kernel
theorem dX2_chosenAt_65 : decode cX2_chosenAt 65 = .ok (.iinc 3 1, 3) := by decide +kernel
theorem dX2_chosenAt_68 : decode cX2_chosenAt 68 = .ok (.goto (-58), 3) := by decide +kernel
theorem dX2_chosenAt_71 : decode cX2_chosenAt 71 = .ok (.iconst (-1), 1) := by decide +kernel
theorem dX2_chosenAt_72 : decode cX2_chosenAt 72 = .ok (.ireturn, 1) := by decide +kernel
theorem dX2_numberOf_0 : decode cX2_numberOf 0 = .ok (.iload_n 1, 1) := by decide +kernel
theorem dX2_numberOf_1 : decode cX2_numberOf 1 = .ok (.tableswitch 139 0 14 #[75, 80, 86, 92, 98, 104, 109, 114, 114, 114, 124, 129, 129, 129, 129], 75) := by decide +kernel
theorem dX2_numberOf_76 : decode cX2_numberOf 76 = .ok (.aload_n 0, 1) := by decide +kernel
theorem dX2_numberOf_77 : decode cX2_numberOf 77 = .ok (.getfield 48, 3) := by decide +kernel
theorem dX2_numberOf_80 : decode cX2_numberOf 80 = .ok (.ireturn, 1) := by decide +kernel
theorem dX2_numberOf_81 : decode cX2_numberOf 81 = .ok (.aload_n 0, 1) := by decide +kernel
theorem dX2_numberOf_82 : decode cX2_numberOf 82 = .ok (.iconst 0, 1) := by decide +kernel
theorem dX2_numberOf_83 : decode cX2_numberOf 83 = .ok (.invokevirtual 106, 3) := by decide +kernel
theorem dX2_numberOf_86 : decode cX2_numberOf 86 = .ok (.ireturn, 1) := by decide +kernel
theorem dX2_numberOf_87 : decode cX2_numberOf 87 = .ok (.aload_n 0, 1) := by decide +kernel
theorem dX2_numberOf_88 : decode cX2_numberOf 88 = .ok (.iconst 1, 1) := by decide +kernel
theorem dX2_numberOf_89 : decode cX2_numberOf 89 = .ok (.invokevirtual 106, 3) := by decide +kernel
theorem dX2_numberOf_92 : decode cX2_numberOf 92 = .ok (.ireturn, 1) := by decide +kernel
theorem dX2_numberOf_93 : decode cX2_numberOf 93 = .ok (.aload_n 0, 1) := by decide +kernel
theorem dX2_numberOf_94 : decode cX2_numberOf 94 = .ok (.iconst 2, 1) := by decide +kernel
theorem dX2_numberOf_95 : decode cX2_numberOf 95 = .ok (.invokevirtual 106, 3) := by decide +kernel
theorem dX2_numberOf_98 : decode cX2_numberOf 98 = .ok (.ireturn, 1) := by decide +kernel
theorem dX2_numberOf_99 : decode cX2_numberOf 99 = .ok (.aload_n 0, 1) := by decide +kernel
theorem dX2_numberOf_100 : decode cX2_numberOf 100 = .ok (.iconst 3, 1) := by decide +kernel
theorem dX2_numberOf_101 : decode cX2_numberOf 101 = .ok (.invokevirtual 106, 3) := by decide +kernel
theorem dX2_numberOf_104 : decode cX2_numberOf 104 = .ok (.ireturn, 1) := by decide +kernel
theorem dX2_numberOf_105 : decode cX2_numberOf 105 = .ok (.aload_n 0, 1) := by decide +kernel
theorem dX2_numberOf_106 : decode cX2_numberOf 106 = .ok (.getfield 52, 3) := by decide +kernel
theorem dX2_numberOf_109 : decode cX2_numberOf 109 = .ok (.ireturn, 1) := by decide +kernel
theorem dX2_numberOf_110 : decode cX2_numberOf 110 = .ok (.aload_n 0, 1) := by decide +kernel
theorem dX2_numberOf_111 : decode cX2_numberOf 111 = .ok (.getfield 55, 3) := by decide +kernel
theorem dX2_numberOf_114 : decode cX2_numberOf 114 = .ok (.ireturn, 1) := by decide +kernel
theorem dX2_numberOf_115 : decode cX2_numberOf 115 = .ok (.aload_n 0, 1) := by decide +kernel
theorem dX2_numberOf_116 : decode cX2_numberOf 116 = .ok (.getfield 45, 3) := by decide +kernel
theorem dX2_numberOf_119 : decode cX2_numberOf 119 = .ok (.iload_n 1, 1) := by decide +kernel
theorem dX2_numberOf_120 : decode cX2_numberOf 120 = .ok (.bipush 6, 2) := by decide +kernel
theorem dX2_numberOf_122 : decode cX2_numberOf 122 = .ok (.isub, 1) := by decide +kernel
theorem dX2_numberOf_123 : decode cX2_numberOf 123 = .ok (.iaload, 1) := by decide +kernel
theorem dX2_numberOf_124 : decode cX2_numberOf 124 = .ok (.ireturn, 1) := by decide +kernel
theorem dX2_numberOf_125 : decode cX2_numberOf 125 = .ok (.aload_n 0, 1) := by decide +kernel
theorem dX2_numberOf_126 : decode cX2_numberOf 126 = .ok (.invokevirtual 109, 3) := by decide +kernel
theorem dX2_numberOf_129 : decode cX2_numberOf 129 = .ok (.ireturn, 1) := by decide +kernel
theorem dX2_numberOf_130 : decode cX2_numberOf 130 = .ok (.aload_n 0, 1) := by decide +kernel
theorem dX2_numberOf_131 : decode cX2_numberOf 131 = .ok (.getfield 11, 3) := by decide +kernel
theorem dX2_numberOf_134 : decode cX2_numberOf 134 = .ok (.iload_n 1, 1) := by decide +kernel
theorem dX2_numberOf_135 : decode cX2_numberOf 135 = .ok (.bipush 11, 2) := by decide +kernel
theorem dX2_numberOf_137 : decode cX2_numberOf 137 = .ok (.isub, 1) := by decide +kernel
theorem dX2_numberOf_138 : decode cX2_numberOf 138 = .ok (.iaload, 1) := by decide +kernel
theorem dX2_numberOf_139 : decode cX2_numberOf 139 = .ok (.ireturn, 1) := by decide +kernel
theorem dX2_numberOf_140 : decode cX2_numberOf 140 = .ok (.bipush (-2), 2) := by decide +kernel
theorem dX2_numberOf_142 : decode cX2_numberOf 142 = .ok (.ireturn, 1) := by decide +kernel
theorem dX2_whyNotChosen_0 : decode cX2_whyNotChosen 0 = .ok (.iload_n 1, 1) := by decide +kernel
theorem dX2_whyNotChosen_1 : decode cX2_whyNotChosen 1 = .ok (.invokestatic 74, 3) := by decide +kernel
theorem dX2_whyNotChosen_4 : decode cX2_whyNotChosen 4 = .ok (.ifCond .ne 5, 3) := by decide +kernel
theorem dX2_whyNotChosen_7 : decode cX2_whyNotChosen 7 = .ok (.iconst (-1), 1) := by decide +kernel
theorem dX2_whyNotChosen_8 : decode cX2_whyNotChosen 8 = .ok (.ireturn, 1) := by decide +kernel
theorem dX2_whyNotChosen_9 : decode cX2_whyNotChosen 9 = .ok (.aload_n 0, 1) := by decide +kernel
theorem dX2_whyNotChosen_10 : decode cX2_whyNotChosen 10 = .ok (.getfield 15, 3) := by decide +kernel
theorem dX2_whyNotChosen_13 : decode cX2_whyNotChosen 13 = .ok (.iload_n 1, 1) := by decide +kernel
theorem dX2_whyNotChosen_14 : decode cX2_whyNotChosen 14 = .ok (.iaload, 1) := by decide +kernel
theorem dX2_whyNotChosen_15 : decode cX2_whyNotChosen 15 = .ok (.ifCond .eq 5, 3) := by decide +kernel
theorem dX2_whyNotChosen_18 : decode cX2_whyNotChosen 18 = .ok (.iconst 1, 1) := by decide +kernel
theorem dX2_whyNotChosen_19 : decode cX2_whyNotChosen 19 = .ok (.ireturn, 1) := by decide +kernel
theorem dX2_whyNotChosen_20 : decode cX2_whyNotChosen 20 = .ok (.aload_n 0, 1) := by decide +kernel
theorem dX2_whyNotChosen_21 : decode cX2_whyNotChosen 21 = .ok (.getfield 21, 3) := by decide +kernel
theorem dX2_whyNotChosen_24 : decode cX2_whyNotChosen 24 = .ok (.iload_n 1, 1) := by decide +kernel
theorem dX2_whyNotChosen_25 : decode cX2_whyNotChosen 25 = .ok (.iaload, 1) := by decide +kernel
theorem dX2_whyNotChosen_26 : decode cX2_whyNotChosen 26 = .ok (.ifCond .eq 5, 3) := by decide +kernel
theorem dX2_whyNotChosen_29 : decode cX2_whyNotChosen 29 = .ok (.iconst 2, 1) := by decide +kernel
theorem dX2_whyNotChosen_30 : decode cX2_whyNotChosen 30 = .ok (.ireturn, 1) := by decide +kernel
theorem dX2_whyNotChosen_31 : decode cX2_whyNotChosen 31 = .ok (.aload_n 0, 1) := by decide +kernel
theorem dX2_whyNotChosen_32 : decode cX2_whyNotChosen 32 = .ok (.aload_n 0, 1) := by decide +kernel
theorem dX2_whyNotChosen_33 : decode cX2_whyNotChosen 33 = .ok (.getfield 18, 3) := by decide +kernel
theorem dX2_whyNotChosen_36 : decode cX2_whyNotChosen 36 = .ok (.iload_n 1, 1) := by decide +kernel
theorem dX2_whyNotChosen_37 : decode cX2_whyNotChosen 37 = .ok (.iaload, 1) := by decide +kernel
theorem dX2_whyNotChosen_38 : decode cX2_whyNotChosen 38 = .ok (.aload_n 0, 1) := by decide +kernel
theorem dX2_whyNotChosen_39 : decode cX2_whyNotChosen 39 = .ok (.getfield 21, 3) := by decide +kernel
theorem dX2_whyNotChosen_42 : decode cX2_whyNotChosen 42 = .ok (.iload_n 1, 1) := by decide +kernel
theorem dX2_whyNotChosen_43 : decode cX2_whyNotChosen 43 = .ok (.iaload, 1) := by decide +kernel
theorem dX2_whyNotChosen_44 : decode cX2_whyNotChosen 44 = .ok (.invokevirtual 113, 3) := by decide +kernel
theorem dX2_whyNotChosen_47 : decode cX2_whyNotChosen 47 = .ok (.ifCond .eq 7, 3) := by decide +kernel
theorem dX2_whyNotChosen_50 : decode cX2_whyNotChosen 50 = .ok (.iconst 0, 1) := by decide +kernel
theorem dX2_whyNotChosen_51 : decode cX2_whyNotChosen 51 = .ok (.goto 4, 3) := by decide +kernel
theorem dX2_whyNotChosen_54 : decode cX2_whyNotChosen 54 = .ok (.iconst 3, 1) := by decide +kernel
theorem dX2_whyNotChosen_55 : decode cX2_whyNotChosen 55 = .ok (.ireturn, 1) := by decide +kernel
theorem dX2_roundWouldBring_0 : decode cX2_roundWouldBring 0 = .ok (.iload_n 1, 1) := by decide +kernel
theorem dX2_roundWouldBring_1 : decode cX2_roundWouldBring 1 = .ok (.tableswitch 45 0 2 #[27, 33, 39], 27) := by decide +kernel
theorem dX2_roundWouldBring_28 : decode cX2_roundWouldBring 28 = .ok (.aload_n 0, 1) := by decide +kernel
theorem dX2_roundWouldBring_29 : decode cX2_roundWouldBring 29 = .ok (.iconst 1, 1) := by decide +kernel
theorem dX2_roundWouldBring_30 : decode cX2_roundWouldBring 30 = .ok (.invokevirtual 117, 3) := by decide +kernel
theorem dX2_roundWouldBring_33 : decode cX2_roundWouldBring 33 = .ok (.ireturn, 1) := by decide +kernel
theorem dX2_roundWouldBring_34 : decode cX2_roundWouldBring 34 = .ok (.aload_n 0, 1) := by decide +kernel
theorem dX2_roundWouldBring_35 : decode cX2_roundWouldBring 35 = .ok (.iconst 2, 1) := by decide +kernel
theorem dX2_roundWouldBring_36 : decode cX2_roundWouldBring 36 = .ok (.invokevirtual 117, 3) := by decide +kernel
theorem dX2_roundWouldBring_39 : decode cX2_roundWouldBring 39 = .ok (.ireturn, 1) := by decide +kernel
theorem dX2_roundWouldBring_40 : decode cX2_roundWouldBring 40 = .ok (.aload_n 0, 1) := by decide +kernel
theorem dX2_roundWouldBring_41 : decode cX2_roundWouldBring 41 = .ok (.iconst 0, 1) := by decide +kernel
theorem dX2_roundWouldBring_42 : decode cX2_roundWouldBring 42 = .ok (.invokevirtual 117, 3) := by decide +kernel
theorem dX2_roundWouldBring_45 : decode cX2_roundWouldBring 45 = .ok (.ireturn, 1) := by decide +kernel
theorem dX2_roundWouldBring_46 : decode cX2_roundWouldBring 46 = .ok (.bipush (-2), 2) := by decide +kernel
theorem dX2_roundWouldBring_48 : decode cX2_roundWouldBring 48 = .ok (.ireturn, 1) := by decide +kernel
theorem dX2_deciders_0 : decode cX2_deciders 0 = .ok (.iload_n 1, 1) := by decide +kernel
theorem dX2_deciders_1 : decode cX2_deciders 1 = .ok (.invokestatic 74, 3) := by decide +kernel
theorem dX2_deciders_4 : decode cX2_deciders 4 = .ok (.ifCond .ne 5, 3) := by decide +kernel
theorem dX2_deciders_7 : decode cX2_deciders 7 = .ok (.iconst (-1), 1) := by decide +kernel
theorem dX2_deciders_8 : decode cX2_deciders 8 = .ok (.ireturn, 1) := by decide +kernel
theorem dX2_deciders_9 : decode cX2_deciders 9 = .ok (.iconst 0, 1) := by decide +kernel
theorem dX2_deciders_10 : decode cX2_deciders 10 = .ok (.istore_n 2, 1) := by decide +kernel
theorem dX2_deciders_11 : decode cX2_deciders 11 = .ok (.iconst 0, 1) := by decide +kernel
theorem dX2_deciders_12 : decode cX2_deciders 12 = .ok (.istore_n 3, 1) := by decide +kernel
theorem dX2_deciders_13 : decode cX2_deciders 13 = .ok (.iload_n 3, 1) := by decide +kernel
theorem dX2_deciders_14 : decode cX2_deciders 14 = .ok (.iconst 3, 1) := by decide +kernel
theorem dX2_deciders_15 : decode cX2_deciders 15 = .ok (.if_icmp .ge 38, 3) := by decide +kernel
theorem dX2_deciders_18 : decode cX2_deciders 18 = .ok (.iload_n 2, 1) := by decide +kernel
theorem dX2_deciders_19 : decode cX2_deciders 19 = .ok (.iload_n 3, 1) := by decide +kernel
theorem dX2_deciders_20 : decode cX2_deciders 20 = .ok (.aload_n 0, 1) := by decide +kernel
theorem dX2_deciders_21 : decode cX2_deciders 21 = .ok (.getfield 15, 3) := by decide +kernel
theorem dX2_deciders_24 : decode cX2_deciders 24 = .ok (.iload_n 1, 1) := by decide +kernel
theorem dX2_deciders_25 : decode cX2_deciders 25 = .ok (.iaload, 1) := by decide +kernel
theorem dX2_deciders_26 : decode cX2_deciders 26 = .ok (.ifCond .ne 16, 3) := by decide +kernel
theorem dX2_deciders_29 : decode cX2_deciders 29 = .ok (.aload_n 0, 1) := by decide +kernel
theorem dX2_deciders_30 : decode cX2_deciders 30 = .ok (.iload_n 3, 1) := by decide +kernel
theorem dX2_deciders_31 : decode cX2_deciders 31 = .ok (.iload_n 1, 1) := by decide +kernel
theorem dX2_deciders_32 : decode cX2_deciders 32 = .ok (.invokevirtual 120, 3) := by decide +kernel
theorem dX2_deciders_35 : decode cX2_deciders 35 = .ok (.ifCond .eq 7, 3) := by decide +kernel
theorem dX2_deciders_38 : decode cX2_deciders 38 = .ok (.iconst 1, 1) := by decide +kernel
theorem dX2_deciders_39 : decode cX2_deciders 39 = .ok (.goto 4, 3) := by decide +kernel
theorem dX2_deciders_42 : decode cX2_deciders 42 = .ok (.iconst 0, 1) := by decide +kernel
theorem dX2_deciders_43 : decode cX2_deciders 43 = .ok (.invokestatic 85, 3) := by decide +kernel
theorem dX2_deciders_46 : decode cX2_deciders 46 = .ok (.istore_n 2, 1) := by decide +kernel
theorem dX2_deciders_47 : decode cX2_deciders 47 = .ok (.iinc 3 1, 3) := by decide +kernel
theorem dX2_deciders_50 : decode cX2_deciders 50 = .ok (.goto (-37), 3) := by decide +kernel
theorem dX2_deciders_53 : decode cX2_deciders 53 = .ok (.iload_n 2, 1) := by decide +kernel
theorem dX2_deciders_54 : decode cX2_deciders 54 = .ok (.ireturn, 1) := by decide +kernel
theorem dX2_agreement_0 : decode cX2_agreement 0 = .ok (.iload_n 1, 1) := by decide +kernel
theorem dX2_agreement_1 : decode cX2_agreement 1 = .ok (.invokestatic 70, 3) := by decide +kernel
theorem dX2_agreement_4 : decode cX2_agreement 4 = .ok (.ifCond .eq 10, 3) := by decide +kernel
theorem dX2_agreement_7 : decode cX2_agreement 7 = .ok (.iload_n 2, 1) := by decide +kernel
theorem dX2_agreement_8 : decode cX2_agreement 8 = .ok (.invokestatic 70, 3) := by decide +kernel
theorem dX2_agreement_11 : decode cX2_agreement 11 = .ok (.ifCond .ne 5, 3) := by decide +kernel
theorem dX2_agreement_14 : decode cX2_agreement 14 = .ok (.iconst (-1), 1) := by decide +kernel
theorem dX2_agreement_15 : decode cX2_agreement 15 = .ok (.ireturn, 1) := by decide +kernel
theorem dX2_agreement_16 : decode cX2_agreement 16 = .ok (.iconst 0, 1) := by decide +kernel
theorem dX2_agreement_17 : decode cX2_agreement 17 = .ok (.istore_n 3, 1) := by decide +kernel
theorem dX2_agreement_18 : decode cX2_agreement 18 = .ok (.iconst 0, 1) := by decide +kernel
theorem dX2_agreement_19 : decode cX2_agreement 19 = .ok (.istore 4, 2) := by decide +kernel
theorem dX2_agreement_21 : decode cX2_agreement 21 = .ok (.iconst 0, 1) := by decide +kernel
theorem dX2_agreement_22 : decode cX2_agreement 22 = .ok (.istore 5, 2) := by decide +kernel
theorem dX2_agreement_24 : decode cX2_agreement 24 = .ok (.iload 5, 2) := by decide +kernel
theorem dX2_agreement_26 : decode cX2_agreement 26 = .ok (.bipush 30, 2) := by decide +kernel
theorem dX2_agreement_28 : decode cX2_agreement 28 = .ok (.if_icmp .ge 57, 3) := by decide +kernel
theorem dX2_agreement_31 : decode cX2_agreement 31 = .ok (.aload_n 0, 1) := by decide +kernel
theorem dX2_agreement_32 : decode cX2_agreement 32 = .ok (.iload_n 1, 1) := by decide +kernel
theorem dX2_agreement_33 : decode cX2_agreement 33 = .ok (.iload 5, 2) := by decide +kernel
theorem dX2_agreement_35 : decode cX2_agreement 35 = .ok (.invokevirtual 77, 3) := by decide +kernel
theorem dX2_agreement_38 : decode cX2_agreement 38 = .ok (.istore 6, 2) := by decide +kernel
theorem dX2_agreement_40 : decode cX2_agreement 40 = .ok (.aload_n 0, 1) := by decide +kernel
theorem dX2_agreement_41 : decode cX2_agreement 41 = .ok (.iload_n 2, 1) := by decide +kernel
theorem dX2_agreement_42 : decode cX2_agreement 42 = .ok (.iload 5, 2) := by decide +kernel
theorem dX2_agreement_44 : decode cX2_agreement 44 = .ok (.invokevirtual 77, 3) := by decide +kernel
theorem dX2_agreement_47 : decode cX2_agreement 47 = .ok (.istore 7, 2) := by decide +kernel
theorem dX2_agreement_49 : decode cX2_agreement 49 = .ok (.iload 6, 2) := by decide +kernel
theorem dX2_agreement_51 : decode cX2_agreement 51 = .ok (.ifCond .eq 28, 3) := by decide +kernel
theorem dX2_agreement_54 : decode cX2_agreement 54 = .ok (.iload 7, 2) := by decide +kernel
theorem dX2_agreement_56 : decode cX2_agreement 56 = .ok (.ifCond .eq 23, 3) := by decide +kernel
theorem dX2_agreement_59 : decode cX2_agreement 59 = .ok (.iinc 3 1, 3) := by decide +kernel
theorem dX2_agreement_62 : decode cX2_agreement 62 = .ok (.iload 4, 2) := by decide +kernel
theorem dX2_agreement_64 : decode cX2_agreement 64 = .ok (.iload 6, 2) := by decide +kernel
theorem dX2_agreement_66 : decode cX2_agreement 66 = .ok (.iload 7, 2) := by decide +kernel
theorem dX2_agreement_68 : decode cX2_agreement 68 = .ok (.if_icmp .ne 7, 3) := by decide +kernel
theorem dX2_agreement_71 : decode cX2_agreement 71 = .ok (.iconst 1, 1) := by decide +kernel
theorem dX2_agreement_72 : decode cX2_agreement 72 = .ok (.goto 4, 3) := by decide +kernel
theorem dX2_agreement_75 : decode cX2_agreement 75 = .ok (.iconst 0, 1) := by decide +kernel
theorem dX2_agreement_76 : decode cX2_agreement 76 = .ok (.iadd, 1) := by decide +kernel
theorem dX2_agreement_77 : decode cX2_agreement 77 = .ok (.istore 4, 2) := by decide +kernel
theorem dX2_agreement_79 : decode cX2_agreement 79 = .ok (.iinc 5 1, 3) := by decide +kernel
theorem dX2_agreement_82 : decode cX2_agreement 82 = .ok (.goto (-58), 3) := by decide +kernel
theorem dX2_agreement_85 : decode cX2_agreement 85 = .ok (.iload_n 3, 1) := by decide +kernel
theorem dX2_agreement_86 : decode cX2_agreement 86 = .ok (.ifCond .ne 8, 3) := by decide +kernel
theorem dX2_agreement_89 : decode cX2_agreement 89 = .ok (.bipush 100, 2) := by decide +kernel
theorem dX2_agreement_91 : decode cX2_agreement 91 = .ok (.goto 10, 3) := by decide +kernel
theorem dX2_agreement_94 : decode cX2_agreement 94 = .ok (.bipush 100, 2) := by decide +kernel
theorem dX2_agreement_96 : decode cX2_agreement 96 = .ok (.iload 4, 2) := by decide +kernel
theorem dX2_agreement_98 : decode cX2_agreement 98 = .ok (.imul, 1) := by decide +kernel
theorem dX2_agreement_99 : decode cX2_agreement 99 = .ok (.iload_n 3, 1) := by decide +kernel
theorem dX2_agreement_100 : decode cX2_agreement 100 = .ok (.idiv, 1) := by decide +kernel
theorem dX2_agreement_101 : decode cX2_agreement 101 = .ok (.ireturn, 1) := by decide +kernel
theorem dX2_paperForChosen_0 : decode cX2_paperForChosen 0 = .ok (.iconst 0, 1) := by decide +kernel
theorem dX2_paperForChosen_1 : decode cX2_paperForChosen 1 = .ok (.istore_n 1, 1) := by decide +kernel
theorem dX2_paperForChosen_2 : decode cX2_paperForChosen 2 = .ok (.iconst 0, 1) := by decide +kernel
theorem dX2_paperForChosen_3 : decode cX2_paperForChosen 3 = .ok (.istore_n 2, 1) := by decide +kernel
theorem dX2_paperForChosen_4 : decode cX2_paperForChosen 4 = .ok (.iload_n 2, 1) := by decide +kernel
theorem dX2_paperForChosen_5 : decode cX2_paperForChosen 5 = .ok (.bipush 30, 2) := by decide +kernel
theorem dX2_paperForChosen_7 : decode cX2_paperForChosen 7 = .ok (.if_icmp .ge 31, 3) := by decide +kernel
theorem dX2_paperForChosen_10 : decode cX2_paperForChosen 10 = .ok (.aload_n 0, 1) := by decide +kernel
theorem dX2_paperForChosen_11 : decode cX2_paperForChosen 11 = .ok (.getfield 15, 3) := by decide +kernel
theorem dX2_paperForChosen_14 : decode cX2_paperForChosen 14 = .ok (.iload_n 2, 1) := by decide +kernel
theorem dX2_paperForChosen_15 : decode cX2_paperForChosen 15 = .ok (.iaload, 1) := by decide +kernel
theorem dX2_paperForChosen_16 : decode cX2_paperForChosen 16 = .ok (.iconst 1, 1) := by decide +kernel
theorem dX2_paperForChosen_17 : decode cX2_paperForChosen 17 = .ok (.if_icmp .ne 15, 3) := by decide +kernel
theorem dX2_paperForChosen_20 : decode cX2_paperForChosen 20 = .ok (.iload_n 1, 1) := by decide +kernel
theorem dX2_paperForChosen_21 : decode cX2_paperForChosen 21 = .ok (.aload_n 0, 1) := by decide +kernel
theorem dX2_paperForChosen_22 : decode cX2_paperForChosen 22 = .ok (.getfield 27, 3) := by decide +kernel
theorem dX2_paperForChosen_25 : decode cX2_paperForChosen 25 = .ok (.iload_n 2, 1) := by decide +kernel
theorem dX2_paperForChosen_26 : decode cX2_paperForChosen 26 = .ok (.iaload, 1) := by decide +kernel
theorem dX2_paperForChosen_27 : decode cX2_paperForChosen 27 = .ok (.invokestatic 97, 3) := by decide +kernel
theorem dX2_paperForChosen_30 : decode cX2_paperForChosen 30 = .ok (.iadd, 1) := by decide +kernel
theorem dX2_paperForChosen_31 : decode cX2_paperForChosen 31 = .ok (.istore_n 1, 1) := by decide +kernel
theorem dX2_paperForChosen_32 : decode cX2_paperForChosen 32 = .ok (.iinc 2 1, 3) := by decide +kernel
theorem dX2_paperForChosen_35 : decode cX2_paperForChosen 35 = .ok (.goto (-31), 3) := by decide +kernel
theorem dX2_paperForChosen_38 : decode cX2_paperForChosen 38 = .ok (.iload_n 1, 1) := by decide +kernel
theorem dX2_paperForChosen_39 : decode cX2_paperForChosen 39 = .ok (.ireturn, 1) := by decide +kernel
theorem dX2_settle_0 : decode cX2_settle 0 = .ok (.aload_n 0, 1) := by decide +kernel
theorem dX2_settle_1 : decode cX2_settle 1 = .ok (.iload_n 1, 1) := by decide +kernel
theorem dX2_settle_2 : decode cX2_settle 2 = .ok (.invokevirtual 123, 3) := by decide +kernel
theorem dX2_settle_5 : decode cX2_settle 5 = .ok (.istore_n 2, 1) := by decide +kernel
theorem dX2_settle_6 : decode cX2_settle 6 = .ok (.iload_n 2, 1) := by decide +kernel
theorem dX2_settle_7 : decode cX2_settle 7 = .ok (.iconst 1, 1) := by decide +kernel
theorem dX2_settle_8 : decode cX2_settle 8 = .ok (.if_icmp .ne 8, 3) := by decide +kernel
theorem dX2_settle_11 : decode cX2_settle 11 = .ok (.aload_n 0, 1) := by decide +kernel
theorem dX2_settle_12 : decode cX2_settle 12 = .ok (.iload_n 1, 1) := by decide +kernel
theorem dX2_settle_13 : decode cX2_settle 13 = .ok (.invokevirtual 126, 3) := by decide +kernel
theorem dX2_settle_16 : decode cX2_settle 16 = .ok (.aload_n 0, 1) := by decide +kernel
theorem dX2_settle_17 : decode cX2_settle 17 = .ok (.getfield 24, 3) := by decide +kernel
theorem dX2_settle_20 : decode cX2_settle 20 = .ok (.iload_n 1, 1) := by decide +kernel
theorem dX2_settle_21 : decode cX2_settle 21 = .ok (.aload_n 0, 1) := by decide +kernel
theorem dX2_settle_22 : decode cX2_settle 22 = .ok (.iload_n 1, 1) := by decide +kernel
theorem dX2_settle_23 : decode cX2_settle 23 = .ok (.invokevirtual 130, 3) := by decide +kernel
theorem dX2_settle_26 : decode cX2_settle 26 = .ok (.iastore, 1) := by decide +kernel
theorem dX2_settle_27 : decode cX2_settle 27 = .ok (.aload_n 0, 1) := by decide +kernel
theorem dX2_settle_28 : decode cX2_settle 28 = .ok (.getfield 15, 3) := by decide +kernel
theorem dX2_settle_31 : decode cX2_settle 31 = .ok (.iload_n 1, 1) := by decide +kernel
theorem dX2_settle_32 : decode cX2_settle 32 = .ok (.iload_n 2, 1) := by decide +kernel
theorem dX2_settle_33 : decode cX2_settle 33 = .ok (.iastore, 1) := by decide +kernel
theorem dX2_settle_34 : decode cX2_settle 34 = .ok (.aload_n 0, 1) := by decide +kernel
theorem dX2_settle_35 : decode cX2_settle 35 = .ok (.getfield 18, 3) := by decide +kernel
theorem dX2_settle_38 : decode cX2_settle 38 = .ok (.iload_n 1, 1) := by decide +kernel
theorem dX2_settle_39 : decode cX2_settle 39 = .ok (.iconst 0, 1) := by decide +kernel
theorem dX2_settle_40 : decode cX2_settle 40 = .ok (.iastore, 1) := by decide +kernel
theorem dX2_settle_41 : decode cX2_settle 41 = .ok (.aload_n 0, 1) := by decide +kernel
theorem dX2_settle_42 : decode cX2_settle 42 = .ok (.getfield 21, 3) := by decide +kernel
theorem dX2_settle_45 : decode cX2_settle 45 = .ok (.iload_n 1, 1) := by decide +kernel
theorem dX2_settle_46 : decode cX2_settle 46 = .ok (.iconst 0, 1) := by decide +kernel
theorem dX2_settle_47 : decode cX2_settle 47 = .ok (.iastore, 1) := by decide +kernel
theorem dX2_settle_48 : decode cX2_settle 48 = .ok (.iload_n 2, 1) := by decide +kernel
theorem dX2_settle_49 : decode cX2_settle 49 = .ok (.ireturn, 1) := by decide +kernel
theorem dX2_noteChoice_0 : decode cX2_noteChoice 0 = .ok (.aload_n 0, 1) := by decide +kernel
theorem dX2_noteChoice_1 : decode cX2_noteChoice 1 = .ok (.getfield 27, 3) := by decide +kernel
theorem dX2_noteChoice_4 : decode cX2_noteChoice 4 = .ok (.iload_n 1, 1) := by decide +kernel
theorem dX2_noteChoice_5 : decode cX2_noteChoice 5 = .ok (.aload_n 0, 1) := by decide +kernel
theorem dX2_noteChoice_6 : decode cX2_noteChoice 6 = .ok (.getfield 18, 3) := by decide +kernel
theorem dX2_noteChoice_9 : decode cX2_noteChoice 9 = .ok (.iload_n 1, 1) := by decide +kernel
theorem dX2_noteChoice_10 : decode cX2_noteChoice 10 = .ok (.iaload, 1) := by decide +kernel
theorem dX2_noteChoice_11 : decode cX2_noteChoice 11 = .ok (.invokestatic 133, 3) := by decide +kernel
theorem dX2_noteChoice_14 : decode cX2_noteChoice 14 = .ok (.iastore, 1) := by decide +kernel
theorem dX2_noteChoice_15 : decode cX2_noteChoice 15 = .ok (.aload_n 0, 1) := by decide +kernel
theorem dX2_noteChoice_16 : decode cX2_noteChoice 16 = .ok (.getfield 30, 3) := by decide +kernel
theorem dX2_noteChoice_19 : decode cX2_noteChoice 19 = .ok (.iload_n 1, 1) := by decide +kernel
theorem dX2_noteChoice_20 : decode cX2_noteChoice 20 = .ok (.aload_n 0, 1) := by decide +kernel
theorem dX2_noteChoice_21 : decode cX2_noteChoice 21 = .ok (.getfield 48, 3) := by decide +kernel
theorem dX2_noteChoice_24 : decode cX2_noteChoice 24 = .ok (.iastore, 1) := by decide +kernel
theorem dX2_noteChoice_25 : decode cX2_noteChoice 25 = .ok (.iconst 0, 1) := by decide +kernel
theorem dX2_noteChoice_26 : decode cX2_noteChoice 26 = .ok (.istore_n 2, 1) := by decide +kernel
theorem dX2_noteChoice_27 : decode cX2_noteChoice 27 = .ok (.iload_n 2, 1) := by decide +kernel
theorem dX2_noteChoice_28 : decode cX2_noteChoice 28 = .ok (.iconst 3, 1) := by decide +kernel
theorem dX2_noteChoice_29 : decode cX2_noteChoice 29 = .ok (.if_icmp .ge 29, 3) := by decide +kernel
theorem dX2_noteChoice_32 : decode cX2_noteChoice 32 = .ok (.aload_n 0, 1) := by decide +kernel
theorem dX2_noteChoice_33 : decode cX2_noteChoice 33 = .ok (.iload_n 2, 1) := by decide +kernel
theorem dX2_noteChoice_34 : decode cX2_noteChoice 34 = .ok (.iload_n 1, 1) := by decide +kernel
theorem dX2_noteChoice_35 : decode cX2_noteChoice 35 = .ok (.invokevirtual 77, 3) := by decide +kernel
theorem dX2_noteChoice_38 : decode cX2_noteChoice 38 = .ok (.iconst 1, 1) := by decide +kernel
theorem dX2_noteChoice_39 : decode cX2_noteChoice 39 = .ok (.if_icmp .ne 13, 3) := by decide +kernel
theorem dX2_noteChoice_42 : decode cX2_noteChoice 42 = .ok (.aload_n 0, 1) := by decide +kernel
theorem dX2_noteChoice_43 : decode cX2_noteChoice 43 = .ok (.getfield 42, 3) := by decide +kernel
theorem dX2_noteChoice_46 : decode cX2_noteChoice 46 = .ok (.iload_n 2, 1) := by decide +kernel
theorem dX2_noteChoice_47 : decode cX2_noteChoice 47 = .ok (.dup2, 1) := by decide +kernel
theorem dX2_noteChoice_48 : decode cX2_noteChoice 48 = .ok (.iaload, 1) := by decide +kernel
theorem dX2_noteChoice_49 : decode cX2_noteChoice 49 = .ok (.iconst 1, 1) := by decide +kernel
theorem dX2_noteChoice_50 : decode cX2_noteChoice 50 = .ok (.iadd, 1) := by decide +kernel
theorem dX2_noteChoice_51 : decode cX2_noteChoice 51 = .ok (.iastore, 1) := by decide +kernel
theorem dX2_noteChoice_52 : decode cX2_noteChoice 52 = .ok (.iinc 2 1, 3) := by decide +kernel
theorem dX2_noteChoice_55 : decode cX2_noteChoice 55 = .ok (.goto (-28), 3) := by decide +kernel
theorem dX2_noteChoice_58 : decode cX2_noteChoice 58 = .ok (.return_, 1) := by decide +kernel
theorem dX2_afterRound_0 : decode cX2_afterRound 0 = .ok (.aload_n 0, 1) := by decide +kernel
theorem dX2_afterRound_1 : decode cX2_afterRound 1 = .ok (.getfield 21, 3) := by decide +kernel
theorem dX2_afterRound_4 : decode cX2_afterRound 4 = .ok (.iload_n 1, 1) := by decide +kernel
theorem dX2_afterRound_5 : decode cX2_afterRound 5 = .ok (.iaload, 1) := by decide +kernel
theorem dX2_afterRound_6 : decode cX2_afterRound 6 = .ok (.invokestatic 133, 3) := by decide +kernel
theorem dX2_afterRound_9 : decode cX2_afterRound 9 = .ok (.istore_n 2, 1) := by decide +kernel
theorem dX2_afterRound_10 : decode cX2_afterRound 10 = .ok (.iload_n 2, 1) := by decide +kernel
theorem dX2_afterRound_11 : decode cX2_afterRound 11 = .ok (.iconst 2, 1) := by decide +kernel
theorem dX2_afterRound_12 : decode cX2_afterRound 12 = .ok (.if_icmp .lt 5, 3) := by decide +kernel
theorem dX2_afterRound_15 : decode cX2_afterRound 15 = .ok (.iconst 2, 1) := by decide +kernel
theorem dX2_afterRound_16 : decode cX2_afterRound 16 = .ok (.ireturn, 1) := by decide +kernel
theorem dX2_afterRound_17 : decode cX2_afterRound 17 = .ok (.iload_n 2, 1) := by decide +kernel
theorem dX2_afterRound_18 : decode cX2_afterRound 18 = .ok (.iconst 1, 1) := by decide +kernel
theorem dX2_afterRound_19 : decode cX2_afterRound 19 = .ok (.if_icmp .ne 5, 3) := by decide +kernel
theorem dX2_afterRound_22 : decode cX2_afterRound 22 = .ok (.iconst 0, 1) := by decide +kernel
theorem dX2_afterRound_23 : decode cX2_afterRound 23 = .ok (.ireturn, 1) := by decide +kernel
theorem dX2_afterRound_24 : decode cX2_afterRound 24 = .ok (.aload_n 0, 1) := by decide +kernel
theorem dX2_afterRound_25 : decode cX2_afterRound 25 = .ok (.aload_n 0, 1) := by decide +kernel
theorem dX2_afterRound_26 : decode cX2_afterRound 26 = .ok (.getfield 18, 3) := by decide +kernel
theorem dX2_afterRound_29 : decode cX2_afterRound 29 = .ok (.iload_n 1, 1) := by decide +kernel
theorem dX2_afterRound_30 : decode cX2_afterRound 30 = .ok (.iaload, 1) := by decide +kernel
theorem dX2_afterRound_31 : decode cX2_afterRound 31 = .ok (.aload_n 0, 1) := by decide +kernel
theorem dX2_afterRound_32 : decode cX2_afterRound 32 = .ok (.getfield 21, 3) := by decide +kernel
theorem dX2_afterRound_35 : decode cX2_afterRound 35 = .ok (.iload_n 1, 1) := by decide +kernel
theorem dX2_afterRound_36 : decode cX2_afterRound 36 = .ok (.iaload, 1) := by decide +kernel
theorem dX2_afterRound_37 : decode cX2_afterRound 37 = .ok (.invokevirtual 113, 3) := by decide +kernel
theorem dX2_afterRound_40 : decode cX2_afterRound 40 = .ok (.ifCond .eq 5, 3) := by decide +kernel
theorem dX2_afterRound_43 : decode cX2_afterRound 43 = .ok (.iconst 1, 1) := by decide +kernel
theorem dX2_afterRound_44 : decode cX2_afterRound 44 = .ok (.ireturn, 1) := by decide +kernel
theorem dX2_afterRound_45 : decode cX2_afterRound 45 = .ok (.aload_n 0, 1) := by decide +kernel
theorem dX2_afterRound_46 : decode cX2_afterRound 46 = .ok (.iload_n 1, 1) := by decide +kernel
theorem dX2_afterRound_47 : decode cX2_afterRound 47 = .ok (.invokevirtual 130, 3) := by decide +kernel
theorem dX2_afterRound_50 : decode cX2_afterRound 50 = .ok (.aload_n 0, 1) := by decide +kernel
theorem dX2_afterRound_51 : decode cX2_afterRound 51 = .ok (.getfield 11, 3) := by decide +kernel
theorem dX2_afterRound_54 : decode cX2_afterRound 54 = .ok (.iconst 3, 1) := by decide +kernel
theorem dX2_afterRound_55 : decode cX2_afterRound 55 = .ok (.iaload, 1) := by decide +kernel
theorem dX2_afterRound_56 : decode cX2_afterRound 56 = .ok (.if_icmp .lt 7, 3) := by decide +kernel
theorem dX2_afterRound_59 : decode cX2_afterRound 59 = .ok (.iconst 2, 1) := by decide +kernel
theorem dX2_afterRound_60 : decode cX2_afterRound 60 = .ok (.goto 4, 3) := by decide +kernel
theorem dX2_afterRound_63 : decode cX2_afterRound 63 = .ok (.iconst 0, 1) := by decide +kernel
theorem dX2_afterRound_64 : decode cX2_afterRound 64 = .ok (.ireturn, 1) := by decide +kernel
theorem dX2_dullAfterRound_0 : decode cX2_dullAfterRound 0 = .ok (.aload_n 0, 1) := by decide +kernel
theorem dX2_dullAfterRound_1 : decode cX2_dullAfterRound 1 = .ok (.getfield 18, 3) := by decide +kernel
theorem dX2_dullAfterRound_4 : decode cX2_dullAfterRound 4 = .ok (.iload_n 1, 1) := by decide +kernel
theorem dX2_dullAfterRound_5 : decode cX2_dullAfterRound 5 = .ok (.iaload, 1) := by decide +kernel
theorem dX2_dullAfterRound_6 : decode cX2_dullAfterRound 6 = .ok (.ifCond .ne 16, 3) := by decide +kernel
theorem dX2_dullAfterRound_9 : decode cX2_dullAfterRound 9 = .ok (.aload_n 0, 1) := by decide +kernel
theorem dX2_dullAfterRound_10 : decode cX2_dullAfterRound 10 = .ok (.getfield 21, 3) := by decide +kernel
theorem dX2_dullAfterRound_13 : decode cX2_dullAfterRound 13 = .ok (.iload_n 1, 1) := by decide +kernel
theorem dX2_dullAfterRound_14 : decode cX2_dullAfterRound 14 = .ok (.iaload, 1) := by decide +kernel
theorem dX2_dullAfterRound_15 : decode cX2_dullAfterRound 15 = .ok (.ifCond .ne 7, 3) := by decide +kernel
theorem dX2_dullAfterRound_18 : decode cX2_dullAfterRound 18 = .ok (.iconst 1, 1) := by decide +kernel
theorem dX2_dullAfterRound_19 : decode cX2_dullAfterRound 19 = .ok (.goto 4, 3) := by decide +kernel
theorem dX2_dullAfterRound_22 : decode cX2_dullAfterRound 22 = .ok (.iconst 0, 1) := by decide +kernel
theorem dX2_dullAfterRound_23 : decode cX2_dullAfterRound 23 = .ok (.istore_n 2, 1) := by decide +kernel
theorem dX2_dullAfterRound_24 : decode cX2_dullAfterRound 24 = .ok (.iload_n 2, 1) := by decide +kernel
theorem dX2_dullAfterRound_25 : decode cX2_dullAfterRound 25 = .ok (.ifCond .eq 14, 3) := by decide +kernel
theorem dX2_dullAfterRound_28 : decode cX2_dullAfterRound 28 = .ok (.aload_n 0, 1) := by decide +kernel
theorem dX2_dullAfterRound_29 : decode cX2_dullAfterRound 29 = .ok (.getfield 24, 3) := by decide +kernel
theorem dX2_dullAfterRound_32 : decode cX2_dullAfterRound 32 = .ok (.iload_n 1, 1) := by decide +kernel
theorem dX2_dullAfterRound_33 : decode cX2_dullAfterRound 33 = .ok (.iaload, 1) := by decide +kernel
theorem dX2_dullAfterRound_34 : decode cX2_dullAfterRound 34 = .ok (.iconst 1, 1) := by decide +kernel
theorem dX2_dullAfterRound_35 : decode cX2_dullAfterRound 35 = .ok (.iadd, 1) := by decide +kernel
theorem dX2_dullAfterRound_36 : decode cX2_dullAfterRound 36 = .ok (.goto 4, 3) := by decide +kernel
theorem dX2_dullAfterRound_39 : decode cX2_dullAfterRound 39 = .ok (.iconst 0, 1) := by decide +kernel
theorem dX2_dullAfterRound_40 : decode cX2_dullAfterRound 40 = .ok (.ireturn, 1) := by decide +kernel
theorem dX2_isWanted_0 : decode cX2_isWanted 0 = .ok (.iload_n 2, 1) := by decide +kernel
theorem dX2_isWanted_1 : decode cX2_isWanted 1 = .ok (.ifCond .ne 20, 3) := by decide +kernel
theorem dX2_isWanted_4 : decode cX2_isWanted 4 = .ok (.iload_n 1, 1) := by decide +kernel
theorem dX2_isWanted_5 : decode cX2_isWanted 5 = .ok (.invokestatic 133, 3) := by decide +kernel
theorem dX2_isWanted_8 : decode cX2_isWanted 8 = .ok (.aload_n 0, 1) := by decide +kernel
theorem dX2_isWanted_9 : decode cX2_isWanted 9 = .ok (.getfield 11, 3) := by decide +kernel
theorem dX2_isWanted_12 : decode cX2_isWanted 12 = .ok (.iconst 0, 1) := by decide +kernel
theorem dX2_isWanted_13 : decode cX2_isWanted 13 = .ok (.iaload, 1) := by decide +kernel
theorem dX2_isWanted_14 : decode cX2_isWanted 14 = .ok (.if_icmp .lt 7, 3) := by decide +kernel
theorem dX2_isWanted_17 : decode cX2_isWanted 17 = .ok (.iconst 1, 1) := by decide +kernel
theorem dX2_isWanted_18 : decode cX2_isWanted 18 = .ok (.goto 4, 3) := by decide +kernel
theorem dX2_isWanted_21 : decode cX2_isWanted 21 = .ok (.iconst 0, 1) := by decide +kernel
theorem dX2_isWanted_22 : decode cX2_isWanted 22 = .ok (.ireturn, 1) := by decide +kernel
theorem dX2_markDecides_0 : decode cX2_markDecides 0 = .ok (.aload_n 0, 1) := by decide +kernel
theorem dX2_markDecides_1 : decode cX2_markDecides 1 = .ok (.aload_n 0, 1) := by decide +kernel
theorem dX2_markDecides_2 : decode cX2_markDecides 2 = .ok (.getfield 18, 3) := by decide +kernel
theorem dX2_markDecides_5 : decode cX2_markDecides 5 = .ok (.iload_n 2, 1) := by decide +kernel
theorem dX2_markDecides_6 : decode cX2_markDecides 6 = .ok (.iaload, 1) := by decide +kernel
theorem dX2_markDecides_7 : decode cX2_markDecides 7 = .ok (.aload_n 0, 1) := by decide +kernel
theorem dX2_markDecides_8 : decode cX2_markDecides 8 = .ok (.getfield 21, 3) := by decide +kernel
theorem dX2_markDecides_11 : decode cX2_markDecides 11 = .ok (.iload_n 2, 1) := by decide +kernel
theorem dX2_markDecides_12 : decode cX2_markDecides 12 = .ok (.iaload, 1) := by decide +kernel
theorem dX2_markDecides_13 : decode cX2_markDecides 13 = .ok (.invokevirtual 113, 3) := by decide +kernel
theorem dX2_markDecides_16 : decode cX2_markDecides 16 = .ok (.istore_n 3, 1) := by decide +kernel
theorem dX2_markDecides_17 : decode cX2_markDecides 17 = .ok (.iconst 0, 1) := by decide +kernel
theorem dX2_markDecides_18 : decode cX2_markDecides 18 = .ok (.istore 4, 2) := by decide +kernel
theorem dX2_markDecides_20 : decode cX2_markDecides 20 = .ok (.iload 4, 2) := by decide +kernel
theorem dX2_markDecides_22 : decode cX2_markDecides 22 = .ok (.iconst 2, 1) := by decide +kernel
theorem dX2_markDecides_23 : decode cX2_markDecides 23 = .ok (.if_icmp .gt 69, 3) := by decide +kernel
theorem dX2_markDecides_26 : decode cX2_markDecides 26 = .ok (.aload_n 0, 1) := by decide +kernel
theorem dX2_markDecides_27 : decode cX2_markDecides 27 = .ok (.getfield 18, 3) := by decide +kernel
theorem dX2_markDecides_30 : decode cX2_markDecides 30 = .ok (.iload_n 2, 1) := by decide +kernel
theorem dX2_markDecides_31 : decode cX2_markDecides 31 = .ok (.iaload, 1) := by decide +kernel
theorem dX2_markDecides_32 : decode cX2_markDecides 32 = .ok (.iload_n 1, 1) := by decide +kernel
theorem dX2_markDecides_33 : decode cX2_markDecides 33 = .ok (.iload 4, 2) := by decide +kernel
theorem dX2_markDecides_35 : decode cX2_markDecides 35 = .ok (.iconst 1, 1) := by decide +kernel
theorem dX2_markDecides_36 : decode cX2_markDecides 36 = .ok (.if_icmp .ne 7, 3) := by decide +kernel
theorem dX2_markDecides_39 : decode cX2_markDecides 39 = .ok (.iconst 1, 1) := by decide +kernel
theorem dX2_markDecides_40 : decode cX2_markDecides 40 = .ok (.goto 4, 3) := by decide +kernel
theorem dX2_markDecides_43 : decode cX2_markDecides 43 = .ok (.iconst 0, 1) := by decide +kernel
theorem dX2_markDecides_44 : decode cX2_markDecides 44 = .ok (.invokestatic 85, 3) := by decide +kernel
theorem dX2_markDecides_47 : decode cX2_markDecides 47 = .ok (.istore 5, 2) := by decide +kernel
theorem dX2_markDecides_49 : decode cX2_markDecides 49 = .ok (.aload_n 0, 1) := by decide +kernel
theorem dX2_markDecides_50 : decode cX2_markDecides 50 = .ok (.getfield 21, 3) := by decide +kernel
theorem dX2_markDecides_53 : decode cX2_markDecides 53 = .ok (.iload_n 2, 1) := by decide +kernel
theorem dX2_markDecides_54 : decode cX2_markDecides 54 = .ok (.iaload, 1) := by decide +kernel
theorem dX2_markDecides_55 : decode cX2_markDecides 55 = .ok (.iload_n 1, 1) := by decide +kernel
theorem dX2_markDecides_56 : decode cX2_markDecides 56 = .ok (.iload 4, 2) := by decide +kernel
theorem dX2_markDecides_58 : decode cX2_markDecides 58 = .ok (.iconst 2, 1) := by decide +kernel
theorem dX2_markDecides_59 : decode cX2_markDecides 59 = .ok (.if_icmp .ne 7, 3) := by decide +kernel
theorem dX2_markDecides_62 : decode cX2_markDecides 62 = .ok (.iconst 1, 1) := by decide +kernel
theorem dX2_markDecides_63 : decode cX2_markDecides 63 = .ok (.goto 4, 3) := by decide +kernel
theorem dX2_markDecides_66 : decode cX2_markDecides 66 = .ok (.iconst 0, 1) := by decide +kernel
theorem dX2_markDecides_67 : decode cX2_markDecides 67 = .ok (.invokestatic 85, 3) := by decide +kernel
theorem dX2_markDecides_70 : decode cX2_markDecides 70 = .ok (.istore 6, 2) := by decide +kernel
end
section
theorem dX2_markDecides_72 : decode cX2_markDecides 72 = .ok (.aload_n 0, 1) := by decide +kernel
theorem dX2_markDecides_73 : decode cX2_markDecides 73 = .ok (.iload 5, 2) := by decide +kernel
theorem dX2_markDecides_75 : decode cX2_markDecides 75 = .ok (.iload 6, 2) := by decide +kernel
theorem dX2_markDecides_77 : decode cX2_markDecides 77 = .ok (.invokevirtual 113, 3) := by decide +kernel
theorem dX2_markDecides_80 : decode cX2_markDecides 80 = .ok (.iload_n 3, 1) := by decide +kernel
theorem dX2_markDecides_81 : decode cX2_markDecides 81 = .ok (.if_icmp .eq 5, 3) := by decide +kernel
theorem dX2_markDecides_84 : decode cX2_markDecides 84 = .ok (.iconst 1, 1) := by decide +kernel
theorem dX2_markDecides_85 : decode cX2_markDecides 85 = .ok (.ireturn, 1) := by decide +kernel
theorem dX2_markDecides_86 : decode cX2_markDecides 86 = .ok (.iinc 4 1, 3) := by decide +kernel
theorem dX2_markDecides_89 : decode cX2_markDecides 89 = .ok (.goto (-69), 3) := by decide +kernel
theorem dX2_markDecides_92 : decode cX2_markDecides 92 = .ok (.iconst 0, 1) := by decide +kernel
theorem dX2_markDecides_93 : decode cX2_markDecides 93 = .ok (.ireturn, 1) := by decide +kernel
theorem dX2_framesThatAre_0 : decode cX2_framesThatAre 0 = .ok (.iconst 0, 1) := by decide +kernel
theorem dX2_framesThatAre_1 : decode cX2_framesThatAre 1 = .ok (.istore_n 2, 1) := by decide +kernel
theorem dX2_framesThatAre_2 : decode cX2_framesThatAre 2 = .ok (.iconst 0, 1) := by decide +kernel
theorem dX2_framesThatAre_3 : decode cX2_framesThatAre 3 = .ok (.istore_n 3, 1) := by decide +kernel
theorem dX2_framesThatAre_4 : decode cX2_framesThatAre 4 = .ok (.iload_n 3, 1) := by decide +kernel
theorem dX2_framesThatAre_5 : decode cX2_framesThatAre 5 = .ok (.bipush 30, 2) := by decide +kernel
theorem dX2_framesThatAre_7 : decode cX2_framesThatAre 7 = .ok (.if_icmp .ge 27, 3) := by decide +kernel
theorem dX2_framesThatAre_10 : decode cX2_framesThatAre 10 = .ok (.iload_n 2, 1) := by decide +kernel
theorem dX2_framesThatAre_11 : decode cX2_framesThatAre 11 = .ok (.aload_n 0, 1) := by decide +kernel
theorem dX2_framesThatAre_12 : decode cX2_framesThatAre 12 = .ok (.getfield 15, 3) := by decide +kernel
theorem dX2_framesThatAre_15 : decode cX2_framesThatAre 15 = .ok (.iload_n 3, 1) := by decide +kernel
theorem dX2_framesThatAre_16 : decode cX2_framesThatAre 16 = .ok (.iaload, 1) := by decide +kernel
theorem dX2_framesThatAre_17 : decode cX2_framesThatAre 17 = .ok (.iload_n 1, 1) := by decide +kernel
theorem dX2_framesThatAre_18 : decode cX2_framesThatAre 18 = .ok (.if_icmp .ne 7, 3) := by decide +kernel
theorem dX2_framesThatAre_21 : decode cX2_framesThatAre 21 = .ok (.iconst 1, 1) := by decide +kernel
theorem dX2_framesThatAre_22 : decode cX2_framesThatAre 22 = .ok (.goto 4, 3) := by decide +kernel
theorem dX2_framesThatAre_25 : decode cX2_framesThatAre 25 = .ok (.iconst 0, 1) := by decide +kernel
theorem dX2_framesThatAre_26 : decode cX2_framesThatAre 26 = .ok (.iadd, 1) := by decide +kernel
theorem dX2_framesThatAre_27 : decode cX2_framesThatAre 27 = .ok (.istore_n 2, 1) := by decide +kernel
theorem dX2_framesThatAre_28 : decode cX2_framesThatAre 28 = .ok (.iinc 3 1, 3) := by decide +kernel
theorem dX2_framesThatAre_31 : decode cX2_framesThatAre 31 = .ok (.goto (-27), 3) := by decide +kernel
theorem dX2_framesThatAre_34 : decode cX2_framesThatAre 34 = .ok (.iload_n 2, 1) := by decide +kernel
theorem dX2_framesThatAre_35 : decode cX2_framesThatAre 35 = .ok (.ireturn, 1) := by decide +kernel
theorem dX2_framesThatBecome_0 : decode cX2_framesThatBecome 0 = .ok (.iconst 0, 1) := by decide +kernel
theorem dX2_framesThatBecome_1 : decode cX2_framesThatBecome 1 = .ok (.istore_n 2, 1) := by decide +kernel
theorem dX2_framesThatBecome_2 : decode cX2_framesThatBecome 2 = .ok (.iconst 0, 1) := by decide +kernel
theorem dX2_framesThatBecome_3 : decode cX2_framesThatBecome 3 = .ok (.istore_n 3, 1) := by decide +kernel
theorem dX2_framesThatBecome_4 : decode cX2_framesThatBecome 4 = .ok (.iload_n 3, 1) := by decide +kernel
theorem dX2_framesThatBecome_5 : decode cX2_framesThatBecome 5 = .ok (.bipush 30, 2) := by decide +kernel
theorem dX2_framesThatBecome_7 : decode cX2_framesThatBecome 7 = .ok (.if_icmp .ge 35, 3) := by decide +kernel
theorem dX2_framesThatBecome_10 : decode cX2_framesThatBecome 10 = .ok (.iload_n 2, 1) := by decide +kernel
theorem dX2_framesThatBecome_11 : decode cX2_framesThatBecome 11 = .ok (.aload_n 0, 1) := by decide +kernel
theorem dX2_framesThatBecome_12 : decode cX2_framesThatBecome 12 = .ok (.getfield 15, 3) := by decide +kernel
theorem dX2_framesThatBecome_15 : decode cX2_framesThatBecome 15 = .ok (.iload_n 3, 1) := by decide +kernel
theorem dX2_framesThatBecome_16 : decode cX2_framesThatBecome 16 = .ok (.iaload, 1) := by decide +kernel
theorem dX2_framesThatBecome_17 : decode cX2_framesThatBecome 17 = .ok (.ifCond .ne 16, 3) := by decide +kernel
theorem dX2_framesThatBecome_20 : decode cX2_framesThatBecome 20 = .ok (.aload_n 0, 1) := by decide +kernel
theorem dX2_framesThatBecome_21 : decode cX2_framesThatBecome 21 = .ok (.iload_n 3, 1) := by decide +kernel
theorem dX2_framesThatBecome_22 : decode cX2_framesThatBecome 22 = .ok (.invokevirtual 123, 3) := by decide +kernel
theorem dX2_framesThatBecome_25 : decode cX2_framesThatBecome 25 = .ok (.iload_n 1, 1) := by decide +kernel
theorem dX2_framesThatBecome_26 : decode cX2_framesThatBecome 26 = .ok (.if_icmp .ne 7, 3) := by decide +kernel
theorem dX2_framesThatBecome_29 : decode cX2_framesThatBecome 29 = .ok (.iconst 1, 1) := by decide +kernel
theorem dX2_framesThatBecome_30 : decode cX2_framesThatBecome 30 = .ok (.goto 4, 3) := by decide +kernel
theorem dX2_framesThatBecome_33 : decode cX2_framesThatBecome 33 = .ok (.iconst 0, 1) := by decide +kernel
theorem dX2_framesThatBecome_34 : decode cX2_framesThatBecome 34 = .ok (.iadd, 1) := by decide +kernel
theorem dX2_framesThatBecome_35 : decode cX2_framesThatBecome 35 = .ok (.istore_n 2, 1) := by decide +kernel
theorem dX2_framesThatBecome_36 : decode cX2_framesThatBecome 36 = .ok (.iinc 3 1, 3) := by decide +kernel
theorem dX2_framesThatBecome_39 : decode cX2_framesThatBecome 39 = .ok (.goto (-35), 3) := by decide +kernel
theorem dX2_framesThatBecome_42 : decode cX2_framesThatBecome 42 = .ok (.iload_n 2, 1) := by decide +kernel
theorem dX2_framesThatBecome_43 : decode cX2_framesThatBecome 43 = .ok (.ireturn, 1) := by decide +kernel
theorem dX2_longestRow_0 : decode cX2_longestRow 0 = .ok (.iconst 0, 1) := by decide +kernel
theorem dX2_longestRow_1 : decode cX2_longestRow 1 = .ok (.istore_n 1, 1) := by decide +kernel
theorem dX2_longestRow_2 : decode cX2_longestRow 2 = .ok (.iconst 0, 1) := by decide +kernel
theorem dX2_longestRow_3 : decode cX2_longestRow 3 = .ok (.istore_n 2, 1) := by decide +kernel
theorem dX2_longestRow_4 : decode cX2_longestRow 4 = .ok (.iconst 0, 1) := by decide +kernel
theorem dX2_longestRow_5 : decode cX2_longestRow 5 = .ok (.istore_n 3, 1) := by decide +kernel
theorem dX2_longestRow_6 : decode cX2_longestRow 6 = .ok (.iload_n 3, 1) := by decide +kernel
theorem dX2_longestRow_7 : decode cX2_longestRow 7 = .ok (.bipush 30, 2) := by decide +kernel
theorem dX2_longestRow_9 : decode cX2_longestRow 9 = .ok (.if_icmp .ge 40, 3) := by decide +kernel
theorem dX2_longestRow_12 : decode cX2_longestRow 12 = .ok (.iload_n 3, 1) := by decide +kernel
theorem dX2_longestRow_13 : decode cX2_longestRow 13 = .ok (.bipush 6, 2) := by decide +kernel
theorem dX2_longestRow_15 : decode cX2_longestRow 15 = .ok (.irem, 1) := by decide +kernel
theorem dX2_longestRow_16 : decode cX2_longestRow 16 = .ok (.ifCond .ne 5, 3) := by decide +kernel
theorem dX2_longestRow_19 : decode cX2_longestRow 19 = .ok (.iconst 0, 1) := by decide +kernel
theorem dX2_longestRow_20 : decode cX2_longestRow 20 = .ok (.istore_n 2, 1) := by decide +kernel
theorem dX2_longestRow_21 : decode cX2_longestRow 21 = .ok (.aload_n 0, 1) := by decide +kernel
theorem dX2_longestRow_22 : decode cX2_longestRow 22 = .ok (.iload_n 3, 1) := by decide +kernel
theorem dX2_longestRow_23 : decode cX2_longestRow 23 = .ok (.invokevirtual 103, 3) := by decide +kernel
theorem dX2_longestRow_26 : decode cX2_longestRow 26 = .ok (.ifCond .eq 9, 3) := by decide +kernel
theorem dX2_longestRow_29 : decode cX2_longestRow 29 = .ok (.iload_n 2, 1) := by decide +kernel
theorem dX2_longestRow_30 : decode cX2_longestRow 30 = .ok (.iconst 1, 1) := by decide +kernel
theorem dX2_longestRow_31 : decode cX2_longestRow 31 = .ok (.iadd, 1) := by decide +kernel
theorem dX2_longestRow_32 : decode cX2_longestRow 32 = .ok (.goto 4, 3) := by decide +kernel
theorem dX2_longestRow_35 : decode cX2_longestRow 35 = .ok (.iconst 0, 1) := by decide +kernel
theorem dX2_longestRow_36 : decode cX2_longestRow 36 = .ok (.istore_n 2, 1) := by decide +kernel
theorem dX2_longestRow_37 : decode cX2_longestRow 37 = .ok (.iload_n 1, 1) := by decide +kernel
theorem dX2_longestRow_38 : decode cX2_longestRow 38 = .ok (.iload_n 2, 1) := by decide +kernel
theorem dX2_longestRow_39 : decode cX2_longestRow 39 = .ok (.invokestatic 138, 3) := by decide +kernel
theorem dX2_longestRow_42 : decode cX2_longestRow 42 = .ok (.istore_n 1, 1) := by decide +kernel
theorem dX2_longestRow_43 : decode cX2_longestRow 43 = .ok (.iinc 3 1, 3) := by decide +kernel
theorem dX2_longestRow_46 : decode cX2_longestRow 46 = .ok (.goto (-40), 3) := by decide +kernel
theorem dX2_longestRow_49 : decode cX2_longestRow 49 = .ok (.iload_n 1, 1) := by decide +kernel
theorem dX2_longestRow_50 : decode cX2_longestRow 50 = .ok (.ireturn, 1) := by decide +kernel
theorem dX2_marksOf_0 : decode cX2_marksOf 0 = .ok (.iconst 0, 1) := by decide +kernel
theorem dX2_marksOf_1 : decode cX2_marksOf 1 = .ok (.istore_n 3, 1) := by decide +kernel
theorem dX2_marksOf_2 : decode cX2_marksOf 2 = .ok (.iconst 0, 1) := by decide +kernel
theorem dX2_marksOf_3 : decode cX2_marksOf 3 = .ok (.istore 4, 2) := by decide +kernel
theorem dX2_marksOf_5 : decode cX2_marksOf 5 = .ok (.iload 4, 2) := by decide +kernel
theorem dX2_marksOf_7 : decode cX2_marksOf 7 = .ok (.bipush 30, 2) := by decide +kernel
theorem dX2_marksOf_9 : decode cX2_marksOf 9 = .ok (.if_icmp .ge 28, 3) := by decide +kernel
theorem dX2_marksOf_12 : decode cX2_marksOf 12 = .ok (.iload_n 3, 1) := by decide +kernel
theorem dX2_marksOf_13 : decode cX2_marksOf 13 = .ok (.aload_n 0, 1) := by decide +kernel
theorem dX2_marksOf_14 : decode cX2_marksOf 14 = .ok (.iload_n 1, 1) := by decide +kernel
theorem dX2_marksOf_15 : decode cX2_marksOf 15 = .ok (.iload 4, 2) := by decide +kernel
theorem dX2_marksOf_17 : decode cX2_marksOf 17 = .ok (.invokevirtual 77, 3) := by decide +kernel
theorem dX2_marksOf_20 : decode cX2_marksOf 20 = .ok (.iload_n 2, 1) := by decide +kernel
theorem dX2_marksOf_21 : decode cX2_marksOf 21 = .ok (.if_icmp .ne 7, 3) := by decide +kernel
theorem dX2_marksOf_24 : decode cX2_marksOf 24 = .ok (.iconst 1, 1) := by decide +kernel
theorem dX2_marksOf_25 : decode cX2_marksOf 25 = .ok (.goto 4, 3) := by decide +kernel
theorem dX2_marksOf_28 : decode cX2_marksOf 28 = .ok (.iconst 0, 1) := by decide +kernel
theorem dX2_marksOf_29 : decode cX2_marksOf 29 = .ok (.iadd, 1) := by decide +kernel
theorem dX2_marksOf_30 : decode cX2_marksOf 30 = .ok (.istore_n 3, 1) := by decide +kernel
theorem dX2_marksOf_31 : decode cX2_marksOf 31 = .ok (.iinc 4 1, 3) := by decide +kernel
theorem dX2_marksOf_34 : decode cX2_marksOf 34 = .ok (.goto (-29), 3) := by decide +kernel
theorem dX2_marksOf_37 : decode cX2_marksOf 37 = .ok (.iload_n 3, 1) := by decide +kernel
theorem dX2_marksOf_38 : decode cX2_marksOf 38 = .ok (.ireturn, 1) := by decide +kernel
theorem dX2_vetoesLeft_0 : decode cX2_vetoesLeft 0 = .ok (.aload_n 0, 1) := by decide +kernel
theorem dX2_vetoesLeft_1 : decode cX2_vetoesLeft 1 = .ok (.getfield 11, 3) := by decide +kernel
theorem dX2_vetoesLeft_4 : decode cX2_vetoesLeft 4 = .ok (.iconst 1, 1) := by decide +kernel
theorem dX2_vetoesLeft_5 : decode cX2_vetoesLeft 5 = .ok (.iaload, 1) := by decide +kernel
theorem dX2_vetoesLeft_6 : decode cX2_vetoesLeft 6 = .ok (.aload_n 0, 1) := by decide +kernel
theorem dX2_vetoesLeft_7 : decode cX2_vetoesLeft 7 = .ok (.iload_n 1, 1) := by decide +kernel
theorem dX2_vetoesLeft_8 : decode cX2_vetoesLeft 8 = .ok (.iconst 2, 1) := by decide +kernel
theorem dX2_vetoesLeft_9 : decode cX2_vetoesLeft 9 = .ok (.invokevirtual 100, 3) := by decide +kernel
theorem dX2_vetoesLeft_12 : decode cX2_vetoesLeft 12 = .ok (.isub, 1) := by decide +kernel
theorem dX2_vetoesLeft_13 : decode cX2_vetoesLeft 13 = .ok (.iconst 0, 1) := by decide +kernel
theorem dX2_vetoesLeft_14 : decode cX2_vetoesLeft 14 = .ok (.invokestatic 138, 3) := by decide +kernel
theorem dX2_vetoesLeft_17 : decode cX2_vetoesLeft 17 = .ok (.ireturn, 1) := by decide +kernel
theorem dX2_markOf_0 : decode cX2_markOf 0 = .ok (.iconst 1, 1) := by decide +kernel
theorem dX2_markOf_1 : decode cX2_markOf 1 = .ok (.iload_n 1, 1) := by decide +kernel
theorem dX2_markOf_2 : decode cX2_markOf 2 = .ok (.ishl, 1) := by decide +kernel
theorem dX2_markOf_3 : decode cX2_markOf 3 = .ok (.istore_n 3, 1) := by decide +kernel
theorem dX2_markOf_4 : decode cX2_markOf 4 = .ok (.aload_n 0, 1) := by decide +kernel
theorem dX2_markOf_5 : decode cX2_markOf 5 = .ok (.getfield 18, 3) := by decide +kernel
theorem dX2_markOf_8 : decode cX2_markOf 8 = .ok (.iload_n 2, 1) := by decide +kernel
theorem dX2_markOf_9 : decode cX2_markOf 9 = .ok (.iaload, 1) := by decide +kernel
theorem dX2_markOf_10 : decode cX2_markOf 10 = .ok (.iload_n 3, 1) := by decide +kernel
theorem dX2_markOf_11 : decode cX2_markOf 11 = .ok (.iand, 1) := by decide +kernel
theorem dX2_markOf_12 : decode cX2_markOf 12 = .ok (.ifCond .eq 5, 3) := by decide +kernel
theorem dX2_markOf_15 : decode cX2_markOf 15 = .ok (.iconst 1, 1) := by decide +kernel
theorem dX2_markOf_16 : decode cX2_markOf 16 = .ok (.ireturn, 1) := by decide +kernel
theorem dX2_markOf_17 : decode cX2_markOf 17 = .ok (.aload_n 0, 1) := by decide +kernel
theorem dX2_markOf_18 : decode cX2_markOf 18 = .ok (.getfield 21, 3) := by decide +kernel
theorem dX2_markOf_21 : decode cX2_markOf 21 = .ok (.iload_n 2, 1) := by decide +kernel
theorem dX2_markOf_22 : decode cX2_markOf 22 = .ok (.iaload, 1) := by decide +kernel
theorem dX2_markOf_23 : decode cX2_markOf 23 = .ok (.iload_n 3, 1) := by decide +kernel
theorem dX2_markOf_24 : decode cX2_markOf 24 = .ok (.iand, 1) := by decide +kernel
theorem dX2_markOf_25 : decode cX2_markOf 25 = .ok (.ifCond .eq 7, 3) := by decide +kernel
theorem dX2_markOf_28 : decode cX2_markOf 28 = .ok (.iconst 2, 1) := by decide +kernel
theorem dX2_markOf_29 : decode cX2_markOf 29 = .ok (.goto 4, 3) := by decide +kernel
theorem dX2_markOf_32 : decode cX2_markOf 32 = .ok (.iconst 0, 1) := by decide +kernel
theorem dX2_markOf_33 : decode cX2_markOf 33 = .ok (.ireturn, 1) := by decide +kernel
theorem dX2_isPicked_0 : decode cX2_isPicked 0 = .ok (.aload_n 0, 1) := by decide +kernel
theorem dX2_isPicked_1 : decode cX2_isPicked 1 = .ok (.getfield 15, 3) := by decide +kernel
theorem dX2_isPicked_4 : decode cX2_isPicked 4 = .ok (.iload_n 1, 1) := by decide +kernel
theorem dX2_isPicked_5 : decode cX2_isPicked 5 = .ok (.iaload, 1) := by decide +kernel
theorem dX2_isPicked_6 : decode cX2_isPicked 6 = .ok (.iconst 1, 1) := by decide +kernel
theorem dX2_isPicked_7 : decode cX2_isPicked 7 = .ok (.if_icmp .eq 13, 3) := by decide +kernel
theorem dX2_isPicked_10 : decode cX2_isPicked 10 = .ok (.aload_n 0, 1) := by decide +kernel
theorem dX2_isPicked_11 : decode cX2_isPicked 11 = .ok (.getfield 15, 3) := by decide +kernel
theorem dX2_isPicked_14 : decode cX2_isPicked 14 = .ok (.iload_n 1, 1) := by decide +kernel
theorem dX2_isPicked_15 : decode cX2_isPicked 15 = .ok (.iaload, 1) := by decide +kernel
theorem dX2_isPicked_16 : decode cX2_isPicked 16 = .ok (.iconst 3, 1) := by decide +kernel
theorem dX2_isPicked_17 : decode cX2_isPicked 17 = .ok (.if_icmp .ne 7, 3) := by decide +kernel
theorem dX2_isPicked_20 : decode cX2_isPicked 20 = .ok (.iconst 1, 1) := by decide +kernel
theorem dX2_isPicked_21 : decode cX2_isPicked 21 = .ok (.goto 4, 3) := by decide +kernel
theorem dX2_isPicked_24 : decode cX2_isPicked 24 = .ok (.iconst 0, 1) := by decide +kernel
theorem dX2_isPicked_25 : decode cX2_isPicked 25 = .ok (.ireturn, 1) := by decide +kernel
theorem dX2_withEditor_0 : decode cX2_withEditor 0 = .ok (.iconst 1, 1) := by decide +kernel
theorem dX2_withEditor_1 : decode cX2_withEditor 1 = .ok (.iload_n 1, 1) := by decide +kernel
theorem dX2_withEditor_2 : decode cX2_withEditor 2 = .ok (.ishl, 1) := by decide +kernel
theorem dX2_withEditor_3 : decode cX2_withEditor 3 = .ok (.istore_n 3, 1) := by decide +kernel
theorem dX2_withEditor_4 : decode cX2_withEditor 4 = .ok (.iload_n 2, 1) := by decide +kernel
theorem dX2_withEditor_5 : decode cX2_withEditor 5 = .ok (.ifCond .eq 9, 3) := by decide +kernel
theorem dX2_withEditor_8 : decode cX2_withEditor 8 = .ok (.iload_n 0, 1) := by decide +kernel
theorem dX2_withEditor_9 : decode cX2_withEditor 9 = .ok (.iload_n 3, 1) := by decide +kernel
theorem dX2_withEditor_10 : decode cX2_withEditor 10 = .ok (.ior, 1) := by decide +kernel
theorem dX2_withEditor_11 : decode cX2_withEditor 11 = .ok (.goto 8, 3) := by decide +kernel
theorem dX2_withEditor_14 : decode cX2_withEditor 14 = .ok (.iload_n 0, 1) := by decide +kernel
theorem dX2_withEditor_15 : decode cX2_withEditor 15 = .ok (.iload_n 3, 1) := by decide +kernel
theorem dX2_withEditor_16 : decode cX2_withEditor 16 = .ok (.iconst (-1), 1) := by decide +kernel
theorem dX2_withEditor_17 : decode cX2_withEditor 17 = .ok (.ixor, 1) := by decide +kernel
theorem dX2_withEditor_18 : decode cX2_withEditor 18 = .ok (.iand, 1) := by decide +kernel
theorem dX2_withEditor_19 : decode cX2_withEditor 19 = .ok (.ireturn, 1) := by decide +kernel
theorem dX2_paperOf_0 : decode cX2_paperOf 0 = .ok (.bipush 10, 2) := by decide +kernel
theorem dX2_paperOf_2 : decode cX2_paperOf 2 = .ok (.iload_n 0, 1) := by decide +kernel
theorem dX2_paperOf_3 : decode cX2_paperOf 3 = .ok (.imul, 1) := by decide +kernel
theorem dX2_paperOf_4 : decode cX2_paperOf 4 = .ok (.iload_n 0, 1) := by decide +kernel
theorem dX2_paperOf_5 : decode cX2_paperOf 5 = .ok (.imul, 1) := by decide +kernel
theorem dX2_paperOf_6 : decode cX2_paperOf 6 = .ok (.ireturn, 1) := by decide +kernel
theorem dX2_isFrame_0 : decode cX2_isFrame 0 = .ok (.iload_n 0, 1) := by decide +kernel
theorem dX2_isFrame_1 : decode cX2_isFrame 1 = .ok (.ifCond .lt 13, 3) := by decide +kernel
theorem dX2_isFrame_4 : decode cX2_isFrame 4 = .ok (.iload_n 0, 1) := by decide +kernel
theorem dX2_isFrame_5 : decode cX2_isFrame 5 = .ok (.bipush 30, 2) := by decide +kernel
theorem dX2_isFrame_7 : decode cX2_isFrame 7 = .ok (.if_icmp .ge 7, 3) := by decide +kernel
theorem dX2_isFrame_10 : decode cX2_isFrame 10 = .ok (.iconst 1, 1) := by decide +kernel
theorem dX2_isFrame_11 : decode cX2_isFrame 11 = .ok (.goto 4, 3) := by decide +kernel
theorem dX2_isFrame_14 : decode cX2_isFrame 14 = .ok (.iconst 0, 1) := by decide +kernel
theorem dX2_isFrame_15 : decode cX2_isFrame 15 = .ok (.ireturn, 1) := by decide +kernel
theorem dX2_isEditor_0 : decode cX2_isEditor 0 = .ok (.iload_n 0, 1) := by decide +kernel
theorem dX2_isEditor_1 : decode cX2_isEditor 1 = .ok (.ifCond .lt 12, 3) := by decide +kernel
theorem dX2_isEditor_4 : decode cX2_isEditor 4 = .ok (.iload_n 0, 1) := by decide +kernel
theorem dX2_isEditor_5 : decode cX2_isEditor 5 = .ok (.iconst 3, 1) := by decide +kernel
theorem dX2_isEditor_6 : decode cX2_isEditor 6 = .ok (.if_icmp .ge 7, 3) := by decide +kernel
theorem dX2_isEditor_9 : decode cX2_isEditor 9 = .ok (.iconst 1, 1) := by decide +kernel
theorem dX2_isEditor_10 : decode cX2_isEditor 10 = .ok (.goto 4, 3) := by decide +kernel
theorem dX2_isEditor_13 : decode cX2_isEditor 13 = .ok (.iconst 0, 1) := by decide +kernel
theorem dX2_isEditor_14 : decode cX2_isEditor 14 = .ok (.ireturn, 1) := by decide +kernel
end
section
/-! ===== each method: its class and its parameters ===== -/
theorem hd_X0_init : yX0_init.cls ≠ "java/lang/invoke/MethodHandle" ∧ yX0_init.cls ≠ "java/lang/invoke/VarHandle" ∧ (parseMethodDescriptor yX0_init.desc).map (fun d => d.parameters.length) = some 0 := by decide +kernel
theorem hd_X0_note : yX0_note.cls = RX0 ∧ yX0_note.cls ≠ "java/lang/invoke/MethodHandle" ∧ yX0_note.cls ≠ "java/lang/invoke/VarHandle" ∧ (parseMethodDescriptor yX0_note.desc).map (fun d => d.parameters.length) = some 1 := by decide +kernel
theorem hd_X0_keep : yX0_keep.cls = RX0 ∧ yX0_keep.cls ≠ "java/lang/invoke/MethodHandle" ∧ yX0_keep.cls ≠ "java/lang/invoke/VarHandle" ∧ (parseMethodDescriptor yX0_keep.desc).map (fun d => d.parameters.length) = some 0 := by decide +kernel
theorem hd_X0_bringBack : yX0_bringBack.cls = RX0 ∧ yX0_bringBack.cls ≠ "java/lang/invoke/MethodHandle" ∧ yX0_bringBack.cls ≠ "java/lang/invoke/VarHandle" ∧ (parseMethodDescriptor yX0_bringBack.desc).map (fun d => d.parameters.length) = some 1 := by decide +kernel
theorem hd_X1_init : yX1_init.cls ≠ "java/lang/invoke/MethodHandle" ∧ yX1_init.cls ≠ "java/lang/invoke/VarHandle" ∧ (parseMethodDescriptor yX1_init.desc).map (fun d => d.parameters.length) = some 0 := by decide +kernel
theorem hd_X1_append : yX1_append.cls = RX1 ∧ yX1_append.cls ≠ "java/lang/invoke/MethodHandle" ∧ yX1_append.cls ≠ "java/lang/invoke/VarHandle" ∧ (parseMethodDescriptor yX1_append.desc).map (fun d => d.parameters.length) = some 1 := by decide +kernel
theorem hd_X1_empty : yX1_empty.cls = RX1 ∧ yX1_empty.cls ≠ "java/lang/invoke/MethodHandle" ∧ yX1_empty.cls ≠ "java/lang/invoke/VarHandle" ∧ (parseMethodDescriptor yX1_empty.desc).map (fun d => d.parameters.length) = some 0 := by decide +kernel
theorem hd_X1_charactersIn : yX1_charactersIn.cls ≠ "java/lang/invoke/MethodHandle" ∧ yX1_charactersIn.cls ≠ "java/lang/invoke/VarHandle" ∧ (parseMethodDescriptor yX1_charactersIn.desc).map (fun d => d.parameters.length) = some 1 := by decide +kernel
theorem hd_X1_faultAt : yX1_faultAt.cls = RX1 ∧ yX1_faultAt.cls ≠ "java/lang/invoke/MethodHandle" ∧ yX1_faultAt.cls ≠ "java/lang/invoke/VarHandle" ∧ (parseMethodDescriptor yX1_faultAt.desc).map (fun d => d.parameters.length) = some 0 := by decide +kernel
theorem hd_X1_rewind : yX1_rewind.cls = RX1 ∧ yX1_rewind.cls ≠ "java/lang/invoke/MethodHandle" ∧ yX1_rewind.cls ≠ "java/lang/invoke/VarHandle" ∧ (parseMethodDescriptor yX1_rewind.desc).map (fun d => d.parameters.length) = some 0 := by decide +kernel
theorem hd_X1_nextOrder : yX1_nextOrder.cls = RX1 ∧ yX1_nextOrder.cls ≠ "java/lang/invoke/MethodHandle" ∧ yX1_nextOrder.cls ≠ "java/lang/invoke/VarHandle" ∧ (parseMethodDescriptor yX1_nextOrder.desc).map (fun d => d.parameters.length) = some 0 := by decide +kernel
theorem hd_X1_takeOrder : yX1_takeOrder.cls = RX1 ∧ yX1_takeOrder.cls ≠ "java/lang/invoke/MethodHandle" ∧ yX1_takeOrder.cls ≠ "java/lang/invoke/VarHandle" ∧ (parseMethodDescriptor yX1_takeOrder.desc).map (fun d => d.parameters.length) = some 0 := by decide +kernel
theorem hd_X1_takeEditor : yX1_takeEditor.cls = RX1 ∧ yX1_takeEditor.cls ≠ "java/lang/invoke/MethodHandle" ∧ yX1_takeEditor.cls ≠ "java/lang/invoke/VarHandle" ∧ (parseMethodDescriptor yX1_takeEditor.desc).map (fun d => d.parameters.length) = some 0 := by decide +kernel
theorem hd_X1_takeOther : yX1_takeOther.cls = RX1 ∧ yX1_takeOther.cls ≠ "java/lang/invoke/MethodHandle" ∧ yX1_takeOther.cls ≠ "java/lang/invoke/VarHandle" ∧ (parseMethodDescriptor yX1_takeOther.desc).map (fun d => d.parameters.length) = some 0 := by decide +kernel
theorem hd_X1_takeSize : yX1_takeSize.cls = RX1 ∧ yX1_takeSize.cls ≠ "java/lang/invoke/MethodHandle" ∧ yX1_takeSize.cls ≠ "java/lang/invoke/VarHandle" ∧ (parseMethodDescriptor yX1_takeSize.desc).map (fun d => d.parameters.length) = some 0 := by decide +kernel
theorem hd_X1_takeNumber : yX1_takeNumber.cls = RX1 ∧ yX1_takeNumber.cls ≠ "java/lang/invoke/MethodHandle" ∧ yX1_takeNumber.cls ≠ "java/lang/invoke/VarHandle" ∧ (parseMethodDescriptor yX1_takeNumber.desc).map (fun d => d.parameters.length) = some 0 := by decide +kernel
theorem hd_X1_take : yX1_take.cls = RX1 ∧ yX1_take.cls ≠ "java/lang/invoke/MethodHandle" ∧ yX1_take.cls ≠ "java/lang/invoke/VarHandle" ∧ (parseMethodDescriptor yX1_take.desc).map (fun d => d.parameters.length) = some 1 := by decide +kernel
theorem hd_X1_pass : yX1_pass.cls = RX1 ∧ yX1_pass.cls ≠ "java/lang/invoke/MethodHandle" ∧ yX1_pass.cls ≠ "java/lang/invoke/VarHandle" ∧ (parseMethodDescriptor yX1_pass.desc).map (fun d => d.parameters.length) = some 1 := by decide +kernel
theorem hd_X1_digitHere : yX1_digitHere.cls = RX1 ∧ yX1_digitHere.cls ≠ "java/lang/invoke/MethodHandle" ∧ yX1_digitHere.cls ≠ "java/lang/invoke/VarHandle" ∧ (parseMethodDescriptor yX1_digitHere.desc).map (fun d => d.parameters.length) = some 0 := by decide +kernel
theorem hd_X1_here : yX1_here.cls = RX1 ∧ yX1_here.cls ≠ "java/lang/invoke/MethodHandle" ∧ yX1_here.cls ≠ "java/lang/invoke/VarHandle" ∧ (parseMethodDescriptor yX1_here.desc).map (fun d => d.parameters.length) = some 0 := by decide +kernel
theorem hd_X2_init : yX2_init.cls ≠ "java/lang/invoke/MethodHandle" ∧ yX2_init.cls ≠ "java/lang/invoke/VarHandle" ∧ (parseMethodDescriptor yX2_init.desc).map (fun d => d.parameters.length) = some 0 := by decide +kernel
theorem hd_X2_takeOver : yX2_takeOver.cls = RX2 ∧ yX2_takeOver.cls ≠ "java/lang/invoke/MethodHandle" ∧ yX2_takeOver.cls ≠ "java/lang/invoke/VarHandle" ∧ (parseMethodDescriptor yX2_takeOver.desc).map (fun d => d.parameters.length) = some 1 := by decide +kernel
theorem hd_X2_changeSetting : yX2_changeSetting.cls = RX2 ∧ yX2_changeSetting.cls ≠ "java/lang/invoke/MethodHandle" ∧ yX2_changeSetting.cls ≠ "java/lang/invoke/VarHandle" ∧ (parseMethodDescriptor yX2_changeSetting.desc).map (fun d => d.parameters.length) = some 2 := by decide +kernel
theorem hd_X2_putMark : yX2_putMark.cls = RX2 ∧ yX2_putMark.cls ≠ "java/lang/invoke/MethodHandle" ∧ yX2_putMark.cls ≠ "java/lang/invoke/VarHandle" ∧ (parseMethodDescriptor yX2_putMark.desc).map (fun d => d.parameters.length) = some 3 := by decide +kernel
theorem hd_X2_argueAgainst : yX2_argueAgainst.cls = RX2 ∧ yX2_argueAgainst.cls ≠ "java/lang/invoke/MethodHandle" ∧ yX2_argueAgainst.cls ≠ "java/lang/invoke/VarHandle" ∧ (parseMethodDescriptor yX2_argueAgainst.desc).map (fun d => d.parameters.length) = some 3 := by decide +kernel
theorem hd_X2_endRound : yX2_endRound.cls = RX2 ∧ yX2_endRound.cls ≠ "java/lang/invoke/MethodHandle" ∧ yX2_endRound.cls ≠ "java/lang/invoke/VarHandle" ∧ (parseMethodDescriptor yX2_endRound.desc).map (fun d => d.parameters.length) = some 0 := by decide +kernel
theorem hd_X2_printFrame : yX2_printFrame.cls = RX2 ∧ yX2_printFrame.cls ≠ "java/lang/invoke/MethodHandle" ∧ yX2_printFrame.cls ≠ "java/lang/invoke/VarHandle" ∧ (parseMethodDescriptor yX2_printFrame.desc).map (fun d => d.parameters.length) = some 2 := by decide +kernel
theorem hd_X2_addPaper : yX2_addPaper.cls = RX2 ∧ yX2_addPaper.cls ≠ "java/lang/invoke/MethodHandle" ∧ yX2_addPaper.cls ≠ "java/lang/invoke/VarHandle" ∧ (parseMethodDescriptor yX2_addPaper.desc).map (fun d => d.parameters.length) = some 1 := by decide +kernel
theorem hd_X2_openAgain : yX2_openAgain.cls = RX2 ∧ yX2_openAgain.cls ≠ "java/lang/invoke/MethodHandle" ∧ yX2_openAgain.cls ≠ "java/lang/invoke/VarHandle" ∧ (parseMethodDescriptor yX2_openAgain.desc).map (fun d => d.parameters.length) = some 1 := by decide +kernel
theorem hd_X2_aboutFrame : yX2_aboutFrame.cls = RX2 ∧ yX2_aboutFrame.cls ≠ "java/lang/invoke/MethodHandle" ∧ yX2_aboutFrame.cls ≠ "java/lang/invoke/VarHandle" ∧ (parseMethodDescriptor yX2_aboutFrame.desc).map (fun d => d.parameters.length) = some 2 := by decide +kernel
theorem hd_X2_aboutEditor : yX2_aboutEditor.cls = RX2 ∧ yX2_aboutEditor.cls ≠ "java/lang/invoke/MethodHandle" ∧ yX2_aboutEditor.cls ≠ "java/lang/invoke/VarHandle" ∧ (parseMethodDescriptor yX2_aboutEditor.desc).map (fun d => d.parameters.length) = some 2 := by decide +kernel
theorem hd_X2_chosenAt : yX2_chosenAt.cls = RX2 ∧ yX2_chosenAt.cls ≠ "java/lang/invoke/MethodHandle" ∧ yX2_chosenAt.cls ≠ "java/lang/invoke/VarHandle" ∧ (parseMethodDescriptor yX2_chosenAt.desc).map (fun d => d.parameters.length) = some 1 := by decide +kernel
theorem hd_X2_numberOf : yX2_numberOf.cls = RX2 ∧ yX2_numberOf.cls ≠ "java/lang/invoke/MethodHandle" ∧ yX2_numberOf.cls ≠ "java/lang/invoke/VarHandle" ∧ (parseMethodDescriptor yX2_numberOf.desc).map (fun d => d.parameters.length) = some 1 := by decide +kernel
theorem hd_X2_whyNotChosen : yX2_whyNotChosen.cls = RX2 ∧ yX2_whyNotChosen.cls ≠ "java/lang/invoke/MethodHandle" ∧ yX2_whyNotChosen.cls ≠ "java/lang/invoke/VarHandle" ∧ (parseMethodDescriptor yX2_whyNotChosen.desc).map (fun d => d.parameters.length) = some 1 := by decide +kernel
theorem hd_X2_roundWouldBring : yX2_roundWouldBring.cls = RX2 ∧ yX2_roundWouldBring.cls ≠ "java/lang/invoke/MethodHandle" ∧ yX2_roundWouldBring.cls ≠ "java/lang/invoke/VarHandle" ∧ (parseMethodDescriptor yX2_roundWouldBring.desc).map (fun d => d.parameters.length) = some 1 := by decide +kernel
theorem hd_X2_deciders : yX2_deciders.cls = RX2 ∧ yX2_deciders.cls ≠ "java/lang/invoke/MethodHandle" ∧ yX2_deciders.cls ≠ "java/lang/invoke/VarHandle" ∧ (parseMethodDescriptor yX2_deciders.desc).map (fun d => d.parameters.length) = some 1 := by decide +kernel
theorem hd_X2_agreement : yX2_agreement.cls = RX2 ∧ yX2_agreement.cls ≠ "java/lang/invoke/MethodHandle" ∧ yX2_agreement.cls ≠ "java/lang/invoke/VarHandle" ∧ (parseMethodDescriptor yX2_agreement.desc).map (fun d => d.parameters.length) = some 2 := by decide +kernel
theorem hd_X2_paperForChosen : yX2_paperForChosen.cls = RX2 ∧ yX2_paperForChosen.cls ≠ "java/lang/invoke/MethodHandle" ∧ yX2_paperForChosen.cls ≠ "java/lang/invoke/VarHandle" ∧ (parseMethodDescriptor yX2_paperForChosen.desc).map (fun d => d.parameters.length) = some 0 := by decide +kernel
theorem hd_X2_settle : yX2_settle.cls = RX2 ∧ yX2_settle.cls ≠ "java/lang/invoke/MethodHandle" ∧ yX2_settle.cls ≠ "java/lang/invoke/VarHandle" ∧ (parseMethodDescriptor yX2_settle.desc).map (fun d => d.parameters.length) = some 1 := by decide +kernel
theorem hd_X2_noteChoice : yX2_noteChoice.cls = RX2 ∧ yX2_noteChoice.cls ≠ "java/lang/invoke/MethodHandle" ∧ yX2_noteChoice.cls ≠ "java/lang/invoke/VarHandle" ∧ (parseMethodDescriptor yX2_noteChoice.desc).map (fun d => d.parameters.length) = some 1 := by decide +kernel
theorem hd_X2_afterRound : yX2_afterRound.cls = RX2 ∧ yX2_afterRound.cls ≠ "java/lang/invoke/MethodHandle" ∧ yX2_afterRound.cls ≠ "java/lang/invoke/VarHandle" ∧ (parseMethodDescriptor yX2_afterRound.desc).map (fun d => d.parameters.length) = some 1 := by decide +kernel
theorem hd_X2_dullAfterRound : yX2_dullAfterRound.cls = RX2 ∧ yX2_dullAfterRound.cls ≠ "java/lang/invoke/MethodHandle" ∧ yX2_dullAfterRound.cls ≠ "java/lang/invoke/VarHandle" ∧ (parseMethodDescriptor yX2_dullAfterRound.desc).map (fun d => d.parameters.length) = some 1 := by decide +kernel
theorem hd_X2_isWanted : yX2_isWanted.cls = RX2 ∧ yX2_isWanted.cls ≠ "java/lang/invoke/MethodHandle" ∧ yX2_isWanted.cls ≠ "java/lang/invoke/VarHandle" ∧ (parseMethodDescriptor yX2_isWanted.desc).map (fun d => d.parameters.length) = some 2 := by decide +kernel
theorem hd_X2_markDecides : yX2_markDecides.cls = RX2 ∧ yX2_markDecides.cls ≠ "java/lang/invoke/MethodHandle" ∧ yX2_markDecides.cls ≠ "java/lang/invoke/VarHandle" ∧ (parseMethodDescriptor yX2_markDecides.desc).map (fun d => d.parameters.length) = some 2 := by decide +kernel
theorem hd_X2_framesThatAre : yX2_framesThatAre.cls = RX2 ∧ yX2_framesThatAre.cls ≠ "java/lang/invoke/MethodHandle" ∧ yX2_framesThatAre.cls ≠ "java/lang/invoke/VarHandle" ∧ (parseMethodDescriptor yX2_framesThatAre.desc).map (fun d => d.parameters.length) = some 1 := by decide +kernel
theorem hd_X2_framesThatBecome : yX2_framesThatBecome.cls = RX2 ∧ yX2_framesThatBecome.cls ≠ "java/lang/invoke/MethodHandle" ∧ yX2_framesThatBecome.cls ≠ "java/lang/invoke/VarHandle" ∧ (parseMethodDescriptor yX2_framesThatBecome.desc).map (fun d => d.parameters.length) = some 1 := by decide +kernel
theorem hd_X2_longestRow : yX2_longestRow.cls = RX2 ∧ yX2_longestRow.cls ≠ "java/lang/invoke/MethodHandle" ∧ yX2_longestRow.cls ≠ "java/lang/invoke/VarHandle" ∧ (parseMethodDescriptor yX2_longestRow.desc).map (fun d => d.parameters.length) = some 0 := by decide +kernel
theorem hd_X2_marksOf : yX2_marksOf.cls = RX2 ∧ yX2_marksOf.cls ≠ "java/lang/invoke/MethodHandle" ∧ yX2_marksOf.cls ≠ "java/lang/invoke/VarHandle" ∧ (parseMethodDescriptor yX2_marksOf.desc).map (fun d => d.parameters.length) = some 2 := by decide +kernel
theorem hd_X2_vetoesLeft : yX2_vetoesLeft.cls = RX2 ∧ yX2_vetoesLeft.cls ≠ "java/lang/invoke/MethodHandle" ∧ yX2_vetoesLeft.cls ≠ "java/lang/invoke/VarHandle" ∧ (parseMethodDescriptor yX2_vetoesLeft.desc).map (fun d => d.parameters.length) = some 1 := by decide +kernel
theorem hd_X2_markOf : yX2_markOf.cls = RX2 ∧ yX2_markOf.cls ≠ "java/lang/invoke/MethodHandle" ∧ yX2_markOf.cls ≠ "java/lang/invoke/VarHandle" ∧ (parseMethodDescriptor yX2_markOf.desc).map (fun d => d.parameters.length) = some 2 := by decide +kernel
theorem hd_X2_isPicked : yX2_isPicked.cls = RX2 ∧ yX2_isPicked.cls ≠ "java/lang/invoke/MethodHandle" ∧ yX2_isPicked.cls ≠ "java/lang/invoke/VarHandle" ∧ (parseMethodDescriptor yX2_isPicked.desc).map (fun d => d.parameters.length) = some 1 := by decide +kernel
theorem hd_X2_withEditor : yX2_withEditor.cls ≠ "java/lang/invoke/MethodHandle" ∧ yX2_withEditor.cls ≠ "java/lang/invoke/VarHandle" ∧ (parseMethodDescriptor yX2_withEditor.desc).map (fun d => d.parameters.length) = some 3 := by decide +kernel
theorem hd_X2_paperOf : yX2_paperOf.cls ≠ "java/lang/invoke/MethodHandle" ∧ yX2_paperOf.cls ≠ "java/lang/invoke/VarHandle" ∧ (parseMethodDescriptor yX2_paperOf.desc).map (fun d => d.parameters.length) = some 1 := by decide +kernel
theorem hd_X2_isFrame : yX2_isFrame.cls ≠ "java/lang/invoke/MethodHandle" ∧ yX2_isFrame.cls ≠ "java/lang/invoke/VarHandle" ∧ (parseMethodDescriptor yX2_isFrame.desc).map (fun d => d.parameters.length) = some 1 := by decide +kernel
theorem hd_X2_isEditor : yX2_isEditor.cls ≠ "java/lang/invoke/MethodHandle" ∧ yX2_isEditor.cls ≠ "java/lang/invoke/VarHandle" ∧ (parseMethodDescriptor yX2_isEditor.desc).map (fun d => d.parameters.length) = some 1 := by decide +kernel
theorem hd_X3_init : yX3_init.cls ≠ "java/lang/invoke/MethodHandle" ∧ yX3_init.cls ≠ "java/lang/invoke/VarHandle" ∧ (parseMethodDescriptor yX3_init.desc).map (fun d => d.parameters.length) = some 0 := by decide +kernel
theorem hd_X3_set : yX3_set.cls = RX3 ∧ yX3_set.cls ≠ "java/lang/invoke/MethodHandle" ∧ yX3_set.cls ≠ "java/lang/invoke/VarHandle" ∧ (parseMethodDescriptor yX3_set.desc).map (fun d => d.parameters.length) = some 2 := by decide +kernel
theorem hd_X3_mark : yX3_mark.cls = RX3 ∧ yX3_mark.cls ≠ "java/lang/invoke/MethodHandle" ∧ yX3_mark.cls ≠ "java/lang/invoke/VarHandle" ∧ (parseMethodDescriptor yX3_mark.desc).map (fun d => d.parameters.length) = some 3 := by decide +kernel
theorem hd_X3_argue : yX3_argue.cls = RX3 ∧ yX3_argue.cls ≠ "java/lang/invoke/MethodHandle" ∧ yX3_argue.cls ≠ "java/lang/invoke/VarHandle" ∧ (parseMethodDescriptor yX3_argue.desc).map (fun d => d.parameters.length) = some 3 := by decide +kernel
theorem hd_X3_round : yX3_round.cls = RX3 ∧ yX3_round.cls ≠ "java/lang/invoke/MethodHandle" ∧ yX3_round.cls ≠ "java/lang/invoke/VarHandle" ∧ (parseMethodDescriptor yX3_round.desc).map (fun d => d.parameters.length) = some 0 := by decide +kernel
theorem hd_X3_print : yX3_print.cls = RX3 ∧ yX3_print.cls ≠ "java/lang/invoke/MethodHandle" ∧ yX3_print.cls ≠ "java/lang/invoke/VarHandle" ∧ (parseMethodDescriptor yX3_print.desc).map (fun d => d.parameters.length) = some 2 := by decide +kernel
theorem hd_X3_buy : yX3_buy.cls = RX3 ∧ yX3_buy.cls ≠ "java/lang/invoke/MethodHandle" ∧ yX3_buy.cls ≠ "java/lang/invoke/VarHandle" ∧ (parseMethodDescriptor yX3_buy.desc).map (fun d => d.parameters.length) = some 1 := by decide +kernel
theorem hd_X3_reopen : yX3_reopen.cls = RX3 ∧ yX3_reopen.cls ≠ "java/lang/invoke/MethodHandle" ∧ yX3_reopen.cls ≠ "java/lang/invoke/VarHandle" ∧ (parseMethodDescriptor yX3_reopen.desc).map (fun d => d.parameters.length) = some 1 := by decide +kernel
theorem hd_X3_of : yX3_of.cls = RX3 ∧ yX3_of.cls ≠ "java/lang/invoke/MethodHandle" ∧ yX3_of.cls ≠ "java/lang/invoke/VarHandle" ∧ (parseMethodDescriptor yX3_of.desc).map (fun d => d.parameters.length) = some 2 := by decide +kernel
theorem hd_X3_editor : yX3_editor.cls = RX3 ∧ yX3_editor.cls ≠ "java/lang/invoke/MethodHandle" ∧ yX3_editor.cls ≠ "java/lang/invoke/VarHandle" ∧ (parseMethodDescriptor yX3_editor.desc).map (fun d => d.parameters.length) = some 2 := by decide +kernel
theorem hd_X3_chosen : yX3_chosen.cls = RX3 ∧ yX3_chosen.cls ≠ "java/lang/invoke/MethodHandle" ∧ yX3_chosen.cls ≠ "java/lang/invoke/VarHandle" ∧ (parseMethodDescriptor yX3_chosen.desc).map (fun d => d.parameters.length) = some 1 := by decide +kernel
theorem hd_X3_count : yX3_count.cls = RX3 ∧ yX3_count.cls ≠ "java/lang/invoke/MethodHandle" ∧ yX3_count.cls ≠ "java/lang/invoke/VarHandle" ∧ (parseMethodDescriptor yX3_count.desc).map (fun d => d.parameters.length) = some 1 := by decide +kernel
theorem hd_X3_why : yX3_why.cls = RX3 ∧ yX3_why.cls ≠ "java/lang/invoke/MethodHandle" ∧ yX3_why.cls ≠ "java/lang/invoke/VarHandle" ∧ (parseMethodDescriptor yX3_why.desc).map (fun d => d.parameters.length) = some 1 := by decide +kernel
theorem hd_X3_ifRound : yX3_ifRound.cls = RX3 ∧ yX3_ifRound.cls ≠ "java/lang/invoke/MethodHandle" ∧ yX3_ifRound.cls ≠ "java/lang/invoke/VarHandle" ∧ (parseMethodDescriptor yX3_ifRound.desc).map (fun d => d.parameters.length) = some 1 := by decide +kernel
theorem hd_X3_decides : yX3_decides.cls = RX3 ∧ yX3_decides.cls ≠ "java/lang/invoke/MethodHandle" ∧ yX3_decides.cls ≠ "java/lang/invoke/VarHandle" ∧ (parseMethodDescriptor yX3_decides.desc).map (fun d => d.parameters.length) = some 1 := by decide +kernel
theorem hd_X3_agree : yX3_agree.cls = RX3 ∧ yX3_agree.cls ≠ "java/lang/invoke/MethodHandle" ∧ yX3_agree.cls ≠ "java/lang/invoke/VarHandle" ∧ (parseMethodDescriptor yX3_agree.desc).map (fun d => d.parameters.length) = some 2 := by decide +kernel
theorem hd_X3_paperFor : yX3_paperFor.cls = RX3 ∧ yX3_paperFor.cls ≠ "java/lang/invoke/MethodHandle" ∧ yX3_paperFor.cls ≠ "java/lang/invoke/VarHandle" ∧ (parseMethodDescriptor yX3_paperFor.desc).map (fun d => d.parameters.length) = some 0 := by decide +kernel
theorem hd_X3_put : yX3_put.cls = RX3 ∧ yX3_put.cls ≠ "java/lang/invoke/MethodHandle" ∧ yX3_put.cls ≠ "java/lang/invoke/VarHandle" ∧ (parseMethodDescriptor yX3_put.desc).map (fun d => d.parameters.length) = some 1 := by decide +kernel
theorem hd_X3_wipe : yX3_wipe.cls = RX3 ∧ yX3_wipe.cls ≠ "java/lang/invoke/MethodHandle" ∧ yX3_wipe.cls ≠ "java/lang/invoke/VarHandle" ∧ (parseMethodDescriptor yX3_wipe.desc).map (fun d => d.parameters.length) = some 0 := by decide +kernel
theorem hd_X3_fault : yX3_fault.cls = RX3 ∧ yX3_fault.cls ≠ "java/lang/invoke/MethodHandle" ∧ yX3_fault.cls ≠ "java/lang/invoke/VarHandle" ∧ (parseMethodDescriptor yX3_fault.desc).map (fun d => d.parameters.length) = some 0 := by decide +kernel
theorem hd_X3_carryOut : yX3_carryOut.cls = RX3 ∧ yX3_carryOut.cls ≠ "java/lang/invoke/MethodHandle" ∧ yX3_carryOut.cls ≠ "java/lang/invoke/VarHandle" ∧ (parseMethodDescriptor yX3_carryOut.desc).map (fun d => d.parameters.length) = some 0 := by decide +kernel
theorem hd_X3_undo : yX3_undo.cls = RX3 ∧ yX3_undo.cls ≠ "java/lang/invoke/MethodHandle" ∧ yX3_undo.cls ≠ "java/lang/invoke/VarHandle" ∧ (parseMethodDescriptor yX3_undo.desc).map (fun d => d.parameters.length) = some 0 := by decide +kernel
theorem hd_X3_save : yX3_save.cls = RX3 ∧ yX3_save.cls ≠ "java/lang/invoke/MethodHandle" ∧ yX3_save.cls ≠ "java/lang/invoke/VarHandle" ∧ (parseMethodDescriptor yX3_save.desc).map (fun d => d.parameters.length) = some 1 := by decide +kernel
theorem hd_X3_restore : yX3_restore.cls = RX3 ∧ yX3_restore.cls ≠ "java/lang/invoke/MethodHandle" ∧ yX3_restore.cls ≠ "java/lang/invoke/VarHandle" ∧ (parseMethodDescriptor yX3_restore.desc).map (fun d => d.parameters.length) = some 1 := by decide +kernel
theorem hd_X3_recorded : yX3_recorded.cls = RX3 ∧ yX3_recorded.cls ≠ "java/lang/invoke/MethodHandle" ∧ yX3_recorded.cls ≠ "java/lang/invoke/VarHandle" ∧ (parseMethodDescriptor yX3_recorded.desc).map (fun d => d.parameters.length) = some 1 := by decide +kernel
theorem hd_X3_carryOrders : yX3_carryOrders.cls = RX3 ∧ yX3_carryOrders.cls ≠ "java/lang/invoke/MethodHandle" ∧ yX3_carryOrders.cls ≠ "java/lang/invoke/VarHandle" ∧ (parseMethodDescriptor yX3_carryOrders.desc).map (fun d => d.parameters.length) = some 0 := by decide +kernel
theorem hd_X3_obey : yX3_obey.cls = RX3 ∧ yX3_obey.cls ≠ "java/lang/invoke/MethodHandle" ∧ yX3_obey.cls ≠ "java/lang/invoke/VarHandle" ∧ (parseMethodDescriptor yX3_obey.desc).map (fun d => d.parameters.length) = some 0 := by decide +kernel
theorem hd_X3_isSlot : yX3_isSlot.cls ≠ "java/lang/invoke/MethodHandle" ∧ yX3_isSlot.cls ≠ "java/lang/invoke/VarHandle" ∧ (parseMethodDescriptor yX3_isSlot.desc).map (fun d => d.parameters.length) = some 1 := by decide +kernel
theorem hd_X4_init : yX4_init.cls ≠ "java/lang/invoke/MethodHandle" ∧ yX4_init.cls ≠ "java/lang/invoke/VarHandle" ∧ (parseMethodDescriptor yX4_init.desc).map (fun d => d.parameters.length) = some 0 := by decide +kernel
theorem hd_X4_in : yX4_in.cls ≠ "java/lang/invoke/MethodHandle" ∧ yX4_in.cls ≠ "java/lang/invoke/VarHandle" ∧ (parseMethodDescriptor yX4_in.desc).map (fun d => d.parameters.length) = some 3 := by decide +kernel
theorem hd_X4_isFrame : yX4_isFrame.cls ≠ "java/lang/invoke/MethodHandle" ∧ yX4_isFrame.cls ≠ "java/lang/invoke/VarHandle" ∧ (parseMethodDescriptor yX4_isFrame.desc).map (fun d => d.parameters.length) = some 1 := by decide +kernel
theorem hd_X4_isEditor : yX4_isEditor.cls ≠ "java/lang/invoke/MethodHandle" ∧ yX4_isEditor.cls ≠ "java/lang/invoke/VarHandle" ∧ (parseMethodDescriptor yX4_isEditor.desc).map (fun d => d.parameters.length) = some 1 := by decide +kernel
theorem hd_X4_at : yX4_at.cls ≠ "java/lang/invoke/MethodHandle" ∧ yX4_at.cls ≠ "java/lang/invoke/VarHandle" ∧ (parseMethodDescriptor yX4_at.desc).map (fun d => d.parameters.length) = some 2 := by decide +kernel
theorem hd_X4_of3 : yX4_of3.cls ≠ "java/lang/invoke/MethodHandle" ∧ yX4_of3.cls ≠ "java/lang/invoke/VarHandle" ∧ (parseMethodDescriptor yX4_of3.desc).map (fun d => d.parameters.length) = some 2 := by decide +kernel
theorem hd_X4_remembers : yX4_remembers.cls = RX4 ∧ yX4_remembers.cls ≠ "java/lang/invoke/MethodHandle" ∧ yX4_remembers.cls ≠ "java/lang/invoke/VarHandle" ∧ (parseMethodDescriptor yX4_remembers.desc).map (fun d => d.parameters.length) = some 0 := by decide +kernel
theorem hd_X4_power : yX4_power.cls ≠ "java/lang/invoke/MethodHandle" ∧ yX4_power.cls ≠ "java/lang/invoke/VarHandle" ∧ (parseMethodDescriptor yX4_power.desc).map (fun d => d.parameters.length) = some 1 := by decide +kernel
theorem hd_X4_markOf : yX4_markOf.cls = RX4 ∧ yX4_markOf.cls ≠ "java/lang/invoke/MethodHandle" ∧ yX4_markOf.cls ≠ "java/lang/invoke/VarHandle" ∧ (parseMethodDescriptor yX4_markOf.desc).map (fun d => d.parameters.length) = some 2 := by decide +kernel
theorem hd_X4_marks : yX4_marks.cls = RX4 ∧ yX4_marks.cls ≠ "java/lang/invoke/MethodHandle" ∧ yX4_marks.cls ≠ "java/lang/invoke/VarHandle" ∧ (parseMethodDescriptor yX4_marks.desc).map (fun d => d.parameters.length) = some 3 := by decide +kernel
theorem hd_X4_withMark : yX4_withMark.cls = RX4 ∧ yX4_withMark.cls ≠ "java/lang/invoke/MethodHandle" ∧ yX4_withMark.cls ≠ "java/lang/invoke/VarHandle" ∧ (parseMethodDescriptor yX4_withMark.desc).map (fun d => d.parameters.length) = some 2 := by decide +kernel
theorem hd_X4_ones : yX4_ones.cls ≠ "java/lang/invoke/MethodHandle" ∧ yX4_ones.cls ≠ "java/lang/invoke/VarHandle" ∧ (parseMethodDescriptor yX4_ones.desc).map (fun d => d.parameters.length) = some 1 := by decide +kernel
theorem hd_X4_marked : yX4_marked.cls = RX4 ∧ yX4_marked.cls ≠ "java/lang/invoke/MethodHandle" ∧ yX4_marked.cls ≠ "java/lang/invoke/VarHandle" ∧ (parseMethodDescriptor yX4_marked.desc).map (fun d => d.parameters.length) = some 2 := by decide +kernel
theorem hd_X4_isOpen : yX4_isOpen.cls = RX4 ∧ yX4_isOpen.cls ≠ "java/lang/invoke/MethodHandle" ∧ yX4_isOpen.cls ≠ "java/lang/invoke/VarHandle" ∧ (parseMethodDescriptor yX4_isOpen.desc).map (fun d => d.parameters.length) = some 1 := by decide +kernel
theorem hd_X4_whyNotMark : yX4_whyNotMark.cls = RX4 ∧ yX4_whyNotMark.cls ≠ "java/lang/invoke/MethodHandle" ∧ yX4_whyNotMark.cls ≠ "java/lang/invoke/VarHandle" ∧ (parseMethodDescriptor yX4_whyNotMark.desc).map (fun d => d.parameters.length) = some 3 := by decide +kernel
theorem hd_X4_mark : yX4_mark.cls = RX4 ∧ yX4_mark.cls ≠ "java/lang/invoke/MethodHandle" ∧ yX4_mark.cls ≠ "java/lang/invoke/VarHandle" ∧ (parseMethodDescriptor yX4_mark.desc).map (fun d => d.parameters.length) = some 3 := by decide +kernel
theorem hd_X4_whyNotArgue : yX4_whyNotArgue.cls = RX4 ∧ yX4_whyNotArgue.cls ≠ "java/lang/invoke/MethodHandle" ∧ yX4_whyNotArgue.cls ≠ "java/lang/invoke/VarHandle" ∧ (parseMethodDescriptor yX4_whyNotArgue.desc).map (fun d => d.parameters.length) = some 3 := by decide +kernel
theorem hd_X4_argues : yX4_argues.cls = RX4 ∧ yX4_argues.cls ≠ "java/lang/invoke/MethodHandle" ∧ yX4_argues.cls ≠ "java/lang/invoke/VarHandle" ∧ (parseMethodDescriptor yX4_argues.desc).map (fun d => d.parameters.length) = some 3 := by decide +kernel
theorem hd_X4_argue : yX4_argue.cls = RX4 ∧ yX4_argue.cls ≠ "java/lang/invoke/MethodHandle" ∧ yX4_argue.cls ≠ "java/lang/invoke/VarHandle" ∧ (parseMethodDescriptor yX4_argue.desc).map (fun d => d.parameters.length) = some 3 := by decide +kernel
theorem hd_X4_then : yX4_then.cls = RX4 ∧ yX4_then.cls ≠ "java/lang/invoke/MethodHandle" ∧ yX4_then.cls ≠ "java/lang/invoke/VarHandle" ∧ (parseMethodDescriptor yX4_then.desc).map (fun d => d.parameters.length) = some 1 := by decide +kernel
theorem hd_X4_judges : yX4_judges.cls = RX4 ∧ yX4_judges.cls ≠ "java/lang/invoke/MethodHandle" ∧ yX4_judges.cls ≠ "java/lang/invoke/VarHandle" ∧ (parseMethodDescriptor yX4_judges.desc).map (fun d => d.parameters.length) = some 1 := by decide +kernel
theorem hd_X4_rounds : yX4_rounds.cls = RX4 ∧ yX4_rounds.cls ≠ "java/lang/invoke/MethodHandle" ∧ yX4_rounds.cls ≠ "java/lang/invoke/VarHandle" ∧ (parseMethodDescriptor yX4_rounds.desc).map (fun d => d.parameters.length) = some 0 := by decide +kernel
theorem hd_X4_round : yX4_round.cls = RX4 ∧ yX4_round.cls ≠ "java/lang/invoke/MethodHandle" ∧ yX4_round.cls ≠ "java/lang/invoke/VarHandle" ∧ (parseMethodDescriptor yX4_round.desc).map (fun d => d.parameters.length) = some 0 := by decide +kernel
theorem hd_X4_paperOf : yX4_paperOf.cls ≠ "java/lang/invoke/MethodHandle" ∧ yX4_paperOf.cls ≠ "java/lang/invoke/VarHandle" ∧ (parseMethodDescriptor yX4_paperOf.desc).map (fun d => d.parameters.length) = some 1 := by decide +kernel
theorem hd_X4_whyNotPrint : yX4_whyNotPrint.cls = RX4 ∧ yX4_whyNotPrint.cls ≠ "java/lang/invoke/MethodHandle" ∧ yX4_whyNotPrint.cls ≠ "java/lang/invoke/VarHandle" ∧ (parseMethodDescriptor yX4_whyNotPrint.desc).map (fun d => d.parameters.length) = some 2 := by decide +kernel
theorem hd_X4_prints : yX4_prints.cls = RX4 ∧ yX4_prints.cls ≠ "java/lang/invoke/MethodHandle" ∧ yX4_prints.cls ≠ "java/lang/invoke/VarHandle" ∧ (parseMethodDescriptor yX4_prints.desc).map (fun d => d.parameters.length) = some 2 := by decide +kernel
theorem hd_X4_print : yX4_print.cls = RX4 ∧ yX4_print.cls ≠ "java/lang/invoke/MethodHandle" ∧ yX4_print.cls ≠ "java/lang/invoke/VarHandle" ∧ (parseMethodDescriptor yX4_print.desc).map (fun d => d.parameters.length) = some 2 := by decide +kernel
theorem hd_X4_buys : yX4_buys.cls = RX4 ∧ yX4_buys.cls ≠ "java/lang/invoke/MethodHandle" ∧ yX4_buys.cls ≠ "java/lang/invoke/VarHandle" ∧ (parseMethodDescriptor yX4_buys.desc).map (fun d => d.parameters.length) = some 1 := by decide +kernel
theorem hd_X4_buy : yX4_buy.cls = RX4 ∧ yX4_buy.cls ≠ "java/lang/invoke/MethodHandle" ∧ yX4_buy.cls ≠ "java/lang/invoke/VarHandle" ∧ (parseMethodDescriptor yX4_buy.desc).map (fun d => d.parameters.length) = some 1 := by decide +kernel
theorem hd_X4_reopen : yX4_reopen.cls = RX4 ∧ yX4_reopen.cls ≠ "java/lang/invoke/MethodHandle" ∧ yX4_reopen.cls ≠ "java/lang/invoke/VarHandle" ∧ (parseMethodDescriptor yX4_reopen.desc).map (fun d => d.parameters.length) = some 1 := by decide +kernel
theorem hd_X4_canSet : yX4_canSet.cls ≠ "java/lang/invoke/MethodHandle" ∧ yX4_canSet.cls ≠ "java/lang/invoke/VarHandle" ∧ (parseMethodDescriptor yX4_canSet.desc).map (fun d => d.parameters.length) = some 2 := by decide +kernel
theorem hd_X4_set : yX4_set.cls = RX4 ∧ yX4_set.cls ≠ "java/lang/invoke/MethodHandle" ∧ yX4_set.cls ≠ "java/lang/invoke/VarHandle" ∧ (parseMethodDescriptor yX4_set.desc).map (fun d => d.parameters.length) = some 2 := by decide +kernel
theorem hd_X4_of : yX4_of.cls = RX4 ∧ yX4_of.cls ≠ "java/lang/invoke/MethodHandle" ∧ yX4_of.cls ≠ "java/lang/invoke/VarHandle" ∧ (parseMethodDescriptor yX4_of.desc).map (fun d => d.parameters.length) = some 2 := by decide +kernel
theorem hd_X4_vetoesLeft : yX4_vetoesLeft.cls = RX4 ∧ yX4_vetoesLeft.cls ≠ "java/lang/invoke/MethodHandle" ∧ yX4_vetoesLeft.cls ≠ "java/lang/invoke/VarHandle" ∧ (parseMethodDescriptor yX4_vetoesLeft.desc).map (fun d => d.parameters.length) = some 1 := by decide +kernel
theorem hd_X4_editor : yX4_editor.cls = RX4 ∧ yX4_editor.cls ≠ "java/lang/invoke/MethodHandle" ∧ yX4_editor.cls ≠ "java/lang/invoke/VarHandle" ∧ (parseMethodDescriptor yX4_editor.desc).map (fun d => d.parameters.length) = some 2 := by decide +kernel
theorem hd_X4_isTaken : yX4_isTaken.cls = RX4 ∧ yX4_isTaken.cls ≠ "java/lang/invoke/MethodHandle" ∧ yX4_isTaken.cls ≠ "java/lang/invoke/VarHandle" ∧ (parseMethodDescriptor yX4_isTaken.desc).map (fun d => d.parameters.length) = some 1 := by decide +kernel
theorem hd_X4_ahead : yX4_ahead.cls = RX4 ∧ yX4_ahead.cls ≠ "java/lang/invoke/MethodHandle" ∧ yX4_ahead.cls ≠ "java/lang/invoke/VarHandle" ∧ (parseMethodDescriptor yX4_ahead.desc).map (fun d => d.parameters.length) = some 1 := by decide +kernel
theorem hd_X4_chosen : yX4_chosen.cls = RX4 ∧ yX4_chosen.cls ≠ "java/lang/invoke/MethodHandle" ∧ yX4_chosen.cls ≠ "java/lang/invoke/VarHandle" ∧ (parseMethodDescriptor yX4_chosen.desc).map (fun d => d.parameters.length) = some 1 := by decide +kernel
theorem hd_X4_howMany : yX4_howMany.cls = RX4 ∧ yX4_howMany.cls ≠ "java/lang/invoke/MethodHandle" ∧ yX4_howMany.cls ≠ "java/lang/invoke/VarHandle" ∧ (parseMethodDescriptor yX4_howMany.desc).map (fun d => d.parameters.length) = some 1 := by decide +kernel
theorem hd_X4_longestRow : yX4_longestRow.cls = RX4 ∧ yX4_longestRow.cls ≠ "java/lang/invoke/MethodHandle" ∧ yX4_longestRow.cls ≠ "java/lang/invoke/VarHandle" ∧ (parseMethodDescriptor yX4_longestRow.desc).map (fun d => d.parameters.length) = some 0 := by decide +kernel
theorem hd_X4_count : yX4_count.cls = RX4 ∧ yX4_count.cls ≠ "java/lang/invoke/MethodHandle" ∧ yX4_count.cls ≠ "java/lang/invoke/VarHandle" ∧ (parseMethodDescriptor yX4_count.desc).map (fun d => d.parameters.length) = some 1 := by decide +kernel
theorem hd_X4_reason : yX4_reason.cls = RX4 ∧ yX4_reason.cls ≠ "java/lang/invoke/MethodHandle" ∧ yX4_reason.cls ≠ "java/lang/invoke/VarHandle" ∧ (parseMethodDescriptor yX4_reason.desc).map (fun d => d.parameters.length) = some 1 := by decide +kernel
theorem hd_X4_why : yX4_why.cls = RX4 ∧ yX4_why.cls ≠ "java/lang/invoke/MethodHandle" ∧ yX4_why.cls ≠ "java/lang/invoke/VarHandle" ∧ (parseMethodDescriptor yX4_why.desc).map (fun d => d.parameters.length) = some 1 := by decide +kernel
theorem hd_X4_ifRound : yX4_ifRound.cls = RX4 ∧ yX4_ifRound.cls ≠ "java/lang/invoke/MethodHandle" ∧ yX4_ifRound.cls ≠ "java/lang/invoke/VarHandle" ∧ (parseMethodDescriptor yX4_ifRound.desc).map (fun d => d.parameters.length) = some 1 := by decide +kernel
theorem hd_X4_matters : yX4_matters.cls = RX4 ∧ yX4_matters.cls ≠ "java/lang/invoke/MethodHandle" ∧ yX4_matters.cls ≠ "java/lang/invoke/VarHandle" ∧ (parseMethodDescriptor yX4_matters.desc).map (fun d => d.parameters.length) = some 2 := by decide +kernel
theorem hd_X4_decides : yX4_decides.cls = RX4 ∧ yX4_decides.cls ≠ "java/lang/invoke/MethodHandle" ∧ yX4_decides.cls ≠ "java/lang/invoke/VarHandle" ∧ (parseMethodDescriptor yX4_decides.desc).map (fun d => d.parameters.length) = some 1 := by decide +kernel
theorem hd_X4_agree : yX4_agree.cls = RX4 ∧ yX4_agree.cls ≠ "java/lang/invoke/MethodHandle" ∧ yX4_agree.cls ≠ "java/lang/invoke/VarHandle" ∧ (parseMethodDescriptor yX4_agree.desc).map (fun d => d.parameters.length) = some 2 := by decide +kernel
theorem hd_X4_paperFor : yX4_paperFor.cls = RX4 ∧ yX4_paperFor.cls ≠ "java/lang/invoke/MethodHandle" ∧ yX4_paperFor.cls ≠ "java/lang/invoke/VarHandle" ∧ (parseMethodDescriptor yX4_paperFor.desc).map (fun d => d.parameters.length) = some 0 := by decide +kernel
theorem hd_X4_put : yX4_put.cls = RX4 ∧ yX4_put.cls ≠ "java/lang/invoke/MethodHandle" ∧ yX4_put.cls ≠ "java/lang/invoke/VarHandle" ∧ (parseMethodDescriptor yX4_put.desc).map (fun d => d.parameters.length) = some 1 := by decide +kernel
theorem hd_X4_wipe : yX4_wipe.cls = RX4 ∧ yX4_wipe.cls ≠ "java/lang/invoke/MethodHandle" ∧ yX4_wipe.cls ≠ "java/lang/invoke/VarHandle" ∧ (parseMethodDescriptor yX4_wipe.desc).map (fun d => d.parameters.length) = some 0 := by decide +kernel
theorem hd_X4_sign : yX4_sign.cls = RX4 ∧ yX4_sign.cls ≠ "java/lang/invoke/MethodHandle" ∧ yX4_sign.cls ≠ "java/lang/invoke/VarHandle" ∧ (parseMethodDescriptor yX4_sign.desc).map (fun d => d.parameters.length) = some 1 := by decide +kernel
theorem hd_X4_digit : yX4_digit.cls = RX4 ∧ yX4_digit.cls ≠ "java/lang/invoke/MethodHandle" ∧ yX4_digit.cls ≠ "java/lang/invoke/VarHandle" ∧ (parseMethodDescriptor yX4_digit.desc).map (fun d => d.parameters.length) = some 1 := by decide +kernel
theorem hd_X4_numberEnd : yX4_numberEnd.cls = RX4 ∧ yX4_numberEnd.cls ≠ "java/lang/invoke/MethodHandle" ∧ yX4_numberEnd.cls ≠ "java/lang/invoke/VarHandle" ∧ (parseMethodDescriptor yX4_numberEnd.desc).map (fun d => d.parameters.length) = some 1 := by decide +kernel
theorem hd_X4_numberAt : yX4_numberAt.cls = RX4 ∧ yX4_numberAt.cls ≠ "java/lang/invoke/MethodHandle" ∧ yX4_numberAt.cls ≠ "java/lang/invoke/VarHandle" ∧ (parseMethodDescriptor yX4_numberAt.desc).map (fun d => d.parameters.length) = some 1 := by decide +kernel
theorem hd_X4_digitEnd : yX4_digitEnd.cls = RX4 ∧ yX4_digitEnd.cls ≠ "java/lang/invoke/MethodHandle" ∧ yX4_digitEnd.cls ≠ "java/lang/invoke/VarHandle" ∧ (parseMethodDescriptor yX4_digitEnd.desc).map (fun d => d.parameters.length) = some 1 := by decide +kernel
theorem hd_X4_behind : yX4_behind.cls = RX4 ∧ yX4_behind.cls ≠ "java/lang/invoke/MethodHandle" ∧ yX4_behind.cls ≠ "java/lang/invoke/VarHandle" ∧ (parseMethodDescriptor yX4_behind.desc).map (fun d => d.parameters.length) = some 2 := by decide +kernel
theorem hd_X4_orderEnd : yX4_orderEnd.cls = RX4 ∧ yX4_orderEnd.cls ≠ "java/lang/invoke/MethodHandle" ∧ yX4_orderEnd.cls ≠ "java/lang/invoke/VarHandle" ∧ (parseMethodDescriptor yX4_orderEnd.desc).map (fun d => d.parameters.length) = some 1 := by decide +kernel
theorem hd_X4_fault : yX4_fault.cls = RX4 ∧ yX4_fault.cls ≠ "java/lang/invoke/MethodHandle" ∧ yX4_fault.cls ≠ "java/lang/invoke/VarHandle" ∧ (parseMethodDescriptor yX4_fault.desc).map (fun d => d.parameters.length) = some 0 := by decide +kernel
theorem hd_X4_markIn : yX4_markIn.cls = RX4 ∧ yX4_markIn.cls ≠ "java/lang/invoke/MethodHandle" ∧ yX4_markIn.cls ≠ "java/lang/invoke/VarHandle" ∧ (parseMethodDescriptor yX4_markIn.desc).map (fun d => d.parameters.length) = some 1 := by decide +kernel
theorem hd_X4_whyNot : yX4_whyNot.cls = RX4 ∧ yX4_whyNot.cls ≠ "java/lang/invoke/MethodHandle" ∧ yX4_whyNot.cls ≠ "java/lang/invoke/VarHandle" ∧ (parseMethodDescriptor yX4_whyNot.desc).map (fun d => d.parameters.length) = some 1 := by decide +kernel
theorem hd_X4_does : yX4_does.cls = RX4 ∧ yX4_does.cls ≠ "java/lang/invoke/MethodHandle" ∧ yX4_does.cls ≠ "java/lang/invoke/VarHandle" ∧ (parseMethodDescriptor yX4_does.desc).map (fun d => d.parameters.length) = some 1 := by decide +kernel
theorem hd_X4_carryOut : yX4_carryOut.cls = RX4 ∧ yX4_carryOut.cls ≠ "java/lang/invoke/MethodHandle" ∧ yX4_carryOut.cls ≠ "java/lang/invoke/VarHandle" ∧ (parseMethodDescriptor yX4_carryOut.desc).map (fun d => d.parameters.length) = some 0 := by decide +kernel
theorem hd_X4_undo : yX4_undo.cls = RX4 ∧ yX4_undo.cls ≠ "java/lang/invoke/MethodHandle" ∧ yX4_undo.cls ≠ "java/lang/invoke/VarHandle" ∧ (parseMethodDescriptor yX4_undo.desc).map (fun d => d.parameters.length) = some 0 := by decide +kernel
theorem hd_X4_save : yX4_save.cls = RX4 ∧ yX4_save.cls ≠ "java/lang/invoke/MethodHandle" ∧ yX4_save.cls ≠ "java/lang/invoke/VarHandle" ∧ (parseMethodDescriptor yX4_save.desc).map (fun d => d.parameters.length) = some 1 := by decide +kernel
theorem hd_X4_restore : yX4_restore.cls = RX4 ∧ yX4_restore.cls ≠ "java/lang/invoke/MethodHandle" ∧ yX4_restore.cls ≠ "java/lang/invoke/VarHandle" ∧ (parseMethodDescriptor yX4_restore.desc).map (fun d => d.parameters.length) = some 1 := by decide +kernel
theorem hd_J6_bitCount_0f7a4 : yJ6_bitCount_0f7a4.cls ≠ "java/lang/invoke/MethodHandle" ∧ yJ6_bitCount_0f7a4.cls ≠ "java/lang/invoke/VarHandle" ∧ (parseMethodDescriptor yJ6_bitCount_0f7a4.desc).map (fun d => d.parameters.length) = some 1 := by decide +kernel
theorem hd_J9_max_7cf53 : yJ9_max_7cf53.cls = RJ9 ∧ yJ9_max_7cf53.cls ≠ "java/lang/invoke/MethodHandle" ∧ yJ9_max_7cf53.cls ≠ "java/lang/invoke/VarHandle" ∧ (parseMethodDescriptor yJ9_max_7cf53.desc).map (fun d => d.parameters.length) = some 2 := by decide +kernel
theorem hd_J9_min_7cf53 : yJ9_min_7cf53.cls = RJ9 ∧ yJ9_min_7cf53.cls ≠ "java/lang/invoke/MethodHandle" ∧ yJ9_min_7cf53.cls ≠ "java/lang/invoke/VarHandle" ∧ (parseMethodDescriptor yJ9_min_7cf53.desc).map (fun d => d.parameters.length) = some 2 := by decide +kernel
end
section
/-! ===== base: derived rows over natural numbers ===== -/
section PMK
variable {p : Program} {l : Launch} {e : Env} {R : Room} {s : State} {m : MethodId} {args : Array Value} {below : List Frame} {meth : Method} {c : Code} {H : Heap} {locs : List Loc} {cells slots : Nat} {Q : State → Prop}
variable {cc : ByteArray} {pc : Nat} {ls : Array Slot} {rest : List Value}
theorem kx_iadd (hx : p.tables.exec = Jvm.exec) (hb : c.code = cc) {a b : Nat} (hdg : decode cc pc = .ok (.iadd, 1)) (k : W p l e R s m args below meth c H locs cells slots Q (F0 m (pc + 1) ls (.int (nI (a + b)) :: rest))) : W p l e R s m args below meth c H locs cells slots Q (F0 m pc ls (.int (nI b) :: .int (nI a) :: rest)) :=
  lv_iadd hx hb hdg (by rw [nI_add]; exact k)
theorem kx_isub (hx : p.tables.exec = Jvm.exec) (hb : c.code = cc) {a b : Nat} (h : b ≤ a) (hdg : decode cc pc = .ok (.isub, 1)) (k : W p l e R s m args below meth c H locs cells slots Q (F0 m (pc + 1) ls (.int (nI (a - b)) :: rest))) : W p l e R s m args below meth c H locs cells slots Q (F0 m pc ls (.int (nI b) :: .int (nI a) :: rest)) :=
  lv_isub hx hb hdg (by rw [pk_sub h]; exact k)
theorem kx_imul (hx : p.tables.exec = Jvm.exec) (hb : c.code = cc) {a b : Nat} (hdg : decode cc pc = .ok (.imul, 1)) (k : W p l e R s m args below meth c H locs cells slots Q (F0 m (pc + 1) ls (.int (nI (a * b)) :: rest))) : W p l e R s m args below meth c H locs cells slots Q (F0 m pc ls (.int (nI b) :: .int (nI a) :: rest)) :=
  lv_imul hx hb hdg (by rw [pk_mul]; exact k)
theorem kx_idiv (hx : p.tables.exec = Jvm.exec) (hb : c.code = cc) {a b : Nat} (ha : a < 2 ^ 31) (h0 : 0 < b) (h2 : b < 2 ^ 31) (hdg : decode cc pc = .ok (.idiv, 1)) (k : W p l e R s m args below meth c H locs cells slots Q (F0 m (pc + 1) ls (.int (nI (a / b)) :: rest))) : W p l e R s m args below meth c H locs cells slots Q (F0 m pc ls (.int (nI b) :: .int (nI a) :: rest)) :=
  lv_idiv hx hb hdg (fun z => nI_ne0 h0 h2 z) (by rw [pk_div ha h0 h2]; exact k)
theorem kx_irem (hx : p.tables.exec = Jvm.exec) (hb : c.code = cc) {a b : Nat} (ha : a < 2 ^ 31) (h0 : 0 < b) (h2 : b < 2 ^ 31) (hdg : decode cc pc = .ok (.irem, 1)) (k : W p l e R s m args below meth c H locs cells slots Q (F0 m (pc + 1) ls (.int (nI (a % b)) :: rest))) : W p l e R s m args below meth c H locs cells slots Q (F0 m pc ls (.int (nI b) :: .int (nI a) :: rest)) :=
  lv_irem hx hb hdg (fun z => nI_ne0 h0 h2 z) (by rw [pk_rem ha h0 h2]; exact k)
theorem kx_icmp_eq (hx : p.tables.exec = Jvm.exec) (hb : c.code = cc) {a b : Nat} (ha : a < 2 ^ 31) (h2 : b < 2 ^ 31) {off : Int} {tgt : Nat} (hdg : decode cc pc = .ok (.if_icmp .eq off, 3)) (ht : (pc : Int) + off = (tgt : Int)) (kt : a = b → W p l e R s m args below meth c H locs cells slots Q (F0 m tgt ls rest)) (kf : ¬ a = b → W p l e R s m args below meth c H locs cells slots Q (F0 m (pc + 3) ls rest)) : W p l e R s m args below meth c H locs cells slots Q (F0 m pc ls (.int (nI b) :: .int (nI a) :: rest)) :=
  lv_icmp_eq hx hb hdg ht (fun z => kt ((nI_eq ha h2).mp z)) (fun z => kf (fun y => z ((nI_eq ha h2).mpr y)))
theorem kx_icmp_ne (hx : p.tables.exec = Jvm.exec) (hb : c.code = cc) {a b : Nat} (ha : a < 2 ^ 31) (h2 : b < 2 ^ 31) {off : Int} {tgt : Nat} (hdg : decode cc pc = .ok (.if_icmp .ne off, 3)) (ht : (pc : Int) + off = (tgt : Int)) (kt : ¬ a = b → W p l e R s m args below meth c H locs cells slots Q (F0 m tgt ls rest)) (kf : a = b → W p l e R s m args below meth c H locs cells slots Q (F0 m (pc + 3) ls rest)) : W p l e R s m args below meth c H locs cells slots Q (F0 m pc ls (.int (nI b) :: .int (nI a) :: rest)) :=
  lv_icmp_ne hx hb hdg ht (fun z => kt (fun y => z ((nI_eq ha h2).mpr y))) (fun z => kf ((nI_eq ha h2).mp z))
theorem kx_icmp_lt (hx : p.tables.exec = Jvm.exec) (hb : c.code = cc) {a b : Nat} (ha : a < 2 ^ 31) (h2 : b < 2 ^ 31) {off : Int} {tgt : Nat} (hdg : decode cc pc = .ok (.if_icmp .lt off, 3)) (ht : (pc : Int) + off = (tgt : Int)) (kt : a < b → W p l e R s m args below meth c H locs cells slots Q (F0 m tgt ls rest)) (kf : ¬ a < b → W p l e R s m args below meth c H locs cells slots Q (F0 m (pc + 3) ls rest)) : W p l e R s m args below meth c H locs cells slots Q (F0 m pc ls (.int (nI b) :: .int (nI a) :: rest)) :=
  lv_icmp_lt hx hb hdg ht (fun z => kt ((nI_ltI ha h2).mp z)) (fun z => kf (fun y => z ((nI_ltI ha h2).mpr y)))
theorem kx_icmp_ge (hx : p.tables.exec = Jvm.exec) (hb : c.code = cc) {a b : Nat} (ha : a < 2 ^ 31) (h2 : b < 2 ^ 31) {off : Int} {tgt : Nat} (hdg : decode cc pc = .ok (.if_icmp .ge off, 3)) (ht : (pc : Int) + off = (tgt : Int)) (kt : b ≤ a → W p l e R s m args below meth c H locs cells slots Q (F0 m tgt ls rest)) (kf : ¬ b ≤ a → W p l e R s m args below meth c H locs cells slots Q (F0 m (pc + 3) ls rest)) : W p l e R s m args below meth c H locs cells slots Q (F0 m pc ls (.int (nI b) :: .int (nI a) :: rest)) :=
  lv_icmp_ge hx hb hdg ht (fun z => kt ((nI_leI h2 ha).mp z)) (fun z => kf (fun y => z ((nI_leI h2 ha).mpr y)))
theorem kx_icmp_gt (hx : p.tables.exec = Jvm.exec) (hb : c.code = cc) {a b : Nat} (ha : a < 2 ^ 31) (h2 : b < 2 ^ 31) {off : Int} {tgt : Nat} (hdg : decode cc pc = .ok (.if_icmp .gt off, 3)) (ht : (pc : Int) + off = (tgt : Int)) (kt : b < a → W p l e R s m args below meth c H locs cells slots Q (F0 m tgt ls rest)) (kf : ¬ b < a → W p l e R s m args below meth c H locs cells slots Q (F0 m (pc + 3) ls rest)) : W p l e R s m args below meth c H locs cells slots Q (F0 m pc ls (.int (nI b) :: .int (nI a) :: rest)) :=
  lv_icmp_gt hx hb hdg ht (fun z => kt ((nI_ltI h2 ha).mp z)) (fun z => kf (fun y => z ((nI_ltI h2 ha).mpr y)))
theorem kx_icmp_le (hx : p.tables.exec = Jvm.exec) (hb : c.code = cc) {a b : Nat} (ha : a < 2 ^ 31) (h2 : b < 2 ^ 31) {off : Int} {tgt : Nat} (hdg : decode cc pc = .ok (.if_icmp .le off, 3)) (ht : (pc : Int) + off = (tgt : Int)) (kt : a ≤ b → W p l e R s m args below meth c H locs cells slots Q (F0 m tgt ls rest)) (kf : ¬ a ≤ b → W p l e R s m args below meth c H locs cells slots Q (F0 m (pc + 3) ls rest)) : W p l e R s m args below meth c H locs cells slots Q (F0 m pc ls (.int (nI b) :: .int (nI a) :: rest)) :=
  lv_icmp_le hx hb hdg ht (fun z => kt ((nI_leI ha h2).mp z)) (fun z => kf (fun y => z ((nI_leI ha h2).mpr y)))
theorem kx_if_eq (hx : p.tables.exec = Jvm.exec) (hb : c.code = cc) {a : Nat} (ha : a < 2 ^ 31) {off : Int} {tgt : Nat} (hdg : decode cc pc = .ok (.ifCond .eq off, 3)) (ht : (pc : Int) + off = (tgt : Int)) (kt : a = 0 → W p l e R s m args below meth c H locs cells slots Q (F0 m tgt ls rest)) (kf : ¬ a = 0 → W p l e R s m args below meth c H locs cells slots Q (F0 m (pc + 3) ls rest)) : W p l e R s m args below meth c H locs cells slots Q (F0 m pc ls (.int (nI a) :: rest)) :=
  lv_if_eq hx hb hdg ht (fun z => kt ((nI_eq ha (by decide)).mp (z.trans nI_0.symm))) (fun z => kf (fun y => z (by rw [y]; exact nI_0)))
theorem kx_if_ne (hx : p.tables.exec = Jvm.exec) (hb : c.code = cc) {a : Nat} (ha : a < 2 ^ 31) {off : Int} {tgt : Nat} (hdg : decode cc pc = .ok (.ifCond .ne off, 3)) (ht : (pc : Int) + off = (tgt : Int)) (kt : ¬ a = 0 → W p l e R s m args below meth c H locs cells slots Q (F0 m tgt ls rest)) (kf : a = 0 → W p l e R s m args below meth c H locs cells slots Q (F0 m (pc + 3) ls rest)) : W p l e R s m args below meth c H locs cells slots Q (F0 m pc ls (.int (nI a) :: rest)) :=
  lv_if_ne hx hb hdg ht (fun z => kt (fun y => z (by rw [y]; exact nI_0))) (fun z => kf ((nI_eq ha (by decide)).mp (z.trans nI_0.symm)))
theorem kx_if_lt (hx : p.tables.exec = Jvm.exec) (hb : c.code = cc) {a : Nat} (ha : a < 2 ^ 31) {off : Int} {tgt : Nat} (hdg : decode cc pc = .ok (.ifCond .lt off, 3)) (ht : (pc : Int) + off = (tgt : Int)) (kf : W p l e R s m args below meth c H locs cells slots Q (F0 m (pc + 3) ls rest)) : W p l e R s m args below meth c H locs cells slots Q (F0 m pc ls (.int (nI a) :: rest)) :=
  lv_if_lt hx hb hdg ht (fun z => absurd z (nI_pos ha)) (fun _ => kf)
theorem kx_if_ge (hx : p.tables.exec = Jvm.exec) (hb : c.code = cc) {a : Nat} (ha : a < 2 ^ 31) {off : Int} {tgt : Nat} (hdg : decode cc pc = .ok (.ifCond .ge off, 3)) (ht : (pc : Int) + off = (tgt : Int)) (kt : W p l e R s m args below meth c H locs cells slots Q (F0 m tgt ls rest)) : W p l e R s m args below meth c H locs cells slots Q (F0 m pc ls (.int (nI a) :: rest)) :=
  lv_if_ge hx hb hdg ht (fun _ => kt) (fun z => absurd (nI_pos' ha) z)
theorem kx_if_gt (hx : p.tables.exec = Jvm.exec) (hb : c.code = cc) {a : Nat} (ha : a < 2 ^ 31) {off : Int} {tgt : Nat} (hdg : decode cc pc = .ok (.ifCond .gt off, 3)) (ht : (pc : Int) + off = (tgt : Int)) (kt : 0 < a → W p l e R s m args below meth c H locs cells slots Q (F0 m tgt ls rest)) (kf : a = 0 → W p l e R s m args below meth c H locs cells slots Q (F0 m (pc + 3) ls rest)) : W p l e R s m args below meth c H locs cells slots Q (F0 m pc ls (.int (nI a) :: rest)) :=
  lv_if_gt hx hb hdg ht (fun z => kt ((nI_ltI (by decide) ha).mp (by rw [nI_0]; exact z))) (fun z => kf (Nat.eq_zero_of_not_pos (fun y => z (by rw [← nI_0]; exact (nI_ltI (by decide) ha).mpr y))))
theorem kx_if_le (hx : p.tables.exec = Jvm.exec) (hb : c.code = cc) {a : Nat} (ha : a < 2 ^ 31) {off : Int} {tgt : Nat} (hdg : decode cc pc = .ok (.ifCond .le off, 3)) (ht : (pc : Int) + off = (tgt : Int)) (kt : a = 0 → W p l e R s m args below meth c H locs cells slots Q (F0 m tgt ls rest)) (kf : 0 < a → W p l e R s m args below meth c H locs cells slots Q (F0 m (pc + 3) ls rest)) : W p l e R s m args below meth c H locs cells slots Q (F0 m pc ls (.int (nI a) :: rest)) :=
  lv_if_le hx hb hdg ht (fun z => kt (by
    rcases Nat.eq_zero_or_pos a with h | h
    · exact h
    · exact absurd z (nI_nle h ha))) (fun z => kf (Nat.pos_of_ne_zero (fun y => z (by rw [y, nI_0]; decide))))
/-- where the branch is known -/
theorem kx_iinc (hx : p.tables.exec = Jvm.exec) (hb : c.code = cc) {i nL k a : Nat} {lv lv' : List (Nat × Value)} (hdg : decode cc pc = .ok (.iinc i 1, 3)) (h : lv_has ls nL lv) (hk : lv[k]? = some (i, .int (nI a))) (hn : i < nL) (hl : (i, Value.int (nI (a + 1))) :: lv.filter (fun q => !(q.1 == i) && !(q.1 + 1 == i && q.2.category == 2)) = lv')
    (kk : ∀ ls' : Array Slot, lv_has ls' nL lv' → W p l e R s m args below meth c H locs cells slots Q (F0 m (pc + 3) ls' rest)) : W p l e R s m args below meth c H locs cells slots Q (F0 m pc ls rest) :=
  lv_iinc hx hb hdg h hk (nI_1 a) hn hl kk
theorem kx_iincm (hx : p.tables.exec = Jvm.exec) (hb : c.code = cc) {i nL k a : Nat} (ha : 0 < a) {lv lv' : List (Nat × Value)} (hdg : decode cc pc = .ok (.iinc i (-1), 3)) (h : lv_has ls nL lv) (hk : lv[k]? = some (i, .int (nI a))) (hn : i < nL) (hl : (i, Value.int (nI (a - 1))) :: lv.filter (fun q => !(q.1 == i) && !(q.1 + 1 == i && q.2.category == 2)) = lv')
    (kk : ∀ ls' : Array Slot, lv_has ls' nL lv' → W p l e R s m args below meth c H locs cells slots Q (F0 m (pc + 3) ls' rest)) : W p l e R s m args below meth c H locs cells slots Q (F0 m pc ls rest) :=
  lv_iinc hx hb hdg h hk (show nI a + (-1) = nI (a - 1) by obtain ⟨b, rfl⟩ : ∃ b, a = b + 1 := ⟨a - 1, by omega⟩; rw [pk_m1]; rfl) hn hl kk
variable {D : va_G} {cl : List vw_C} {A : Nat → Prop} {a : Nat} {tys : List (ClassId × FieldType)} {ws ws' : va_W} {H0 : Heap}
theorem kx_iald (hx : p.tables.exec = Jvm.exec) (hb : c.code = cc) (hK : va_K D cl tys s) (hP : va_P D cl ws H) (q0 t0 : Nat) {cA : ClassId} {n : Nat} {f : Nat → Int32} (ha : ws[q0]? = some (a, .inl (cA, n, .inl f))) (ht : tys[t0]? = some (cA, .int)) {i : Nat} (hi : i < n) (hn : n < 2 ^ 31) {v : Int32} (hv : f i = v) (hdg : decode cc pc = .ok (.iaload, 1))
    (k : W p l e R s m args below meth c H locs cells slots Q (F0 m (pc + 1) ls (.int v :: rest))) : W p l e R s m args below meth c H locs cells slots Q (F0 m pc ls (.int (nI i) :: .ref a :: rest)) :=
  va_iald hx hb hK hP q0 t0 ha ht (vp_in_nI hi hn) hdg (by rw [nI_clamp (Nat.lt_trans hi hn), hv]; exact k)
theorem kx_zald (hx : p.tables.exec = Jvm.exec) (hb : c.code = cc) (hK : va_K D cl tys s) (hP : va_P D cl ws H) (q0 t0 : Nat) {cA : ClassId} {n : Nat} {f : Nat → Int32} (ha : ws[q0]? = some (a, .inl (cA, n, .inl f))) (ht : tys[t0]? = some (cA, .boolean)) {i : Nat} (hi : i < n) (hn : n < 2 ^ 31) {v : Int32} (hv : f i = v) (hdg : decode cc pc = .ok (.baload, 1))
    (k : W p l e R s m args below meth c H locs cells slots Q (F0 m (pc + 1) ls (.int v :: rest))) : W p l e R s m args below meth c H locs cells slots Q (F0 m pc ls (.int (nI i) :: .ref a :: rest)) :=
  va_zald hx hb hK hP q0 t0 ha ht (vp_in_nI hi hn) hdg (by rw [nI_clamp (Nat.lt_trans hi hn), hv]; exact k)
theorem kx_cald (hx : p.tables.exec = Jvm.exec) (hb : c.code = cc) (hK : va_K D cl tys s) (hP : va_P D cl ws H) (q0 t0 : Nat) {cA : ClassId} {n : Nat} {f : Nat → Int32} (ha : ws[q0]? = some (a, .inl (cA, n, .inl f))) (ht : tys[t0]? = some (cA, .char)) {i : Nat} (hi : i < n) (hn : n < 2 ^ 31) {v : Int32} (hv : f i = v) (hdg : decode cc pc = .ok (.caload, 1))
    (k : W p l e R s m args below meth c H locs cells slots Q (F0 m (pc + 1) ls (.int v :: rest))) : W p l e R s m args below meth c H locs cells slots Q (F0 m pc ls (.int (nI i) :: .ref a :: rest)) :=
  va_cald hx hb hK hP q0 t0 ha ht (vp_in_nI hi hn) hdg (by rw [nI_clamp (Nat.lt_trans hi hn), hv]; exact k)
theorem kx_aald (hx : p.tables.exec = Jvm.exec) (hb : c.code = cc) (hK : va_K D cl tys s) (hP : va_P D cl ws H) (q0 t0 : Nat) {cA : ClassId} {C : String} {n : Nat} {f : Nat → Option Nat} (ha : ws[q0]? = some (a, .inl (cA, n, .inr (.inr (.inr (.inr f)))))) (ht : tys[t0]? = some (cA, .object C)) {i : Nat} (hi : i < n) (hn : n < 2 ^ 31) {v : Nat} (hv : f i = some v) (hdg : decode cc pc = .ok (.aaload, 1))
    (k : W p l e R s m args below meth c H locs cells slots Q (F0 m (pc + 1) ls (.ref v :: rest))) : W p l e R s m args below meth c H locs cells slots Q (F0 m pc ls (.int (nI i) :: .ref a :: rest)) :=
  va_aldq hx hb hK hP q0 t0 ha ht (vp_in_nI hi hn) hdg (by rw [nI_clamp (Nat.lt_trans hi hn), hv]; exact k)
theorem kx_iast (hx : p.tables.exec = Jvm.exec) (hb : c.code = cc) (hK : va_K D cl tys s) (hP : va_P D cl ws H) (hD : va_D A ws) (hS : va_S A H0 H locs) (q0 t0 : Nat) {cA : ClassId} {n : Nat} {f g : Nat → Int32} (ha : ws[q0]? = some (a, .inl (cA, n, .inl f))) (ht : tys[t0]? = some (cA, .int)) {i : Nat} {x : Int32} (hi : i < n) (hn : n < 2 ^ 31) (hg : upd f i x = g) (hw : ws.set q0 (a, .inl (cA, n, .inl g)) = ws') (hdg : decode cc pc = .ok (.iastore, 1))
    (kk : ∀ (H1 : Heap) (locs1 : List Loc), va_P D cl ws' H1 → va_D A ws' → va_S A H0 H1 locs1 → W p l e R s m args below meth c H1 locs1 cells slots Q (F0 m (pc + 1) ls rest)) : W p l e R s m args below meth c H locs cells slots Q (F0 m pc ls (.int x :: .int (nI i) :: .ref a :: rest)) :=
  va_iast hx hb hK hP hD hS q0 t0 ha ht (vp_in_nI hi hn) hdg (by rw [nI_clamp (Nat.lt_trans hi hn), hg, hw]; exact kk)
theorem kx_put (hx : p.tables.exec = Jvm.exec) (hb : c.code = cc) {own ref C : String} {T : u_T} {N ci index : Nat} {Ts : List Cond} (hts : ∀ w ∈ Ts, w.before args s = true) (hin : ∀ w ∈ u_ws C T N, w ∈ Ts) (ty0 : Nat → FieldType) (hty : ∀ k, k < N → parseFieldDescriptor (T k).2.2.1 = some (ty0 k)) (hnm : ∀ a, a < N → ∀ b, b < N → a ≠ b → (T a).2.1 ≠ (T b).2.1) (hown : s.vm.findClass own = some m.cls) (hK : va_K D cl tys s) (hP : va_P D cl ws H) (hD : va_D A ws) (hS0 : va_S A H0 H locs) (q0 : Nat) {fs : List Value} (he : ws[q0]? = some (a, .inr (ci, fs))) (hc : cl[ci]? = some (C, T, N)) (k : Nat) (hk : k < N) (hlink : (Cond.fieldLink own index ref (T k).2.1 (T k).2.2.1).before args s = true) (hsame : ∀ x, s.fieldFound? (T k).1 (T k).2.1 (T k).2.2.1 = some x → s.fieldFound? ref (T k).2.1 (T k).2.2.1 = some x) (hfin : (T k).2.2.2 = false) {ty : FieldType} {v : Value} (hd : parseFieldDescriptor (T k).2.2.1 = some ty) (hn : narrow ty v = v) (hfit : fits ty v = true) (hl : k < fs.length) (hw : ws.set q0 (a, .inr (ci, fs.set k v)) = ws')
    (hdg : decode cc pc = .ok (.putfield index, 3)) (kk : ∀ (H1 : Heap) (locs1 : List Loc), va_P D cl ws' H1 → va_D A ws' → va_S A H0 H1 locs1 → W p l e R s m args below meth c H1 locs1 cells slots Q (F0 m (pc + 3) ls rest)) : W p l e R s m args below meth c H locs cells slots Q (F0 m pc ls (v :: .ref a :: rest)) :=
  va_put hx hb hts hin ty0 hty hnm hown hK hP hD hS0 q0 he hc k hk hlink hsame hfin hd hn hfit hl hdg (by rw [hw]; exact kk)
end PMK
/-! ===== contracts: a method that only reads; a method that writes its own cells ===== -/
/-- reads the cells w, and changes nothing -/
def pm_ro (D : va_G) (tys : List (ClassId × FieldType)) (av : List Value) (w : va_W) : Array Value → State → Prop := va_Pc av (fun U => va_P D vwCl w U.heap ∧ va_K D vwCl tys U)
theorem pm_ro_blind {D : va_G} {tys : List (ClassId × FieldType)} {av : List Value} {w : va_W} : FrameBlind (pm_ro D tys av w) := fun _ U g mk q => ⟨q.1, q.2.1, va_K.moved (u := U) (U := U.calling g mk _) (Vm.Alike.refl U.vm) q.2.2⟩
theorem pm_ro_pre {D : va_G} {tys : List (ClassId × FieldType)} {av : List Value} {w : va_W} {s : State} {H : Heap} (hP : va_P D vwCl w H) (hK : va_K D vwCl tys s) : ∀ U : State, U.heap = H → s.WarmedH U.vm → pm_ro D tys av w av.toArray U := fun U hU hW => ⟨rfl, by rw [hU]; exact hP, va_K.moved hW.alike hK⟩
/-- asks nothing of the heap -/
def pm_no (av : List Value) : Array Value → State → Prop := va_Pc av (fun _ => True)
theorem pm_no_blind {av : List Value} : FrameBlind (pm_no av) := fun _ _ _ _ q => q
theorem pm_no_pre {av : List Value} {s : State} {H : Heap} : ∀ U : State, U.heap = H → s.WarmedH U.vm → pm_no av av.toArray U := fun _ _ _ => ⟨rfl, trivial⟩
/-- may change the cells w -/
def pm_wr (D : va_G) (tys : List (ClassId × FieldType)) (av : List Value) (w : va_W) : Array Value → State → Prop := va_Pc av (fun U => va_P D vwCl w U.heap ∧ va_K D vwCl tys U ∧ va_D (fun _ => True) w)
theorem pm_wr_blind {D : va_G} {tys : List (ClassId × FieldType)} {av : List Value} {w : va_W} : FrameBlind (pm_wr D tys av w) := fun _ U g mk q => ⟨q.1, q.2.1, va_K.moved (u := U) (U := U.calling g mk _) (Vm.Alike.refl U.vm) q.2.2.1, q.2.2.2⟩
theorem pm_wr_pre {D : va_G} {tys : List (ClassId × FieldType)} {av : List Value} {w : va_W} {s : State} {H : Heap} {A : Nat → Prop} (hP : va_P D vwCl w H) (hK : va_K D vwCl tys s) (hD : va_D A w) : ∀ U : State, U.heap = H → s.WarmedH U.vm → pm_wr D tys av w av.toArray U := fun U hU hW => ⟨rfl, by rw [hU]; exact hP, va_K.moved hW.alike hK, hD.weaken (fun _ _ _ _ => trivial)⟩
/-- the addresses of a world -/
def pm_ad (w : va_W) : Nat → Prop := fun q => q ∈ w.map Prod.fst
theorem pm_ad_at {w : va_W} {k : Nat} {q : Nat × va_E} (h : w[k]? = some q) : pm_ad w q.1 := List.mem_map.mpr ⟨q, List.mem_of_getElem? h, rfl⟩
theorem pm_ad_self {w : va_W} {A : Nat → Prop} (h : va_D A w) : va_D (pm_ad w) w := ⟨h.1, fun _ _ hk => pm_ad_at hk⟩
/-- only the addresses count -/
theorem pm_D_same {A : Nat → Prop} {w w' : va_W} (h : w'.map Prod.fst = w.map Prod.fst) (hD : va_D A w) : va_D A w' := by
  have key : ∀ (k : Nat) (q : Nat × va_E), w'[k]? = some q → ∃ q0, w[k]? = some q0 ∧ q0.1 = q.1 := by
    intro k q hk
    have h1 : (w'.map Prod.fst)[k]? = some q.1 := by rw [List.getElem?_map, hk]; rfl
    rw [h, List.getElem?_map] at h1
    cases hw : w[k]? with
    | none => rw [hw] at h1; cases h1
    | some q0 => rw [hw] at h1; exact ⟨q0, rfl, Option.some.inj h1⟩
  refine ⟨fun i j x y hi hj hxy => ?_, fun k q hk => ?_⟩
  · obtain ⟨x0, h1, h2⟩ := key i x hi
    obtain ⟨y0, h3, h4⟩ := key j y hj
    exact hD.1 i j x0 y0 h1 h3 (h2.trans (hxy.trans h4.symm))
  · obtain ⟨q0, h1, h2⟩ := key k q hk
    rw [← h2]
    exact hD.2 k q0 h1
theorem pm_ad_in {A : Nat → Prop} {X w Y : va_W} (hD : va_D A (X ++ (w ++ Y))) : ∀ q, pm_ad w q → A q := by
  intro q hq
  obtain ⟨z, hz, rfl⟩ := List.mem_map.mp hq
  obtain ⟨k, hk⟩ := List.getElem?_of_mem (show z ∈ X ++ (w ++ Y) from List.mem_append_right _ (List.mem_append_left _ hz))
  exact hD.2 k z hk
/-- behind a call that changed the middle of the world -/
theorem pm_mid {A : Nat → Prop} {D : va_G} {cl : List vw_C} {X w w' Y : va_W} {H H1 : Heap} (hP : va_P D cl (X ++ (w ++ Y)) H) (hD : va_D A (X ++ (w ++ Y))) (hk : ∀ q : Nat, q < H.size → ¬ pm_ad w q → H1[q]? = H[q]?) (hP1 : va_P D cl w' H1) (ha : w'.map Prod.fst = w.map Prod.fst) : va_P D cl (X ++ (w' ++ Y)) H1 ∧ va_D A (X ++ (w' ++ Y)) := by
  refine ⟨?_, pm_D_same (by simp [ha]) hD⟩
  have out : ∀ z : Nat × va_E, (z ∈ X ∨ z ∈ Y) → va_at D cl z H1 := by
    intro z hz
    have hzm : z ∈ X ++ (w ++ Y) := by
      rcases hz with h | h
      · exact List.mem_append_left _ h
      · exact List.mem_append_right _ (List.mem_append_right _ h)
    obtain ⟨k, hkz⟩ := List.getElem?_of_mem hzm
    have hat := hP k z hkz
    refine hat.kept (hk _ hat.lt (fun hq => ?_))
    obtain ⟨y, hy, hyz⟩ := List.mem_map.mp hq
    obtain ⟨j, hj⟩ := List.getElem?_of_mem hy
    have hj' : (X ++ (w ++ Y))[X.length + j]? = some y := by
      rw [List.getElem?_append_right (by omega)]
      have hjl := (List.getElem?_eq_some_iff.mp hj).1
      rw [show X.length + j - X.length = j by omega, List.getElem?_append_left hjl]
      exact hj
    have hkj := hD.1 _ _ _ _ hj' hkz hyz
    subst hkj
    rcases hz with h | h
    · obtain ⟨i, hi⟩ := List.getElem?_of_mem h
      have hil := (List.getElem?_eq_some_iff.mp hi).1
      have hi' : (X ++ (w ++ Y))[i]? = some z := by rw [List.getElem?_append_left hil]; exact hi
      have := hD.1 _ _ _ _ hi' hkz rfl
      omega
    · obtain ⟨i, hi⟩ := List.getElem?_of_mem h
      have hjl := (List.getElem?_eq_some_iff.mp hj).1
      have hi' : (X ++ (w ++ Y))[X.length + (w.length + i)]? = some z := by
        rw [List.getElem?_append_right (by omega), show X.length + (w.length + i) - X.length = w.length + i by omega, List.getElem?_append_right (by omega), show w.length + i - w.length = i by omega]
        exact hi
      have := hD.1 _ _ _ _ hi' hkz rfl
      omega
  intro k z hk2
  rcases List.mem_append.mp (List.mem_of_getElem? hk2) with h | h
  · exact out z (Or.inl h)
  · rcases List.mem_append.mp h with h | h
    · obtain ⟨i, hi⟩ := List.getElem?_of_mem h
      exact hP1 i z hi
    · exact out z (Or.inr h)
/-- the whole world is the callee's -/
theorem pm_all {A : Nat → Prop} {D : va_G} {cl : List vw_C} {w w' : va_W} {H1 : Heap} (hD : va_D A w) (hP1 : va_P D cl w' H1) (ha : w'.map Prod.fst = w.map Prod.fst) : va_P D cl w' H1 ∧ va_D A w' := ⟨hP1, pm_D_same ha hD⟩
theorem pm_ad_all {A : Nat → Prop} {w : va_W} (hD : va_D A w) : ∀ q, pm_ad w q → A q := by
  intro q hq
  obtain ⟨z, hz, rfl⟩ := List.mem_map.mp hq
  obtain ⟨k, hk⟩ := List.getElem?_of_mem hz
  exact hD.2 k z hk
/-- what a writing method leaves: the world w' u, for some u with the post -/
def pm_Qi {S : Type} (D : va_G) (post : Int32 → S → Prop) (w' : S → va_W) (w : va_W) : Array Value → State → Outcome → State → Prop := va_Qi post (fun u t => va_P D vwCl (w' u) t.heap) (pm_ad w)
def pm_Qv {S : Type} (D : va_G) (post : S → Prop) (w' : S → va_W) (w : va_W) : Array Value → State → Outcome → State → Prop := va_Qv post (fun u t => va_P D vwCl (w' u) t.heap) (pm_ad w)
/-- a cell's contents, place by place -/
theorem pm_arr {cA : ClassId} {n : Nat} {f g : Nat → Int32} (h : ∀ j, j < n → f j = g j) : vp_cell cA (n, .inl f) = vp_cell cA (n, .inl g) := by
  rw [vp_cell_i, vp_cell_i, arrV, arrV]
  congr 1
  apply Array.ext
  · simp
  · intro i h1 h2
    simp only [Array.size_ofFn] at h1
    simp only [Array.getElem_ofFn]
    rw [h i h1]
theorem pm_P_arr {D : va_G} {cl : List vw_C} {ws ws' : va_W} {H : Heap} (q0 : Nat) {a : Nat} {cA : ClassId} {n : Nat} {f g : Nat → Int32} (hP : va_P D cl ws H) (ha : ws[q0]? = some (a, .inl (cA, n, .inl f))) (h : ∀ j, j < n → f j = g j) (hw : ws.set q0 (a, .inl (cA, n, .inl g)) = ws') : va_P D cl ws' H := by
  subst hw
  have hl := (List.getElem?_eq_some_iff.mp ha).1
  intro k z hk
  by_cases hkq : k = q0
  · subst hkq
    rw [List.getElem?_set_self hl] at hk
    cases hk
    have h0 := hP _ _ ha
    exact h0.trans (congrArg some (pm_arr h))
  · rw [List.getElem?_set_ne (Ne.symm hkq)] at hk
    exact hP k z hk
end
section
/-! ===== what a state of the sheet is: component, place -> number. 0 how, 1 dull, 2 size, 3 round chosen + 1 (0 never), 4 marks (each editor's two bits), 5 points, 6 arguments, 7 lifted, 8 favourites, 9 settings, 10 rounds paper taken, 11 prints ===== -/
def updN (f : Nat → Nat) (k v : Nat) : Nat → Nat := fun j => if j = k then v else f j
def pm_st (S : Nat → Nat → Nat) (c k v : Nat) : Nat → Nat → Nat := fun d => if d = c then updN (S d) k v else S d
def pm_tk (m : Nat) : Nat := (if m % 4 = 1 then 1 else 0) + (if m / 4 % 4 = 1 then 2 else 0) + (if m / 16 % 4 = 1 then 4 else 0)
def pm_ck (m : Nat) : Nat := (if m % 4 = 2 then 1 else 0) + (if m / 4 % 4 = 2 then 2 else 0) + (if m / 16 % 4 = 2 then 4 else 0)
def pm_mk (m e : Nat) : Nat := m / 4 ^ e % 4
def pm_sm (m e v : Nat) : Nat := m + v * 4 ^ e - pm_mk m e * 4 ^ e
def pm_okb (m : Nat) : Bool := decide (m < 64) && (decide (m % 4 < 3) && (decide (m / 4 % 4 < 3) && decide (m / 16 % 4 < 3)))
def pm_pc (x : Nat) : Nat := x % 2 + x / 2 % 2 + x / 4 % 2
def pm_ci (x : Nat) : Int32 := if x = 0 then -6 else nI (x - 1)
def pm_ix (x : Int32) (n : Nat) : Option Nat := if x < 0 ∨ nI n ≤ x then none else some x.toNatClampNeg
theorem pm_ix_in {j n : Nat} (h : j < n) (hn : n < 2 ^ 31) : pm_ix (nI j) n = some j := by
  unfold pm_ix
  rw [if_neg, nI_clamp (Nat.lt_trans h hn)]
  rintro (z | z)
  · exact nI_pos (Nat.lt_trans h hn) z
  · exact absurd ((nI_leI hn (Nat.lt_trans h hn)).mp z) (by omega)
theorem pm_ix_out {x : Int32} {n : Nat} (h : x < 0 ∨ nI n ≤ x) : pm_ix x n = none := by
  unfold pm_ix
  rw [if_pos h]
theorem pm_rin {x : Int32} {n : Nat} (hn : n < 2 ^ 31) (h1 : ¬ x < 0) (h2 : ¬ nI n ≤ x) : ∃ j, j < n ∧ x = nI j := by
  rcases pk_ix x hn with h | h | ⟨j, hj, e⟩
  · exact absurd h h1
  · exact absurd h h2
  · exact ⟨j, hj, e⟩
theorem pm_rout {d n : Nat} (hd : d < 2 ^ 31) (hn : n < 2 ^ 31) (h : nI d < 0 ∨ nI n ≤ nI d) : n ≤ d := by
  rcases h with h | h
  · exact absurd h (nI_pos hd)
  · exact (nI_leI hn hd).mp h
theorem pm_lead {x : Int32} {n : Nat} (h : x < 0 ∨ nI (n + 1) ≤ x) (hn : n + 1 < 2 ^ 31) (h1 : ¬ x < 0) (h2 : x ≤ nI n) : False := by
  rcases h with h | h
  · exact h1 h
  · have a := Int32.le_iff_toInt_le.mp h
    have b := Int32.le_iff_toInt_le.mp h2
    rw [nI_toInt hn] at a
    rw [nI_toInt (by omega)] at b
    omega
theorem pm_lt4 (m e : Nat) : pm_mk m e < 4 := Nat.mod_lt _ (by decide)
theorem pm_tk8 (m : Nat) : pm_tk m < 8 := by
  unfold pm_tk
  split <;> split <;> split <;> decide
theorem pm_ck8 (m : Nat) : pm_ck m < 8 := by
  unfold pm_ck
  split <;> split <;> split <;> decide
theorem pm_bit : ∀ i, i < 3 → nI 1 <<< (nI i &&& 31) = nI (2 ^ i) := by decide +kernel
theorem pm_okb64 {m : Nat} (h : pm_okb m = true) : m < 64 := by
  simp only [pm_okb, Bool.and_eq_true, decide_eq_true_eq] at h
  exact h.1
theorem pm_T1 : ∀ m, m < 64 → pm_okb m = true → ∀ i, i < 3 → (nI (pm_tk m) &&& nI (2 ^ i) = 0 ↔ ¬ pm_mk m i = 1) ∧ (nI (pm_ck m) &&& nI (2 ^ i) = 0 ↔ ¬ pm_mk m i = 2) ∧ pm_mk m i < 3 := by decide +kernel
theorem pm_tkbit {m i : Nat} (h : pm_okb m = true) (hi : i < 3) : nI (pm_tk m) &&& nI (2 ^ i) = 0 ↔ ¬ pm_mk m i = 1 := (pm_T1 m (pm_okb64 h) h i hi).1
theorem pm_ckbit {m i : Nat} (h : pm_okb m = true) (hi : i < 3) : nI (pm_ck m) &&& nI (2 ^ i) = 0 ↔ ¬ pm_mk m i = 2 := (pm_T1 m (pm_okb64 h) h i hi).2.1
theorem pm_mk3 {m i : Nat} (h : pm_okb m = true) (hi : i < 3) : pm_mk m i < 3 := (pm_T1 m (pm_okb64 h) h i hi).2.2
def pm_we (x y b : Int32) : Int32 := if b = 0 then x &&& ((nI 1 <<< (y &&& 31)) ^^^ (-1)) else x ||| (nI 1 <<< (y &&& 31))
def pm_T2b (m i v : Nat) : Bool := !(pm_okb m) || (decide (pm_we (nI (pm_tk m)) (nI i) (nI (if v = 1 then 1 else 0)) = nI (pm_tk (pm_sm m i v))) && (decide (pm_we (nI (pm_ck m)) (nI i) (nI (if v = 2 then 1 else 0)) = nI (pm_ck (pm_sm m i v))) && (pm_okb (pm_sm m i v) && decide (pm_mk (pm_sm m i v) i = v))))
theorem pm_T2a : ∀ m, m < 64 → ∀ i, i < 3 → ∀ v, v < 3 → pm_T2b m i v = true := by decide +kernel
theorem pm_T2 (m : Nat) (hm : m < 64) (h : pm_okb m = true) (i : Nat) (hi : i < 3) (v : Nat) (hv : v < 3) : pm_we (nI (pm_tk m)) (nI i) (nI (if v = 1 then 1 else 0)) = nI (pm_tk (pm_sm m i v)) ∧ pm_we (nI (pm_ck m)) (nI i) (nI (if v = 2 then 1 else 0)) = nI (pm_ck (pm_sm m i v)) ∧ pm_okb (pm_sm m i v) = true ∧ pm_mk (pm_sm m i v) i = v := by
  have a := pm_T2a m hm i hi v hv
  simp only [pm_T2b, h, Bool.not_true, Bool.false_or, Bool.and_eq_true, decide_eq_true_eq] at a
  exact a
theorem pm_wet {m i v : Nat} (h : pm_okb m = true) (hi : i < 3) (hv : v < 3) : pm_we (nI (pm_tk m)) (nI i) (nI (if v = 1 then 1 else 0)) = nI (pm_tk (pm_sm m i v)) := (pm_T2 m (pm_okb64 h) h i hi v hv).1
theorem pm_wec {m i v : Nat} (h : pm_okb m = true) (hi : i < 3) (hv : v < 3) : pm_we (nI (pm_ck m)) (nI i) (nI (if v = 2 then 1 else 0)) = nI (pm_ck (pm_sm m i v)) := (pm_T2 m (pm_okb64 h) h i hi v hv).2.1
theorem pm_smok {m i v : Nat} (h : pm_okb m = true) (hi : i < 3) (hv : v < 3) : pm_okb (pm_sm m i v) = true := (pm_T2 m (pm_okb64 h) h i hi v hv).2.2.1
theorem pm_okm0 : pm_okb 0 = true := by decide
/-- popcount below 8, as the JDK counts -/
def pm_tc (m : Nat) : Nat := pm_pc (pm_tk m)
def pm_cc (m : Nat) : Nat := pm_pc (pm_ck m)
theorem pm_pc4 (x : Nat) : pm_pc x < 4 := by
  unfold pm_pc
  have a := Nat.mod_lt x (show 0 < 2 by decide)
  have b := Nat.mod_lt (x / 2) (show 0 < 2 by decide)
  have c := Nat.mod_lt (x / 4) (show 0 < 2 by decide)
  omega
/-- how many frames below n bear the mark v of the editor i -/
def pm_cnt (S : Nat → Nat → Nat) (i v : Nat) : Nat → Nat
  | 0 => 0
  | n + 1 => pm_cnt S i v n + if pm_mk (S 4 n) i = v then 1 else 0
theorem pm_cnt_p {S : Nat → Nat → Nat} {i v n : Nat} (h : pm_mk (S 4 n) i = v) : pm_cnt S i v (n + 1) = pm_cnt S i v n + 1 := by rw [pm_cnt, if_pos h]
theorem pm_cnt_n {S : Nat → Nat → Nat} {i v n : Nat} (h : ¬ pm_mk (S 4 n) i = v) : pm_cnt S i v (n + 1) = pm_cnt S i v n + 0 := by rw [pm_cnt, if_neg h]
theorem pm_cnt_le (S : Nat → Nat → Nat) (i v : Nat) : ∀ n, pm_cnt S i v n ≤ n
  | 0 => Nat.le_refl 0
  | n + 1 => by
    have := pm_cnt_le S i v n
    rw [pm_cnt]
    split <;> omega
theorem pm_max0 {a b : Nat} (ha : a < 2 ^ 30) (hb : b < 2 ^ 30) : (if nI a - nI b < nI 0 then nI 0 else nI a - nI b) = nI (a - b) := by
  by_cases h : a < b
  · rw [if_pos (by rw [nI_0]; exact pk_sneg hb h), show a - b = 0 by omega]
  · rw [if_neg, pk_sub (by omega)]
    rw [pk_sub (by omega)]
    exact fun z => nI_pos (n := a - b) (by omega) (by rw [nI_0] at z; exact z)
/-- what always holds -/
def pm_Inv (S : Nat → Nat → Nat) : Prop := (∀ j, j < 30 → S 0 j < 4) ∧ (∀ j, j < 30 → pm_okb (S 4 j) = true) ∧ (∀ j, j < 30 → ¬ S 0 j = 0 → S 4 j = 0) ∧ (∀ j, j < 30 → S 1 j ≤ S 10 0) ∧ (∀ j, j < 30 → S 2 j < 4) ∧ (∀ j, j < 30 → S 3 j ≤ S 10 0) ∧ (∀ j, j < 30 → (S 0 j = 1 ∨ S 0 j = 3) → 0 < S 3 j) ∧ (∀ e, e < 3 → S 5 e ≤ 20) ∧ (1 ≤ S 9 0 ∧ S 9 0 ≤ 3 ∧ S 9 1 ≤ 9 ∧ 1 ≤ S 9 2 ∧ S 9 2 ≤ 9 ∧ 1 ≤ S 9 3 ∧ S 9 3 ≤ 5) ∧ S 10 0 ≤ 99 ∧ S 10 1 ≤ 999
theorem pm_Inv.how {S : Nat → Nat → Nat} (h : pm_Inv S) : ∀ j, j < 30 → S 0 j < 4 := h.1
theorem pm_Inv.okm {S : Nat → Nat → Nat} (h : pm_Inv S) : ∀ j, j < 30 → pm_okb (S 4 j) = true := h.2.1
theorem pm_Inv.nom {S : Nat → Nat → Nat} (h : pm_Inv S) : ∀ j, j < 30 → ¬ S 0 j = 0 → S 4 j = 0 := h.2.2.1
theorem pm_Inv.dull {S : Nat → Nat → Nat} (h : pm_Inv S) : ∀ j, j < 30 → S 1 j ≤ S 10 0 := h.2.2.2.1
theorem pm_Inv.size {S : Nat → Nat → Nat} (h : pm_Inv S) : ∀ j, j < 30 → S 2 j < 4 := h.2.2.2.2.1
theorem pm_Inv.chi {S : Nat → Nat → Nat} (h : pm_Inv S) : ∀ j, j < 30 → S 3 j ≤ S 10 0 := h.2.2.2.2.2.1
theorem pm_Inv.pick {S : Nat → Nat → Nat} (h : pm_Inv S) : ∀ j, j < 30 → (S 0 j = 1 ∨ S 0 j = 3) → 0 < S 3 j := h.2.2.2.2.2.2.1
theorem pm_Inv.pts {S : Nat → Nat → Nat} (h : pm_Inv S) : ∀ e, e < 3 → S 5 e ≤ 20 := h.2.2.2.2.2.2.2.1
theorem pm_Inv.set {S : Nat → Nat → Nat} (h : pm_Inv S) : 1 ≤ S 9 0 ∧ S 9 0 ≤ 3 ∧ S 9 1 ≤ 9 ∧ 1 ≤ S 9 2 ∧ S 9 2 ≤ 9 ∧ 1 ≤ S 9 3 ∧ S 9 3 ≤ 5 := h.2.2.2.2.2.2.2.2.1
theorem pm_Inv.set9 {S : Nat → Nat → Nat} (h : pm_Inv S) : ∀ k, k < 4 → S 9 k ≤ 9 := by
  obtain ⟨h1, h2, h3, h4, h5, h6, h7⟩ := h.set
  intro k hk
  rcases (show k = 0 ∨ k = 1 ∨ k = 2 ∨ k = 3 by omega) with rfl | rfl | rfl | rfl <;> omega
theorem pm_Inv.rnd {S : Nat → Nat → Nat} (h : pm_Inv S) : S 10 0 ≤ 99 := h.2.2.2.2.2.2.2.2.2.1
theorem pm_Inv.pap {S : Nat → Nat → Nat} (h : pm_Inv S) : S 10 1 ≤ 999 := h.2.2.2.2.2.2.2.2.2.2
/-! ===== worlds ===== -/
abbrev pm_ty (y : Nat → ClassId) : List (ClassId × FieldType) := [(y 0, .int), (y 1, .char), (y 2, .boolean), (y 3, .object RX2)]
def pm_sh (y : Nat → ClassId) (q : Nat → Nat) (c0 c1 c2 c3 c4 c5 c6 c7 c8 c9 c10 c11 : Nat → Int32) (r p t : Int32) : va_W :=
  [(q 0, .inr (2, [.ref (q 1), .ref (q 2), .ref (q 3), .ref (q 4), .ref (q 5), .ref (q 6), .ref (q 7), .ref (q 8), .ref (q 9), .ref (q 10), .ref (q 11), .ref (q 12), .int r, .int p, .int t])), (q 1, .inl (y 0, 4, .inl c0)), (q 2, .inl (y 0, 30, .inl c1)), (q 3, .inl (y 0, 30, .inl c2)), (q 4, .inl (y 0, 30, .inl c3)), (q 5, .inl (y 0, 30, .inl c4)), (q 6, .inl (y 0, 30, .inl c5)), (q 7, .inl (y 0, 30, .inl c6)), (q 8, .inl (y 0, 3, .inl c7)), (q 9, .inl (y 0, 3, .inl c8)), (q 10, .inl (y 0, 3, .inl c9)), (q 11, .inl (y 0, 3, .inl c10)), (q 12, .inl (y 0, 4, .inl c11))]
def pm_vn (f : Nat → Nat) : Nat → Int32 := fun j => nI (f j)
def pm_vt (f : Nat → Nat) : Nat → Int32 := fun j => nI (pm_tk (f j))
def pm_vc (f : Nat → Nat) : Nat → Int32 := fun j => nI (pm_ck (f j))
def pm_vi (f : Nat → Nat) : Nat → Int32 := fun j => pm_ci (f j)
/-- the sheet's cells in the state S -/
def pm_shS (y : Nat → ClassId) (q : Nat → Nat) (S : Nat → Nat → Nat) : va_W := pm_sh y q (pm_vn (S 9)) (pm_vn (S 0)) (pm_vt (S 4)) (pm_vc (S 4)) (pm_vn (S 1)) (pm_vn (S 2)) (pm_vi (S 3)) (pm_vn (S 5)) (pm_vn (S 6)) (pm_vn (S 7)) (pm_vn (S 8)) (pm_vn (S 11)) (nI (S 10 0)) (nI (S 10 1)) (nI (S 10 2))
theorem pm_vn_u (f : Nat → Nat) (i v : Nat) : upd (pm_vn f) i (nI v) = pm_vn (updN f i v) := by
  funext j
  simp only [upd, pm_vn, updN]
  split <;> rfl
theorem pm_vt_u (f : Nat → Nat) (i v : Nat) : upd (pm_vt f) i (nI (pm_tk v)) = pm_vt (updN f i v) := by
  funext j
  simp only [upd, pm_vt, updN]
  split <;> rfl
theorem pm_vc_u (f : Nat → Nat) (i v : Nat) : upd (pm_vc f) i (nI (pm_ck v)) = pm_vc (updN f i v) := by
  funext j
  simp only [upd, pm_vc, updN]
  split <;> rfl
theorem pm_vi_u (f : Nat → Nat) (i v : Nat) : upd (pm_vi f) i (pm_ci v) = pm_vi (updN f i v) := by
  funext j
  simp only [upd, pm_vi, updN]
  split <;> rfl
theorem updN_s (f : Nat → Nat) (k v : Nat) : updN f k v k = v := by simp [updN]
theorem updN_n (f : Nat → Nat) {k j : Nat} (v : Nat) (h : ¬ j = k) : updN f k v j = f j := by simp [updN, h]
/-! ===== what each change does ===== -/
def pm_aSet (S : Nat → Nat → Nat) (k v : Int32) : Int32 × (Nat → Nat → Nat) := match pm_ix k 4 with
  | none => (-2, S)
  | some i => match pm_ix v 10 with
    | none => (-2, S)
    | some w => if (if i = 1 then 0 else 1) ≤ w ∧ w ≤ (if i = 0 then 3 else if i = 3 then 5 else 9) then (nI (S 9 i), pm_st S 9 i w) else (-2, S)
def pm_aMark (S : Nat → Nat → Nat) (e f m : Int32) : Int32 × (Nat → Nat → Nat) := match pm_ix e 3 with
  | none => (-1, S)
  | some e => match pm_ix f 30 with
    | none => (-1, S)
    | some f => match pm_ix m 3 with
      | none => (-2, S)
      | some m => if S 0 f ≠ 0 then (-5, S) else if m = 2 ∧ pm_mk (S 4 f) e ≠ 2 ∧ S 9 1 ≤ pm_cnt S e 2 30 then (-4, S) else (nI (pm_mk (S 4 f) e), pm_st S 4 f (pm_sm (S 4 f) e m))
def pm_aArgue (S : Nat → Nat → Nat) (e o f : Int32) : Int32 × (Nat → Nat → Nat) := match pm_ix e 3 with
  | none => (-1, S)
  | some e => match pm_ix o 3 with
    | none => (-1, S)
    | some o => match pm_ix f 30 with
      | none => (-1, S)
      | some f => if e = o then (-2, S) else if pm_mk (S 4 f) o ≠ 2 ∨ S 5 e < S 9 2 then (-5, S)
        else if S 9 2 ≤ S 5 o then (0, pm_st (pm_st (pm_st S 5 e (S 5 e - S 9 2)) 6 e (S 6 e + 1)) 5 o (S 5 o - S 9 2))
        else (1, pm_st (pm_st (pm_st (pm_st S 5 e (S 5 e - S 9 2)) 6 e (S 6 e + 1)) 4 f (pm_sm (S 4 f) o 0)) 7 o (S 7 o + 1))
def pm_dl (S : Nat → Nat → Nat) (f : Nat) : Nat := if S 4 f = 0 then S 1 f + 1 else 0
/-- how an open frame is behind a round -/
def pm_aft (S : Nat → Nat → Nat) (f : Nat) : Nat := if 2 ≤ pm_cc (S 4 f) then 2 else if pm_cc (S 4 f) = 1 then 0 else if S 9 0 ≤ pm_tc (S 4 f) then 1 else if S 9 3 ≤ pm_dl S f then 2 else 0
/-- the favourites of the first n editors grow -/
def pm_fav (S : Nat → Nat → Nat) (f : Nat) : Nat → (Nat → Nat)
  | 0 => S 8
  | n + 1 => if pm_mk (S 4 f) n = 1 then updN (pm_fav S f n) n (pm_fav S f n n + 1) else pm_fav S f n
/-- a frame is chosen -/
def pm_chs (S : Nat → Nat → Nat) (f : Nat) : Nat → Nat → Nat := fun d => if d = 8 then pm_fav S f 3 else pm_st (pm_st S 2 f (pm_tc (S 4 f))) 3 f (S 10 0 + 1) d
def pm_jdg (S : Nat → Nat → Nat) (f : Nat) : Nat → Nat → Nat := pm_st (pm_st (pm_st (if pm_aft S f = 1 then pm_chs S f else S) 1 f (pm_dl S f)) 0 f (pm_aft S f)) 4 f 0
def pm_rds (S : Nat → Nat → Nat) : Nat → (Nat → Nat → Nat)
  | 0 => S
  | n + 1 => if S 0 n = 0 then pm_jdg (pm_rds S n) n else pm_rds S n
def pm_rct (S : Nat → Nat → Nat) : Nat → Nat
  | 0 => 0
  | n + 1 => pm_rct S n + if S 0 n = 0 ∧ pm_aft S n = 1 then 1 else 0
def pm_pts (f : Nat → Nat) : Nat → (Nat → Nat)
  | 0 => f
  | n + 1 => updN (pm_pts f n) n (if 20 < f n + 2 then 20 else f n + 2)
def pm_aRound (S : Nat → Nat → Nat) : Int32 × (Nat → Nat → Nat) := if 99 ≤ S 10 0 then (-5, S) else (nI (pm_rct S 30), pm_st (fun d => if d = 5 then pm_pts (S 5) 3 else pm_rds S 30 d) 10 0 (S 10 0 + 1))
def pm_aPrint (S : Nat → Nat → Nat) (f z : Int32) : Int32 × (Nat → Nat → Nat) := match pm_ix f 30 with
  | none => (-1, S)
  | some f => match pm_ix z 4 with
    | none => (-2, S)
    | some z => if z = 0 then (-2, S) else if S 0 f ≠ 1 ∨ S 2 f < z ∨ S 10 1 < 10 * z * z then (-5, S)
      else (nI (S 10 1 - 10 * z * z), pm_st (pm_st (pm_st (pm_st (pm_st S 0 f 3) 2 f z) 11 z (S 11 z + 1)) 10 1 (S 10 1 - 10 * z * z)) 10 2 (S 10 2 + 10 * z * z))
def pm_aBuy (S : Nat → Nat → Nat) (b : Int32) : Int32 × (Nat → Nat → Nat) := match pm_ix b 100 with
  | none => (-2, S)
  | some b => if b = 0 then (-2, S) else (nI (if 999 < S 10 1 + b then 999 else S 10 1 + b), pm_st S 10 1 (if 999 < S 10 1 + b then 999 else S 10 1 + b))
def pm_aReopen (S : Nat → Nat → Nat) (f : Int32) : Int32 × (Nat → Nat → Nat) := match pm_ix f 30 with
  | none => (-1, S)
  | some f => if S 0 f = 0 ∨ S 0 f = 3 then (-5, S) else (nI (S 0 f), pm_st (pm_st (pm_st S 0 f 0) 1 f 0) 2 f 0)
end
section
/-! ===== what the reading calls answer ===== -/
def pm_pk (S : Nat → Nat → Nat) (f : Nat) : Bool := decide (S 0 f = 1 ∨ S 0 f = 3)
theorem pm_pk_t {S : Nat → Nat → Nat} {f : Nat} (h : S 0 f = 1 ∨ S 0 f = 3) : pm_pk S f = true := decide_eq_true h
theorem pm_pk_f {S : Nat → Nat → Nat} {f : Nat} (h : ¬ (S 0 f = 1 ∨ S 0 f = 3)) : pm_pk S f = false := decide_eq_false h
theorem pm_pk_i {S : Nat → Nat → Nat} {f : Nat} : pm_pk S f = true ↔ (S 0 f = 1 ∨ S 0 f = 3) := by simp [pm_pk]
/-- how many below n are so -/
def pm_num (P : Nat → Bool) : Nat → Nat
  | 0 => 0
  | n + 1 => pm_num P n + if P n = true then 1 else 0
theorem pm_num_p {P : Nat → Bool} {n : Nat} (h : P n = true) : pm_num P (n + 1) = pm_num P n + 1 := by rw [pm_num, if_pos h]
theorem pm_num_n {P : Nat → Bool} {n : Nat} (h : P n = false) : pm_num P (n + 1) = pm_num P n + 0 := by rw [pm_num, if_neg (by rw [h]; decide)]
theorem pm_num_le (P : Nat → Bool) : ∀ n, pm_num P n ≤ n
  | 0 => Nat.le_refl 0
  | n + 1 => by
    have := pm_num_le P n
    rw [pm_num]
    split <;> omega
theorem pm_num_eq {P Q : Nat → Bool} : ∀ n, (∀ k, k < n → P k = Q k) → pm_num P n = pm_num Q n
  | 0, _ => rfl
  | n + 1, h => by rw [pm_num, pm_num, pm_num_eq n (fun k hk => h k (by omega)), h n (by omega)]
theorem pm_num_add {P Q R : Nat → Bool} : ∀ n, (∀ k, k < n → (R k = true ↔ (P k = true ∨ Q k = true)) ∧ ¬ (P k = true ∧ Q k = true)) → pm_num R n = pm_num P n + pm_num Q n
  | 0, _ => rfl
  | n + 1, h => by
    obtain ⟨h1, h2⟩ := h n (by omega)
    rw [pm_num, pm_num, pm_num, pm_num_add n (fun k hk => h k (by omega))]
    by_cases hp : P n = true <;> by_cases hq : Q n = true
    · exact absurd ⟨hp, hq⟩ h2
    · rw [if_pos (h1.mpr (Or.inl hp)), if_pos hp, if_neg hq]; omega
    · rw [if_pos (h1.mpr (Or.inr hq)), if_neg hp, if_pos hq]; omega
    · rw [if_neg (fun z => (h1.mp z).elim hp hq), if_neg hp, if_neg hq]; omega
theorem pm_num_0 {P : Nat → Bool} : ∀ n, (∀ k, k < n → P k = false) → pm_num P n = 0
  | 0, _ => rfl
  | n + 1, h => by rw [pm_num, pm_num_0 n (fun k hk => h k (by omega)), h n (by omega)]; rfl
theorem pm_num_cut {P : Nat → Bool} {f : Nat} : ∀ n, f ≤ n → (∀ k, f ≤ k → k < n → P k = false) → pm_num P n = pm_num P f
  | 0, hf, _ => by rw [show f = 0 by omega]
  | n + 1, hf, h => by
    by_cases hn : f = n + 1
    · rw [hn]
    · rw [pm_num, pm_num_cut n (by omega) (fun k h1 h2 => h k h1 (by omega)), h n (by omega) (by omega)]
      simp
theorem pm_pc0 {x : Nat} (h : x < 8) : pm_pc x = 0 ↔ x = 0 := by
  unfold pm_pc
  omega
theorem pm_T3 : ∀ m, m < 64 → pm_okb m = true → (pm_tk m = 0 ∧ pm_ck m = 0 ↔ m = 0) := by decide +kernel
theorem pm_zero {m : Nat} (h : pm_okb m = true) : pm_tk m = 0 ∧ pm_ck m = 0 ↔ m = 0 := pm_T3 m (pm_okb64 h) h
theorem pm_dl_1 {S : Nat → Nat → Nat} {f : Nat} (h : S 4 f = 0) : pm_dl S f = S 1 f + 1 := by rw [pm_dl, if_pos h]
theorem pm_dl_0 {S : Nat → Nat → Nat} {f : Nat} (h : ¬ S 4 f = 0) : pm_dl S f = 0 := by rw [pm_dl, if_neg h]
theorem pm_dl_le (S : Nat → Nat → Nat) (f : Nat) : pm_dl S f ≤ S 1 f + 1 := by
  unfold pm_dl
  split <;> omega
theorem pm_aft3 (S : Nat → Nat → Nat) (f : Nat) : pm_aft S f < 3 := by
  unfold pm_aft
  (repeat' split) <;> omega
theorem pm_ci_p {x : Nat} (h : 0 < x) : pm_ci x = nI (x - 1) := by rw [pm_ci, if_neg (by omega)]
theorem pm_cases (x : Int32) {n : Nat} (hn : n < 2 ^ 31) : (x < 0 ∨ nI n ≤ x) ∨ ∃ j : Nat, j < n ∧ x = nI j := by
  rcases pk_ix x hn with h | h | h
  · exact Or.inl (Or.inl h)
  · exact Or.inl (Or.inr h)
  · exact Or.inr h
theorem pm_swout {x : Int32} {n : Nat} (hn : n + 1 < 2 ^ 31) (h : x < 0 ∨ nI (n + 1) ≤ x) : x.toInt < 0 ∨ (n : Int) < x.toInt := by
  rcases h with h | h
  · exact Or.inl (Int32.lt_iff_toInt_lt.mp h)
  · have a := Int32.le_iff_toInt_le.mp h
    rw [nI_toInt hn] at a
    omega
def pm_of (S : Nat → Nat → Nat) (f w : Int32) : Int32 := match pm_ix f 30 with
  | none => -1
  | some f => match pm_ix w 6 with
    | none => -2
    | some 0 => nI (S 0 f)
    | some 1 => nI (pm_tk (S 4 f))
    | some 2 => nI (pm_ck (S 4 f))
    | some 3 => nI (S 1 f)
    | some 4 => nI (S 2 f)
    | some _ => pm_ci (S 3 f)
def pm_ed (S : Nat → Nat → Nat) (e w : Int32) : Int32 := match pm_ix e 3 with
  | none => -1
  | some e => match pm_ix w 7 with
    | none => -2
    | some 0 => nI (S 5 e)
    | some 1 => nI (pm_cnt S e 1 30)
    | some 2 => nI (pm_cnt S e 2 30)
    | some 3 => nI (S 9 1 - pm_cnt S e 2 30)
    | some 4 => nI (S 6 e)
    | some 5 => nI (S 7 e)
    | some _ => nI (S 8 e)
def pm_hm (S : Nat → Nat → Nat) (v : Nat) : Nat → Nat := pm_num (fun k => decide (S 0 k = v))
/-- the row of picked frames that ends ahead of n; the longest one below n -/
def pm_rl (S : Nat → Nat → Nat) : Nat → Nat
  | 0 => 0
  | n + 1 => if pm_pk S n = true then (if n % 6 = 0 then 0 else pm_rl S n) + 1 else 0
def pm_lm (S : Nat → Nat → Nat) : Nat → Nat
  | 0 => 0
  | n + 1 => if pm_lm S n < pm_rl S (n + 1) then pm_rl S (n + 1) else pm_lm S n
theorem pm_rl_le (S : Nat → Nat → Nat) : ∀ n, pm_rl S n ≤ n
  | 0 => Nat.le_refl 0
  | n + 1 => by
    have := pm_rl_le S n
    rw [pm_rl]
    (repeat' split) <;> omega
theorem pm_lm_le (S : Nat → Nat → Nat) : ∀ n, pm_lm S n ≤ n
  | 0 => Nat.le_refl 0
  | n + 1 => by
    have := pm_lm_le S n
    have := pm_rl_le S (n + 1)
    rw [pm_lm]
    split <;> omega
def pm_co (S : Nat → Nat → Nat) (w : Int32) : Int32 := match pm_ix w 15 with
  | none => -2
  | some 0 => nI (S 10 0)
  | some 1 => nI (pm_hm S 0 30)
  | some 2 => nI (pm_hm S 1 30)
  | some 3 => nI (pm_hm S 2 30)
  | some 4 => nI (pm_hm S 3 30)
  | some 5 => nI (S 10 1)
  | some 6 => nI (S 10 2)
  | some 7 => nI (S 11 1)
  | some 8 => nI (S 11 2)
  | some 9 => nI (S 11 3)
  | some 10 => nI (pm_lm S 30)
  | some 11 => nI (S 9 0)
  | some 12 => nI (S 9 1)
  | some 13 => nI (S 9 2)
  | some _ => nI (S 9 3)
def pm_why (S : Nat → Nat → Nat) (f : Int32) : Int32 := match pm_ix f 30 with
  | none => -1
  | some f => if S 0 f ≠ 0 then nI 1 else if pm_ck (S 4 f) ≠ 0 then nI 2 else if S 9 0 ≤ pm_tc (S 4 f) then nI 0 else nI 3
def pm_bc (S : Nat → Nat → Nat) (v : Nat) : Nat → Nat := pm_num (fun k => decide (S 0 k = 0 ∧ pm_aft S k = v))
def pm_ifr (S : Nat → Nat → Nat) (w : Int32) : Int32 := match pm_ix w 3 with
  | none => -2
  | some 0 => nI (pm_bc S 1 30)
  | some 1 => nI (pm_bc S 2 30)
  | some _ => nI (pm_bc S 0 30)
/-- would a frame with the marks m be chosen, where n ticks are wanted -/
def pm_wd (n m : Nat) : Bool := decide (pm_ck m = 0 ∧ n ≤ pm_tc m)
/-- would another mark of the editor i change that: some of the first c marks -/
def pm_mc (n m i : Nat) : Nat → Bool
  | 0 => false
  | c + 1 => pm_mc n m i c || (pm_wd n (pm_sm m i c) != pm_wd n m)
def pm_ds (S : Nat → Nat → Nat) (f : Nat) : Nat → Nat
  | 0 => 0
  | n + 1 => pm_ds S f n + if S 0 f = 0 ∧ pm_mc (S 9 0) (S 4 f) n 3 = true then 2 ^ n else 0
def pm_dec (S : Nat → Nat → Nat) (f : Int32) : Int32 := match pm_ix f 30 with
  | none => -1
  | some f => nI (pm_ds S f 3)
def pm_bo (S : Nat → Nat → Nat) (e o : Nat) : Nat → Nat := pm_num (fun k => decide (¬ pm_mk (S 4 k) e = 0 ∧ ¬ pm_mk (S 4 k) o = 0))
def pm_sa (S : Nat → Nat → Nat) (e o : Nat) : Nat → Nat := pm_num (fun k => decide ((¬ pm_mk (S 4 k) e = 0 ∧ ¬ pm_mk (S 4 k) o = 0) ∧ pm_mk (S 4 k) e = pm_mk (S 4 k) o))
def pm_agr (S : Nat → Nat → Nat) (e o : Int32) : Int32 := match pm_ix e 3 with
  | none => -1
  | some e => match pm_ix o 3 with
    | none => -1
    | some o => if pm_bo S e o 30 = 0 then nI 100 else nI (100 * pm_sa S e o 30 / pm_bo S e o 30)
def pm_pf (S : Nat → Nat → Nat) : Nat → Nat
  | 0 => 0
  | n + 1 => pm_pf S n + if S 0 n = 1 then 10 * S 2 n * S 2 n else 0
theorem pm_pf_p {S : Nat → Nat → Nat} {n : Nat} (h : S 0 n = 1) : pm_pf S (n + 1) = pm_pf S n + 10 * S 2 n * S 2 n := by rw [pm_pf, if_pos h]
theorem pm_pf_n {S : Nat → Nat → Nat} {n : Nat} (h : ¬ S 0 n = 1) : pm_pf S (n + 1) = pm_pf S n := by rw [pm_pf, if_neg h]; rfl
/-- how many picked frames were chosen ahead of f -/
def pm_ahd (S : Nat → Nat → Nat) (f : Nat) : Nat := pm_num (fun k => decide (pm_pk S k = true ∧ (S 3 k < S 3 f ∨ (S 3 k = S 3 f ∧ k < f)))) 30
def pm_isch (S : Nat → Nat → Nat) (rank r : Int32) : Prop := (∃ f, f < 30 ∧ (S 0 f = 1 ∨ S 0 f = 3) ∧ rank = nI (pm_ahd S f) ∧ r = nI f) ∨ ((∀ f, f < 30 → (S 0 f = 1 ∨ S 0 f = 3) → ¬ rank = nI (pm_ahd S f)) ∧ r = -1)
def pm_A (S : Nat → Nat → Nat) (r : Nat) : Nat → Nat := pm_num (fun k => decide (pm_pk S k = true ∧ S 3 k ≤ r))
def pm_B (S : Nat → Nat → Nat) (r : Nat) : Nat → Nat := pm_num (fun k => decide (pm_pk S k = true ∧ S 3 k = r + 1))
theorem pm_AB (S : Nat → Nat → Nat) (r n : Nat) : pm_A S (r + 1) n = pm_A S r n + pm_B S r n := by
  refine pm_num_add n (fun k _ => ⟨?_, ?_⟩)
  · simp only [decide_eq_true_eq]
    constructor
    · rintro ⟨a, b⟩
      rcases (show S 3 k ≤ r ∨ S 3 k = r + 1 by omega) with h | h
      · exact Or.inl ⟨a, h⟩
      · exact Or.inr ⟨a, h⟩
    · rintro (⟨a, b⟩ | ⟨a, b⟩)
      · exact ⟨a, by omega⟩
      · exact ⟨a, by omega⟩
  · simp only [decide_eq_true_eq]
    rintro ⟨⟨_, a⟩, ⟨_, b⟩⟩
    omega
theorem pm_A0 {S : Nat → Nat → Nat} (hI : pm_Inv S) : pm_A S 0 30 = 0 := by
  refine pm_num_0 30 (fun k hk => decide_eq_false ?_)
  rintro ⟨a, b⟩
  have := hI.pick k hk (pm_pk_i.mp a)
  omega
theorem pm_ahd_at {S : Nat → Nat → Nat} {r f : Nat} (hf : f < 30) (h : S 3 f = r + 1) : pm_ahd S f = pm_A S r 30 + pm_B S r f := by
  have e : pm_B S r f = pm_num (fun k => decide (pm_pk S k = true ∧ S 3 k = r + 1 ∧ k < f)) 30 := by
    rw [pm_num_cut (f := f) 30 (by omega) (fun k h1 _ => decide_eq_false (fun z => by omega))]
    exact pm_num_eq f (fun k hk => decide_eq_decide.mpr ⟨fun z => ⟨z.1, z.2, hk⟩, fun z => ⟨z.1, z.2.1⟩⟩)
  rw [e]
  refine pm_num_add 30 (fun k _ => ⟨?_, ?_⟩)
  · simp only [decide_eq_true_eq]
    rw [h]
    constructor
    · rintro ⟨a, b | ⟨b, c⟩⟩
      · exact Or.inl ⟨a, by omega⟩
      · exact Or.inr ⟨a, b, c⟩
    · rintro (⟨a, b⟩ | ⟨a, b, c⟩)
      · exact ⟨a, Or.inl (by omega)⟩
      · exact ⟨a, Or.inr ⟨b, c⟩⟩
  · simp only [decide_eq_true_eq]
    rintro ⟨⟨_, a⟩, ⟨_, b, _⟩⟩
    omega
theorem pm_num_lt {P Q : Nat → Bool} {f : Nat} : ∀ n, f < n → (∀ k, k < n → P k = true → Q k = true) → P f = false → Q f = true → pm_num P n < pm_num Q n
  | 0, hf, _, _, _ => absurd hf (Nat.not_lt_zero f)
  | n + 1, hf, h, h1, h2 => by
    rw [pm_num, pm_num]
    by_cases hn : f = n
    · subst hn
      have := pm_num_mono f (fun k hk => h k (by omega))
      rw [if_neg (by rw [h1]; decide), if_pos h2]
      omega
    · have := pm_num_lt n (by omega) (fun k hk => h k (by omega)) h1 h2
      by_cases hp : P n = true
      · rw [if_pos hp, if_pos (h n (by omega) hp)]; omega
      · rw [if_neg hp]; split <;> omega
where
  pm_num_mono {P Q : Nat → Bool} : ∀ n, (∀ k, k < n → P k = true → Q k = true) → pm_num P n ≤ pm_num Q n
  | 0, _ => Nat.le_refl 0
  | n + 1, h => by
    have := pm_num_mono n (fun k hk => h k (by omega))
    rw [pm_num, pm_num]
    by_cases hp : P n = true
    · rw [if_pos hp, if_pos (h n (by omega) hp)]; omega
    · rw [if_neg hp]; split <;> omega
theorem pm_ahd_lt {S : Nat → Nat → Nat} {f g : Nat} (hf : f < 30) (pf : pm_pk S f = true) (h : S 3 f < S 3 g ∨ (S 3 f = S 3 g ∧ f < g)) : pm_ahd S f < pm_ahd S g := by
  refine pm_num_lt 30 hf (fun k _ hk => ?_) (decide_eq_false (by rintro ⟨_, z | z⟩ <;> omega)) (decide_eq_true ⟨pf, h⟩)
  simp only [decide_eq_true_eq] at hk ⊢
  obtain ⟨a, b⟩ := hk
  exact ⟨a, by omega⟩
theorem pm_ahd_inj {S : Nat → Nat → Nat} {f g : Nat} (hf : f < 30) (hg : g < 30) (pf : pm_pk S f = true) (pg : pm_pk S g = true) (h : pm_ahd S f = pm_ahd S g) : f = g := by
  rcases (show (S 3 f < S 3 g ∨ (S 3 f = S 3 g ∧ f < g)) ∨ (S 3 g < S 3 f ∨ (S 3 g = S 3 f ∧ g < f)) ∨ f = g by omega) with z | z | z
  · exact absurd (pm_ahd_lt hf pf z) (by omega)
  · exact absurd (pm_ahd_lt hg pg z) (by omega)
  · exact z
theorem pm_ahd_le (S : Nat → Nat → Nat) (f : Nat) : pm_ahd S f ≤ 30 := pm_num_le _ 30
theorem pm_isch_u {S : Nat → Nat → Nat} {k r r' : Int32} (h : pm_isch S k r) (h' : pm_isch S k r') : r = r' := by
  rcases h with ⟨f, hf, pf, e, rfl⟩ | ⟨h, rfl⟩
  · rcases h' with ⟨g, hg, pg, e', rfl⟩ | ⟨h', rfl⟩
    · have := pm_ahd_le S f
      have := pm_ahd_le S g
      rw [pm_ahd_inj hf hg (pm_pk_t pf) (pm_pk_t pg) ((nI_eq (by omega) (by omega)).mp (e.symm.trans e'))]
    · exact absurd e (h' f hf pf)
  · rcases h' with ⟨g, hg, pg, e', rfl⟩ | ⟨h', rfl⟩
    · exact absurd e' (h g hg pg)
    · rfl
end
section
set_option maxHeartbeats 4000000 in
set_option maxRecDepth 100000 in
theorem k_X2_isEditor (l : Launch) (x : Int32)  : Met l yX2_isEditor wsX2_isEditor ({ frames := 0, cells := 0, slots := 0, locals := 0 } : Room) (pm_no [.int x]) (vp_Si (fun r : Int32 => (∃ j, j < 3 ∧ x = nI j ∧ r = nI 1) ∨ ((x < 0 ∨ nI 3 ≤ x) ∧ r = nI 0))) 0 0 (fun _ => False) := by
  refine Met.ofW (cc := cX2_isEditor) (maxL := 1) (ret := (some .boolean)) (by decide) rfl ?_
  intro p e s m args below meth c s₁ B hml hpre
  obtain ⟨rfl, -⟩ := hpre
  have hx := B.exec
  have hb := B.bytes
  have hr := B.returns
  have hts := atoms_spec (ws := wsX2_isEditor) B.pre
  have hown : s.vm.findClass RX2 = some m.cls := findClass_of_methodNamed B.named
  have hlocks := B.notSynchronized
  have hl := lv_entry ([.int x]) (n := 1) (Nat.le_of_ble_eq_true rfl)
  rw [lg_entry_eq]
  generalize (lg_sl ([.int x]) ++ List.replicate (1 - (lg_sl ([.int x])).length) Slot.unset).toArray = ls at hl ⊢
  have hl : lv_has ls 1 [(0, .int x)] := hl
  refine lv_iload_n hx hb dX2_isEditor_0 rfl (lv_at hl 0 rfl) ?_
  refine lv_if_lt (tgt := 13) hx hb dX2_isEditor_1 (by decide) (fun c1 => ?_) (fun c1 => ?_)
  · skip
    refine lv_iconst (v := nI 0) hx hb dX2_isEditor_13 (by decide) ?_
    exact W.zret (ty := .boolean) hx hb hr rfl (fun t ht _ => ⟨_, rfl, Or.inr ⟨by first | exact Or.inl (by assumption) | exact Or.inr (by assumption), rfl⟩, ht⟩) (fun _ h => absurd h List.not_mem_nil) dX2_isEditor_14
  · skip
    refine lv_iload_n hx hb dX2_isEditor_4 rfl (lv_at hl 0 rfl) ?_
    refine lv_iconst (v := nI 3) hx hb dX2_isEditor_5 (by decide) ?_
    refine lv_icmp_ge (tgt := 13) hx hb dX2_isEditor_6 (by decide) (fun c2 => ?_) (fun c2 => ?_)
    · skip
      refine lv_iconst (v := nI 0) hx hb dX2_isEditor_13 (by decide) ?_
      exact W.zret (ty := .boolean) hx hb hr rfl (fun t ht _ => ⟨_, rfl, Or.inr ⟨by first | exact Or.inl (by assumption) | exact Or.inr (by assumption), rfl⟩, ht⟩) (fun _ h => absurd h List.not_mem_nil) dX2_isEditor_14
    · skip
      refine lv_iconst (v := nI 1) hx hb dX2_isEditor_9 (by decide) ?_
      refine lv_goto (tgt := 14) hx hb dX2_isEditor_10 (by decide) ?_
      exact W.zret (ty := .boolean) hx hb hr rfl (fun t ht _ => ⟨_, rfl, Or.inl (by obtain ⟨j, hj, ej⟩ := pm_rin (x := x) (n := 3) (by decide) (by assumption) (by assumption); exact ⟨j, hj, ej, rfl⟩), ht⟩) (fun _ h => absurd h List.not_mem_nil) dX2_isEditor_14

set_option maxHeartbeats 4000000 in
set_option maxRecDepth 100000 in
theorem k_X2_isFrame (l : Launch) (x : Int32)  : Met l yX2_isFrame wsX2_isFrame ({ frames := 0, cells := 0, slots := 0, locals := 0 } : Room) (pm_no [.int x]) (vp_Si (fun r : Int32 => (∃ j, j < 30 ∧ x = nI j ∧ r = nI 1) ∨ ((x < 0 ∨ nI 30 ≤ x) ∧ r = nI 0))) 0 0 (fun _ => False) := by
  refine Met.ofW (cc := cX2_isFrame) (maxL := 1) (ret := (some .boolean)) (by decide) rfl ?_
  intro p e s m args below meth c s₁ B hml hpre
  obtain ⟨rfl, -⟩ := hpre
  have hx := B.exec
  have hb := B.bytes
  have hr := B.returns
  have hts := atoms_spec (ws := wsX2_isFrame) B.pre
  have hown : s.vm.findClass RX2 = some m.cls := findClass_of_methodNamed B.named
  have hlocks := B.notSynchronized
  have hl := lv_entry ([.int x]) (n := 1) (Nat.le_of_ble_eq_true rfl)
  rw [lg_entry_eq]
  generalize (lg_sl ([.int x]) ++ List.replicate (1 - (lg_sl ([.int x])).length) Slot.unset).toArray = ls at hl ⊢
  have hl : lv_has ls 1 [(0, .int x)] := hl
  refine lv_iload_n hx hb dX2_isFrame_0 rfl (lv_at hl 0 rfl) ?_
  refine lv_if_lt (tgt := 14) hx hb dX2_isFrame_1 (by decide) (fun c1 => ?_) (fun c1 => ?_)
  · skip
    refine lv_iconst (v := nI 0) hx hb dX2_isFrame_14 (by decide) ?_
    exact W.zret (ty := .boolean) hx hb hr rfl (fun t ht _ => ⟨_, rfl, Or.inr ⟨by first | exact Or.inl (by assumption) | exact Or.inr (by assumption), rfl⟩, ht⟩) (fun _ h => absurd h List.not_mem_nil) dX2_isFrame_15
  · skip
    refine lv_iload_n hx hb dX2_isFrame_4 rfl (lv_at hl 0 rfl) ?_
    refine lv_bipush (v := nI 30) hx hb dX2_isFrame_5 (by decide) ?_
    refine lv_icmp_ge (tgt := 14) hx hb dX2_isFrame_7 (by decide) (fun c2 => ?_) (fun c2 => ?_)
    · skip
      refine lv_iconst (v := nI 0) hx hb dX2_isFrame_14 (by decide) ?_
      exact W.zret (ty := .boolean) hx hb hr rfl (fun t ht _ => ⟨_, rfl, Or.inr ⟨by first | exact Or.inl (by assumption) | exact Or.inr (by assumption), rfl⟩, ht⟩) (fun _ h => absurd h List.not_mem_nil) dX2_isFrame_15
    · skip
      refine lv_iconst (v := nI 1) hx hb dX2_isFrame_10 (by decide) ?_
      refine lv_goto (tgt := 15) hx hb dX2_isFrame_11 (by decide) ?_
      exact W.zret (ty := .boolean) hx hb hr rfl (fun t ht _ => ⟨_, rfl, Or.inl (by obtain ⟨j, hj, ej⟩ := pm_rin (x := x) (n := 30) (by decide) (by assumption) (by assumption); exact ⟨j, hj, ej, rfl⟩), ht⟩) (fun _ h => absurd h List.not_mem_nil) dX2_isFrame_15

set_option maxHeartbeats 4000000 in
set_option maxRecDepth 100000 in
theorem k_X2_withEditor (l : Launch) (a b d : Int32)  : Met l yX2_withEditor wsX2_withEditor ({ frames := 0, cells := 0, slots := 0, locals := 0 } : Room) (pm_no [.int a, .int b, .int d]) (vp_Si (fun r : Int32 => r = pm_we a b d)) 0 0 (fun _ => False) := by
  refine Met.ofW (cc := cX2_withEditor) (maxL := 4) (ret := (some .int)) (by decide) rfl ?_
  intro p e s m args below meth c s₁ B hml hpre
  obtain ⟨rfl, -⟩ := hpre
  have hx := B.exec
  have hb := B.bytes
  have hr := B.returns
  have hts := atoms_spec (ws := wsX2_withEditor) B.pre
  have hown : s.vm.findClass RX2 = some m.cls := findClass_of_methodNamed B.named
  have hlocks := B.notSynchronized
  have hl := lv_entry ([.int a, .int b, .int d]) (n := 4) (Nat.le_of_ble_eq_true rfl)
  rw [lg_entry_eq]
  generalize (lg_sl ([.int a, .int b, .int d]) ++ List.replicate (4 - (lg_sl ([.int a, .int b, .int d])).length) Slot.unset).toArray = ls at hl ⊢
  have hl : lv_has ls 4 [(0, .int a), (1, .int b), (2, .int d)] := hl
  refine lv_iconst (v := nI 1) hx hb dX2_withEditor_0 (by decide) ?_
  refine lv_iload_n hx hb dX2_withEditor_1 rfl (lv_at hl 1 rfl) ?_
  refine lv_ishl hx hb dX2_withEditor_2 ?_
  refine lv_istore_n (lv' := [(3, .int ((nI 1) <<< (b &&& 31))), (0, .int a), (1, .int b), (2, .int d)]) hx hb dX2_withEditor_3 rfl hl (by decide) rfl (fun ls hl => ?_)
  refine lv_iload_n hx hb dX2_withEditor_4 rfl (lv_at hl 3 rfl) ?_
  refine lv_if_eq (tgt := 14) hx hb dX2_withEditor_5 (by decide) (fun c1 => ?_) (fun c1 => ?_)
  · skip
    refine lv_iload_n hx hb dX2_withEditor_14 rfl (lv_at hl 1 rfl) ?_
    refine lv_iload_n hx hb dX2_withEditor_15 rfl (lv_at hl 0 rfl) ?_
    refine lv_iconst (v := -1) hx hb dX2_withEditor_16 (by decide) ?_
    refine lv_ixor hx hb dX2_withEditor_17 ?_
    refine lv_iand hx hb dX2_withEditor_18 ?_
    exact W.iret hx hb hr (fun t ht _ => ⟨_, rfl, (by unfold pm_we; first | rw [if_pos (by assumption)] | rw [if_neg (by assumption)]), ht⟩) (fun _ h => absurd h List.not_mem_nil) dX2_withEditor_19
  · skip
    refine lv_iload_n hx hb dX2_withEditor_8 rfl (lv_at hl 1 rfl) ?_
    refine lv_iload_n hx hb dX2_withEditor_9 rfl (lv_at hl 0 rfl) ?_
    refine lv_ior hx hb dX2_withEditor_10 ?_
    refine lv_goto (tgt := 19) hx hb dX2_withEditor_11 (by decide) ?_
    exact W.iret hx hb hr (fun t ht _ => ⟨_, rfl, (by unfold pm_we; first | rw [if_pos (by assumption)] | rw [if_neg (by assumption)]), ht⟩) (fun _ h => absurd h List.not_mem_nil) dX2_withEditor_19

set_option maxHeartbeats 4000000 in
set_option maxRecDepth 100000 in
theorem k_X2_paperOf (l : Launch) (z : Nat)  : Met l yX2_paperOf wsX2_paperOf ({ frames := 0, cells := 0, slots := 0, locals := 0 } : Room) (pm_no [.int (nI z)]) (vp_Si (fun r : Int32 => r = nI (10 * z * z))) 0 0 (fun _ => False) := by
  refine Met.ofW (cc := cX2_paperOf) (maxL := 1) (ret := (some .int)) (by decide) rfl ?_
  intro p e s m args below meth c s₁ B hml hpre
  obtain ⟨rfl, -⟩ := hpre
  have hx := B.exec
  have hb := B.bytes
  have hr := B.returns
  have hts := atoms_spec (ws := wsX2_paperOf) B.pre
  have hown : s.vm.findClass RX2 = some m.cls := findClass_of_methodNamed B.named
  have hlocks := B.notSynchronized
  have hl := lv_entry ([.int (nI z)]) (n := 1) (Nat.le_of_ble_eq_true rfl)
  rw [lg_entry_eq]
  generalize (lg_sl ([.int (nI z)]) ++ List.replicate (1 - (lg_sl ([.int (nI z)])).length) Slot.unset).toArray = ls at hl ⊢
  have hl : lv_has ls 1 [(0, .int (nI z))] := hl
  refine lv_bipush (v := nI 10) hx hb dX2_paperOf_0 (by decide) ?_
  refine lv_iload_n hx hb dX2_paperOf_2 rfl (lv_at hl 0 rfl) ?_
  refine kx_imul hx hb dX2_paperOf_3 ?_
  refine lv_iload_n hx hb dX2_paperOf_4 rfl (lv_at hl 0 rfl) ?_
  refine kx_imul hx hb dX2_paperOf_5 ?_
  exact W.iret hx hb hr (fun t ht _ => ⟨_, rfl, rfl, ht⟩) (fun _ h => absurd h List.not_mem_nil) dX2_paperOf_6

set_option maxHeartbeats 4000000 in
set_option maxRecDepth 100000 in
theorem k_X2_markOf (l : Launch) (D : va_G) (y : Nat → ClassId) (q : Nat → Nat) (S : Nat → Nat → Nat) (i f : Nat) (ho : pm_okb (S 4 f) = true) (hi : i < 3) (hf : f < 30) : Met l yX2_markOf wsX2_markOf ({ frames := 0, cells := 0, slots := 0, locals := 0 } : Room) (pm_ro D (pm_ty y) [.ref (q 0), .int (nI i), .int (nI f)] (pm_shS y q S)) (vp_Si (fun r : Int32 => r = nI (pm_mk (S 4 f) i))) 0 0 (fun _ => False) := by
  refine Met.ofW (cc := cX2_markOf) (maxL := 4) (ret := (some .int)) (by decide) rfl ?_
  intro p e s m args below meth c s₁ B hml hpre
  obtain ⟨rfl, hP, hK⟩ := hpre
  have hx := B.exec
  have hb := B.bytes
  have hr := B.returns
  have hts := atoms_spec (ws := wsX2_markOf) B.pre
  have hown : s.vm.findClass RX2 = some m.cls := findClass_of_methodNamed B.named
  have hlocks := B.notSynchronized
  have hin2 : ∀ w ∈ u_ws RX2 TX2 15, w ∈ wsX2_markOf := fun w h => List.mem_cons_of_mem _ (List.mem_append_right _ h)
  have hP : va_P D vwCl (pm_shS y q S) s.heap := hP
  have hl := lv_entry ([.ref (q 0), .int (nI i), .int (nI f)]) (n := 4) (Nat.le_of_ble_eq_true rfl)
  rw [lg_entry_eq]
  generalize (lg_sl ([.ref (q 0), .int (nI i), .int (nI f)]) ++ List.replicate (4 - (lg_sl ([.ref (q 0), .int (nI i), .int (nI f)])).length) Slot.unset).toArray = ls at hl ⊢
  have hl : lv_has ls 4 [(0, .ref (q 0)), (1, .int (nI i)), (2, .int (nI f))] := hl
  refine lv_iconst (v := nI 1) hx hb dX2_markOf_0 (by decide) ?_
  refine lv_iload_n hx hb dX2_markOf_1 rfl (lv_at hl 1 rfl) ?_
  refine lv_ishl hx hb dX2_markOf_2 ?_
  refine lv_topi (fun x1 e2 => ?_)
  obtain rfl : x1 = nI (2 ^ i) := e2.trans (pm_bit i hi)
  refine lv_istore_n (lv' := [(3, .int (nI (2 ^ i))), (0, .ref (q 0)), (1, .int (nI i)), (2, .int (nI f))]) hx hb dX2_markOf_3 rfl hl (by decide) rfl (fun ls hl => ?_)
  refine lv_aload_n hx hb dX2_markOf_4 rfl (lv_at hl 1 rfl) ?_
  refine va_get (D := D) (ci := 2) (v := .ref (q 3)) (C := RX2) (T := TX2) (N := 15) hx hb hts hin2 hown hK hP 0 rfl rfl 2 (by decide) (hts (.fieldLink RX2 18 "ProofMarks$Sheet" "ticks" "[I") (List.mem_of_getElem? (i := 1) rfl)) (fun _ h9 => h9) rfl dX2_markOf_5 ?_
  refine lv_iload_n hx hb dX2_markOf_8 rfl (lv_at hl 3 rfl) ?_
  refine kx_iald (v := nI (pm_tk ((S 4) f))) hx hb hK hP 3 0 rfl rfl (by omega) (by decide) rfl dX2_markOf_9 ?_
  have := pm_tk8 ((S 4) f)
  refine lv_iload_n hx hb dX2_markOf_10 rfl (lv_at hl 0 rfl) ?_
  refine lv_iand hx hb dX2_markOf_11 ?_
  refine lv_if_eq (tgt := 17) hx hb dX2_markOf_12 (by decide) (fun c3 => ?_) (fun c3 => ?_)
  · skip
    refine lv_aload_n hx hb dX2_markOf_17 rfl (lv_at hl 1 rfl) ?_
    refine va_get (D := D) (ci := 2) (v := .ref (q 4)) (C := RX2) (T := TX2) (N := 15) hx hb hts hin2 hown hK hP 0 rfl rfl 3 (by decide) (hts (.fieldLink RX2 21 "ProofMarks$Sheet" "crosses" "[I") (List.mem_of_getElem? (i := 2) rfl)) (fun _ h9 => h9) rfl dX2_markOf_18 ?_
    refine lv_iload_n hx hb dX2_markOf_21 rfl (lv_at hl 3 rfl) ?_
    refine kx_iald (v := nI (pm_ck ((S 4) f))) hx hb hK hP 4 0 rfl rfl (by omega) (by decide) rfl dX2_markOf_22 ?_
    have := pm_ck8 ((S 4) f)
    refine lv_iload_n hx hb dX2_markOf_23 rfl (lv_at hl 0 rfl) ?_
    refine lv_iand hx hb dX2_markOf_24 ?_
    refine lv_if_eq (tgt := 32) hx hb dX2_markOf_25 (by decide) (fun c4 => ?_) (fun c4 => ?_)
    · skip
      refine lv_iconst (v := nI 0) hx hb dX2_markOf_32 (by decide) ?_
      exact W.iret hx hb hr (fun t ht _ => ⟨_, rfl, (congrArg nI (by have h1 := (pm_tkbit ho hi).mp (by assumption); have h2 := (pm_ckbit ho hi).mp (by assumption); have h3 := pm_mk3 ho hi; omega)), ht⟩) (fun _ h => absurd h List.not_mem_nil) dX2_markOf_33
    · skip
      refine lv_iconst (v := nI 2) hx hb dX2_markOf_28 (by decide) ?_
      refine lv_goto (tgt := 33) hx hb dX2_markOf_29 (by decide) ?_
      exact W.iret hx hb hr (fun t ht _ => ⟨_, rfl, (congrArg nI (Classical.byContradiction fun z => absurd ((pm_ckbit ho hi).mpr (fun y => z y.symm)) (by assumption))), ht⟩) (fun _ h => absurd h List.not_mem_nil) dX2_markOf_33
  · skip
    refine lv_iconst (v := nI 1) hx hb dX2_markOf_15 (by decide) ?_
    exact W.iret hx hb hr (fun t ht _ => ⟨_, rfl, (congrArg nI (Classical.byContradiction fun z => absurd ((pm_tkbit ho hi).mpr (fun y => z y.symm)) (by assumption))), ht⟩) (fun _ h => absurd h List.not_mem_nil) dX2_markOf_16

set_option maxHeartbeats 4000000 in
set_option maxRecDepth 100000 in
theorem k_X2_marksOf (l : Launch) (D : va_G) (y : Nat → ClassId) (q : Nat → Nat) (S : Nat → Nat → Nat) (i v : Nat) (hI : pm_Inv S) (hi : i < 3) (hv : v < 3) : Met l yX2_marksOf wsX2_marksOf ({ frames := 1, cells := 0, slots := 0, locals := 23 } : Room) (pm_ro D (pm_ty y) [.ref (q 0), .int (nI i), .int (nI v)] (pm_shS y q S)) (vp_Si (fun r : Int32 => r = nI (pm_cnt S i v 30))) 0 0 (fun _ => False) := by
  refine Met.ofW (cc := cX2_marksOf) (maxL := 5) (ret := (some .int)) (by decide) rfl ?_
  intro p e s m args below meth c s₁ B hml hpre
  obtain ⟨rfl, hP, hK⟩ := hpre
  have hx := B.exec
  have hb := B.bytes
  have hr := B.returns
  have hts := atoms_spec (ws := wsX2_marksOf) B.pre
  have hown : s.vm.findClass RX2 = some m.cls := findClass_of_methodNamed B.named
  have hlocks := B.notSynchronized
  have hin2 : ∀ w ∈ u_ws RX2 TX2 15, w ∈ wsX2_marksOf := fun w h => List.mem_cons_of_mem _ (List.mem_append_right _ h)
  have hP : va_P D vwCl (pm_shS y q S) s.heap := hP
  have hl := lv_entry ([.ref (q 0), .int (nI i), .int (nI v)]) (n := 5) (Nat.le_of_ble_eq_true rfl)
  rw [lg_entry_eq]
  generalize (lg_sl ([.ref (q 0), .int (nI i), .int (nI v)]) ++ List.replicate (5 - (lg_sl ([.ref (q 0), .int (nI i), .int (nI v)])).length) Slot.unset).toArray = ls at hl ⊢
  have hl : lv_has ls 5 [(0, .ref (q 0)), (1, .int (nI i)), (2, .int (nI v))] := hl
  refine lv_iconst (v := nI 0) hx hb dX2_marksOf_0 (by decide) ?_
  refine lv_istore_n (lv' := [(3, .int (nI 0)), (0, .ref (q 0)), (1, .int (nI i)), (2, .int (nI v))]) hx hb dX2_marksOf_1 rfl hl (by decide) rfl (fun ls hl => ?_)
  refine lv_iconst (v := nI 0) hx hb dX2_marksOf_2 (by decide) ?_
  refine lv_istore (lv' := [(4, .int (nI 0)), (3, .int (nI 0)), (0, .ref (q 0)), (1, .int (nI i)), (2, .int (nI v))]) hx hb dX2_marksOf_3 hl (by decide) rfl (fun ls hl => ?_)
  have LOOP5 : ∀ (n k : Nat) (ls : Array Slot), k ≤ 30 → 30 - k < n → lv_has ls 5 [(0, .ref (q 0)), (1, .int (nI i)), (2, .int (nI v)), (3, .int (nI (pm_cnt S i v k))), (4, .int (nI k))] → W p l e (headSpec wsX2_marksOf ({ frames := 1, cells := 0, slots := 0, locals := 23 } : Room)).room s m ([.ref (q 0), .int (nI i), .int (nI v)] : List Value).toArray below meth c s.heap [] 0 0 (MQ below (vp_Si (fun r : Int32 => r = nI (pm_cnt S i v 30))) ([.ref (q 0), .int (nI i), .int (nI v)] : List Value).toArray s 0 0 (fun _ => False)) (F0 m 5 ls []) := by
    intro n
    induction n with
    | zero => intro k _ hi hn; omega
    | succ n ih1 =>
      intro k ls hi_k hn_k hl 
      refine lv_iload hx hb dX2_marksOf_5 (lv_at hl 4 rfl) ?_
      refine lv_bipush (v := nI 30) hx hb dX2_marksOf_7 (by decide) ?_
      refine kx_icmp_ge (tgt := 37) hx hb (by omega) (by decide) dX2_marksOf_9 (by decide) (fun c2 => ?_) (fun c2 => ?_)
      · skip
        refine lv_iload_n hx hb dX2_marksOf_37 rfl (lv_at hl 3 rfl) ?_
        exact W.iret hx hb hr (fun t ht _ => ⟨_, rfl, (by rw [show k = 30 by omega]), ht⟩) (fun _ h => absurd h List.not_mem_nil) dX2_marksOf_38
      · skip
        refine lv_iload_n hx hb dX2_marksOf_12 rfl (lv_at hl 3 rfl) ?_
        refine lv_aload_n hx hb dX2_marksOf_13 rfl (lv_at hl 0 rfl) ?_
        refine lv_iload_n hx hb dX2_marksOf_14 rfl (lv_at hl 1 rfl) ?_
        refine lv_iload hx hb dX2_marksOf_15 (lv_at hl 4 rfl) ?_
        refine vp_callSi (W.runV (As := [.int (nI i), .int (nI k)]) (rest := [.int (nI (pm_cnt S i v k))]) ⟨hx, hb, hml, hown, hts⟩ (k_X2_markOf l D y q S i k (hI.okm k (by omega)) (by omega) (by omega)) (cwV 2 hts gX2_marksOf_X2_markOf rfl rfl rfl hd_X2_markOf ⟨Nat.le_of_ble_eq_true rfl, Nat.le_of_ble_eq_true rfl⟩) ⟨pm_ro_blind, va_recv hK hP (ci := 2) (q0 := 0) rfl rfl, pm_ro_pre hP hK⟩ rfl rfl hl.1 rfl (lv_room (Nat.le_of_ble_eq_true rfl)) dX2_marksOf_17 ⟨Nat.le_of_ble_eq_true rfl, Nat.le_of_ble_eq_true rfl⟩) (fun r3 h4 => ?_)
        obtain rfl : r3 = nI (pm_mk (S 4 k) i) := h4
        have := pm_lt4 (S 4 k) i
        refine lv_iload_n hx hb dX2_marksOf_20 rfl (lv_at hl 2 rfl) ?_
        refine kx_icmp_ne (tgt := 28) hx hb (by omega) (by omega) dX2_marksOf_21 (by decide) (fun c5 => ?_) (fun c5 => ?_)
        · skip
          refine lv_iconst (v := nI 0) hx hb dX2_marksOf_28 (by decide) ?_
          refine kx_iadd hx hb dX2_marksOf_29 ?_
          refine lv_istore_n (lv' := [(3, .int (nI ((pm_cnt S i v k) + 0))), (0, .ref (q 0)), (1, .int (nI i)), (2, .int (nI v)), (4, .int (nI k))]) hx hb dX2_marksOf_30 rfl hl (by decide) rfl (fun ls hl => ?_)
          refine kx_iinc (a := k) (lv' := [(4, .int (nI (k + 1))), (3, .int (nI ((pm_cnt S i v k) + 0))), (0, .ref (q 0)), (1, .int (nI i)), (2, .int (nI v))]) hx hb dX2_marksOf_31 hl (k := 4) rfl (by decide) rfl (fun ls hl => ?_)
          refine lv_goto (tgt := 5) hx hb dX2_marksOf_34 (by decide) ?_
          have q6 : (nI (pm_cnt S i v (k + 1)) : Int32) = nI ((pm_cnt S i v k) + 0) := (by first | exact congrArg nI (pm_cnt_p (by assumption)) | exact congrArg nI (pm_cnt_n (by assumption)))
          exact ih1 (k + 1) ls (by omega) (by omega) (by rw [q6]; exact lv_sub hl [2, 3, 4, 1, 0] rfl) 
        · skip
          refine lv_iconst (v := nI 1) hx hb dX2_marksOf_24 (by decide) ?_
          refine lv_goto (tgt := 29) hx hb dX2_marksOf_25 (by decide) ?_
          refine kx_iadd hx hb dX2_marksOf_29 ?_
          refine lv_istore_n (lv' := [(3, .int (nI ((pm_cnt S i v k) + 1))), (0, .ref (q 0)), (1, .int (nI i)), (2, .int (nI v)), (4, .int (nI k))]) hx hb dX2_marksOf_30 rfl hl (by decide) rfl (fun ls hl => ?_)
          refine kx_iinc (a := k) (lv' := [(4, .int (nI (k + 1))), (3, .int (nI ((pm_cnt S i v k) + 1))), (0, .ref (q 0)), (1, .int (nI i)), (2, .int (nI v))]) hx hb dX2_marksOf_31 hl (k := 4) rfl (by decide) rfl (fun ls hl => ?_)
          refine lv_goto (tgt := 5) hx hb dX2_marksOf_34 (by decide) ?_
          have q7 : (nI (pm_cnt S i v (k + 1)) : Int32) = nI ((pm_cnt S i v k) + 1) := (by first | exact congrArg nI (pm_cnt_p (by assumption)) | exact congrArg nI (pm_cnt_n (by assumption)))
          exact ih1 (k + 1) ls (by omega) (by omega) (by rw [q7]; exact lv_sub hl [2, 3, 4, 1, 0] rfl) 
  exact LOOP5 (30 + 1) 0 ls (by omega) (by omega) (lv_sub hl [2, 3, 4, 1, 0] rfl) 

set_option maxHeartbeats 4000000 in
set_option maxRecDepth 100000 in
theorem k_X2_vetoesLeft (l : Launch) (D : va_G) (y : Nat → ClassId) (q : Nat → Nat) (S : Nat → Nat → Nat) (i : Nat) (hI : pm_Inv S) (hi : i < 3) : Met l yX2_vetoesLeft wsX2_vetoesLeft ({ frames := 2, cells := 0, slots := 0, locals := 47 } : Room) (pm_ro D (pm_ty y) [.ref (q 0), .int (nI i)] (pm_shS y q S)) (vp_Si (fun r : Int32 => r = nI (S 9 1 - pm_cnt S i 2 30))) 0 0 (fun _ => False) := by
  refine Met.ofW (cc := cX2_vetoesLeft) (maxL := 2) (ret := (some .int)) (by decide) rfl ?_
  intro p e s m args below meth c s₁ B hml hpre
  obtain ⟨rfl, hP, hK⟩ := hpre
  have hx := B.exec
  have hb := B.bytes
  have hr := B.returns
  have hts := atoms_spec (ws := wsX2_vetoesLeft) B.pre
  have hown : s.vm.findClass RX2 = some m.cls := findClass_of_methodNamed B.named
  have hlocks := B.notSynchronized
  have hin2 : ∀ w ∈ u_ws RX2 TX2 15, w ∈ wsX2_vetoesLeft := fun w h => List.mem_cons_of_mem _ (List.mem_append_right _ h)
  have hP : va_P D vwCl (pm_shS y q S) s.heap := hP
  have hl := lv_entry ([.ref (q 0), .int (nI i)]) (n := 2) (Nat.le_of_ble_eq_true rfl)
  rw [lg_entry_eq]
  generalize (lg_sl ([.ref (q 0), .int (nI i)]) ++ List.replicate (2 - (lg_sl ([.ref (q 0), .int (nI i)])).length) Slot.unset).toArray = ls at hl ⊢
  have hl : lv_has ls 2 [(0, .ref (q 0)), (1, .int (nI i))] := hl
  refine lv_aload_n hx hb dX2_vetoesLeft_0 rfl (lv_at hl 0 rfl) ?_
  refine va_get (D := D) (ci := 2) (v := .ref (q 1)) (C := RX2) (T := TX2) (N := 15) hx hb hts hin2 hown hK hP 0 rfl rfl 0 (by decide) (hts (.fieldLink RX2 11 "ProofMarks$Sheet" "settings" "[I") (List.mem_of_getElem? (i := 1) rfl)) (fun _ h9 => h9) rfl dX2_vetoesLeft_1 ?_
  refine lv_iconst (v := nI 1) hx hb dX2_vetoesLeft_4 (by decide) ?_
  refine kx_iald (v := nI ((S 9) 1)) hx hb hK hP 1 0 rfl rfl (by omega) (by decide) rfl dX2_vetoesLeft_5 ?_
  have := hI.set9 1 (by omega)
  refine lv_aload_n hx hb dX2_vetoesLeft_6 rfl (lv_at hl 0 rfl) ?_
  refine lv_iload_n hx hb dX2_vetoesLeft_7 rfl (lv_at hl 1 rfl) ?_
  refine lv_iconst (v := nI 2) hx hb dX2_vetoesLeft_8 (by decide) ?_
  refine vp_callSi (W.runV (As := [.int (nI i), .int (nI 2)]) (rest := [.int (nI ((S 9) 1))]) ⟨hx, hb, hml, hown, hts⟩ (k_X2_marksOf l D y q S i 2 hI (by omega) (by omega)) (cwV 2 hts gX2_vetoesLeft_X2_marksOf rfl rfl rfl hd_X2_marksOf ⟨Nat.le_of_ble_eq_true rfl, Nat.le_of_ble_eq_true rfl⟩) ⟨pm_ro_blind, va_recv hK hP (ci := 2) (q0 := 0) rfl rfl, pm_ro_pre hP hK⟩ rfl rfl hl.1 rfl (lv_room (Nat.le_of_ble_eq_true rfl)) dX2_vetoesLeft_9 ⟨Nat.le_of_ble_eq_true rfl, Nat.le_of_ble_eq_true rfl⟩) (fun r1 h2 => ?_)
  obtain rfl : r1 = nI (pm_cnt S i 2 30) := h2
  have := pm_cnt_le S i 2 30
  refine lv_isub hx hb dX2_vetoesLeft_12 ?_
  refine lv_iconst (v := nI 0) hx hb dX2_vetoesLeft_13 (by decide) ?_
  refine va_mmax hx hb (by rw [hml]; exact hl.1.symm) hown (hts (.methodLink RX2 138 Lib.Math.max.name) (List.mem_of_getElem? (i := 2) rfl)) (hts (.static Lib.Math.max.name) (List.mem_of_getElem? (i := 3) rfl)) (hts (.initialized "java/lang/Math") (List.mem_of_getElem? (i := 4) rfl)) (hts (.code Lib.Math.max.name Lib.Math.max.code 2 (some .int)) (List.mem_of_getElem? (i := 5) rfl)) (Nat.le_of_ble_eq_true rfl) (Nat.le_of_ble_eq_true rfl) (Nat.le_of_ble_eq_true rfl) (Nat.le_of_ble_eq_true rfl) dX2_vetoesLeft_14 ?_
  refine lv_topi (fun x3 e4 => ?_)
  obtain rfl : x3 = nI (S 9 1 - pm_cnt S i 2 30) := e4.trans (pm_max0 (by omega) (by omega))
  exact W.iret hx hb hr (fun t ht _ => ⟨_, rfl, rfl, ht⟩) (fun _ h => absurd h List.not_mem_nil) dX2_vetoesLeft_17
end
section
theorem pm_bitc : ∀ tn, tn < 8 → ((((((((nI tn) - ((((nI tn).toUInt32 >>> ((nI 1).toUInt32 &&& Int32.toUInt32 31)).toInt32) &&& 1431655765)) &&& 858993459) + (((((nI tn) - ((((nI tn).toUInt32 >>> ((nI 1).toUInt32 &&& Int32.toUInt32 31)).toInt32) &&& 1431655765)).toUInt32 >>> ((nI 2).toUInt32 &&& Int32.toUInt32 31)).toInt32) &&& 858993459)) + ((((((nI tn) - ((((nI tn).toUInt32 >>> ((nI 1).toUInt32 &&& Int32.toUInt32 31)).toInt32) &&& 1431655765)) &&& 858993459) + (((((nI tn) - ((((nI tn).toUInt32 >>> ((nI 1).toUInt32 &&& Int32.toUInt32 31)).toInt32) &&& 1431655765)).toUInt32 >>> ((nI 2).toUInt32 &&& Int32.toUInt32 31)).toInt32) &&& 858993459)).toUInt32 >>> ((nI 4).toUInt32 &&& Int32.toUInt32 31)).toInt32)) &&& 252645135) + ((((((((nI tn) - ((((nI tn).toUInt32 >>> ((nI 1).toUInt32 &&& Int32.toUInt32 31)).toInt32) &&& 1431655765)) &&& 858993459) + (((((nI tn) - ((((nI tn).toUInt32 >>> ((nI 1).toUInt32 &&& Int32.toUInt32 31)).toInt32) &&& 1431655765)).toUInt32 >>> ((nI 2).toUInt32 &&& Int32.toUInt32 31)).toInt32) &&& 858993459)) + ((((((nI tn) - ((((nI tn).toUInt32 >>> ((nI 1).toUInt32 &&& Int32.toUInt32 31)).toInt32) &&& 1431655765)) &&& 858993459) + (((((nI tn) - ((((nI tn).toUInt32 >>> ((nI 1).toUInt32 &&& Int32.toUInt32 31)).toInt32) &&& 1431655765)).toUInt32 >>> ((nI 2).toUInt32 &&& Int32.toUInt32 31)).toInt32) &&& 858993459)).toUInt32 >>> ((nI 4).toUInt32 &&& Int32.toUInt32 31)).toInt32)) &&& 252645135).toUInt32 >>> ((nI 8).toUInt32 &&& Int32.toUInt32 31)).toInt32)) + (((((((((nI tn) - ((((nI tn).toUInt32 >>> ((nI 1).toUInt32 &&& Int32.toUInt32 31)).toInt32) &&& 1431655765)) &&& 858993459) + (((((nI tn) - ((((nI tn).toUInt32 >>> ((nI 1).toUInt32 &&& Int32.toUInt32 31)).toInt32) &&& 1431655765)).toUInt32 >>> ((nI 2).toUInt32 &&& Int32.toUInt32 31)).toInt32) &&& 858993459)) + ((((((nI tn) - ((((nI tn).toUInt32 >>> ((nI 1).toUInt32 &&& Int32.toUInt32 31)).toInt32) &&& 1431655765)) &&& 858993459) + (((((nI tn) - ((((nI tn).toUInt32 >>> ((nI 1).toUInt32 &&& Int32.toUInt32 31)).toInt32) &&& 1431655765)).toUInt32 >>> ((nI 2).toUInt32 &&& Int32.toUInt32 31)).toInt32) &&& 858993459)).toUInt32 >>> ((nI 4).toUInt32 &&& Int32.toUInt32 31)).toInt32)) &&& 252645135) + ((((((((nI tn) - ((((nI tn).toUInt32 >>> ((nI 1).toUInt32 &&& Int32.toUInt32 31)).toInt32) &&& 1431655765)) &&& 858993459) + (((((nI tn) - ((((nI tn).toUInt32 >>> ((nI 1).toUInt32 &&& Int32.toUInt32 31)).toInt32) &&& 1431655765)).toUInt32 >>> ((nI 2).toUInt32 &&& Int32.toUInt32 31)).toInt32) &&& 858993459)) + ((((((nI tn) - ((((nI tn).toUInt32 >>> ((nI 1).toUInt32 &&& Int32.toUInt32 31)).toInt32) &&& 1431655765)) &&& 858993459) + (((((nI tn) - ((((nI tn).toUInt32 >>> ((nI 1).toUInt32 &&& Int32.toUInt32 31)).toInt32) &&& 1431655765)).toUInt32 >>> ((nI 2).toUInt32 &&& Int32.toUInt32 31)).toInt32) &&& 858993459)).toUInt32 >>> ((nI 4).toUInt32 &&& Int32.toUInt32 31)).toInt32)) &&& 252645135).toUInt32 >>> ((nI 8).toUInt32 &&& Int32.toUInt32 31)).toInt32)).toUInt32 >>> ((nI 16).toUInt32 &&& Int32.toUInt32 31)).toInt32)) &&& (nI 63) = nI (pm_pc tn) := by decide +kernel
set_option maxHeartbeats 4000000 in
set_option maxRecDepth 100000 in
theorem k_J6_bitCount_0f7a4 (l : Launch) (tn : Nat) (htn : tn < 8) : Met l yJ6_bitCount_0f7a4 wsJ6_bitCount_0f7a4 ({ frames := 0, cells := 0, slots := 0, locals := 0 } : Room) (pm_no [.int (nI tn)]) (vp_Si (fun r : Int32 => r = nI (pm_pc tn))) 0 0 (fun _ => False) := by
  refine Met.ofW (cc := cJ6_bitCount_0f7a4) (maxL := 1) (ret := (some .int)) (by decide) rfl ?_
  intro p e s m args below meth c s₁ B hml hpre
  obtain ⟨rfl, -⟩ := hpre
  have hx := B.exec
  have hb := B.bytes
  have hr := B.returns
  have hts := atoms_spec (ws := wsJ6_bitCount_0f7a4) B.pre
  have hown : s.vm.findClass RJ6 = some m.cls := findClass_of_methodNamed B.named
  have hlocks := B.notSynchronized
  have hl := lv_entry ([.int (nI tn)]) (n := 1) (Nat.le_of_ble_eq_true rfl)
  rw [lg_entry_eq]
  generalize (lg_sl ([.int (nI tn)]) ++ List.replicate (1 - (lg_sl ([.int (nI tn)])).length) Slot.unset).toArray = ls at hl ⊢
  have hl : lv_has ls 1 [(0, .int (nI tn))] := hl
  refine lv_iload_n hx hb dJ6_bitCount_0f7a4_0 rfl (lv_at hl 0 rfl) ?_
  refine lv_iload_n hx hb dJ6_bitCount_0f7a4_1 rfl (lv_at hl 0 rfl) ?_
  refine lv_iconst (v := nI 1) hx hb dJ6_bitCount_0f7a4_2 (by decide) ?_
  refine lv_iushr (v := ((nI tn).toUInt32 >>> ((nI 1).toUInt32 &&& Int32.toUInt32 31)).toInt32) hx hb dJ6_bitCount_0f7a4_3 rfl ?_
  refine lv_ldcw hx hb hown (hts (.constant RJ6 265 (1431655765)) (List.mem_of_getElem? (i := 1) rfl)) dJ6_bitCount_0f7a4_4 ?_
  refine lv_iand hx hb dJ6_bitCount_0f7a4_7 ?_
  refine lv_isub hx hb dJ6_bitCount_0f7a4_8 ?_
  refine lv_istore_n (lv' := [(0, .int ((nI tn) - ((((nI tn).toUInt32 >>> ((nI 1).toUInt32 &&& Int32.toUInt32 31)).toInt32) &&& 1431655765)))]) hx hb dJ6_bitCount_0f7a4_9 rfl hl (by decide) rfl (fun ls hl => ?_)
  refine lv_iload_n hx hb dJ6_bitCount_0f7a4_10 rfl (lv_at hl 0 rfl) ?_
  refine lv_ldcw hx hb hown (hts (.constant RJ6 266 (858993459)) (List.mem_of_getElem? (i := 2) rfl)) dJ6_bitCount_0f7a4_11 ?_
  refine lv_iand hx hb dJ6_bitCount_0f7a4_14 ?_
  refine lv_iload_n hx hb dJ6_bitCount_0f7a4_15 rfl (lv_at hl 0 rfl) ?_
  refine lv_iconst (v := nI 2) hx hb dJ6_bitCount_0f7a4_16 (by decide) ?_
  refine lv_iushr (v := (((nI tn) - ((((nI tn).toUInt32 >>> ((nI 1).toUInt32 &&& Int32.toUInt32 31)).toInt32) &&& 1431655765)).toUInt32 >>> ((nI 2).toUInt32 &&& Int32.toUInt32 31)).toInt32) hx hb dJ6_bitCount_0f7a4_17 rfl ?_
  refine lv_ldcw hx hb hown (hts (.constant RJ6 266 (858993459)) (List.mem_of_getElem? (i := 2) rfl)) dJ6_bitCount_0f7a4_18 ?_
  refine lv_iand hx hb dJ6_bitCount_0f7a4_21 ?_
  refine lv_iadd hx hb dJ6_bitCount_0f7a4_22 ?_
  refine lv_istore_n (lv' := [(0, .int ((((nI tn) - ((((nI tn).toUInt32 >>> ((nI 1).toUInt32 &&& Int32.toUInt32 31)).toInt32) &&& 1431655765)) &&& 858993459) + (((((nI tn) - ((((nI tn).toUInt32 >>> ((nI 1).toUInt32 &&& Int32.toUInt32 31)).toInt32) &&& 1431655765)).toUInt32 >>> ((nI 2).toUInt32 &&& Int32.toUInt32 31)).toInt32) &&& 858993459)))]) hx hb dJ6_bitCount_0f7a4_23 rfl hl (by decide) rfl (fun ls hl => ?_)
  refine lv_iload_n hx hb dJ6_bitCount_0f7a4_24 rfl (lv_at hl 0 rfl) ?_
  refine lv_iload_n hx hb dJ6_bitCount_0f7a4_25 rfl (lv_at hl 0 rfl) ?_
  refine lv_iconst (v := nI 4) hx hb dJ6_bitCount_0f7a4_26 (by decide) ?_
  refine lv_iushr (v := (((((nI tn) - ((((nI tn).toUInt32 >>> ((nI 1).toUInt32 &&& Int32.toUInt32 31)).toInt32) &&& 1431655765)) &&& 858993459) + (((((nI tn) - ((((nI tn).toUInt32 >>> ((nI 1).toUInt32 &&& Int32.toUInt32 31)).toInt32) &&& 1431655765)).toUInt32 >>> ((nI 2).toUInt32 &&& Int32.toUInt32 31)).toInt32) &&& 858993459)).toUInt32 >>> ((nI 4).toUInt32 &&& Int32.toUInt32 31)).toInt32) hx hb dJ6_bitCount_0f7a4_27 rfl ?_
  refine lv_iadd hx hb dJ6_bitCount_0f7a4_28 ?_
  refine lv_ldcw hx hb hown (hts (.constant RJ6 267 (252645135)) (List.mem_of_getElem? (i := 3) rfl)) dJ6_bitCount_0f7a4_29 ?_
  refine lv_iand hx hb dJ6_bitCount_0f7a4_32 ?_
  refine lv_istore_n (lv' := [(0, .int ((((((nI tn) - ((((nI tn).toUInt32 >>> ((nI 1).toUInt32 &&& Int32.toUInt32 31)).toInt32) &&& 1431655765)) &&& 858993459) + (((((nI tn) - ((((nI tn).toUInt32 >>> ((nI 1).toUInt32 &&& Int32.toUInt32 31)).toInt32) &&& 1431655765)).toUInt32 >>> ((nI 2).toUInt32 &&& Int32.toUInt32 31)).toInt32) &&& 858993459)) + ((((((nI tn) - ((((nI tn).toUInt32 >>> ((nI 1).toUInt32 &&& Int32.toUInt32 31)).toInt32) &&& 1431655765)) &&& 858993459) + (((((nI tn) - ((((nI tn).toUInt32 >>> ((nI 1).toUInt32 &&& Int32.toUInt32 31)).toInt32) &&& 1431655765)).toUInt32 >>> ((nI 2).toUInt32 &&& Int32.toUInt32 31)).toInt32) &&& 858993459)).toUInt32 >>> ((nI 4).toUInt32 &&& Int32.toUInt32 31)).toInt32)) &&& 252645135))]) hx hb dJ6_bitCount_0f7a4_33 rfl hl (by decide) rfl (fun ls hl => ?_)
  refine lv_iload_n hx hb dJ6_bitCount_0f7a4_34 rfl (lv_at hl 0 rfl) ?_
  refine lv_iload_n hx hb dJ6_bitCount_0f7a4_35 rfl (lv_at hl 0 rfl) ?_
  refine lv_bipush (v := nI 8) hx hb dJ6_bitCount_0f7a4_36 (by decide) ?_
  refine lv_iushr (v := (((((((nI tn) - ((((nI tn).toUInt32 >>> ((nI 1).toUInt32 &&& Int32.toUInt32 31)).toInt32) &&& 1431655765)) &&& 858993459) + (((((nI tn) - ((((nI tn).toUInt32 >>> ((nI 1).toUInt32 &&& Int32.toUInt32 31)).toInt32) &&& 1431655765)).toUInt32 >>> ((nI 2).toUInt32 &&& Int32.toUInt32 31)).toInt32) &&& 858993459)) + ((((((nI tn) - ((((nI tn).toUInt32 >>> ((nI 1).toUInt32 &&& Int32.toUInt32 31)).toInt32) &&& 1431655765)) &&& 858993459) + (((((nI tn) - ((((nI tn).toUInt32 >>> ((nI 1).toUInt32 &&& Int32.toUInt32 31)).toInt32) &&& 1431655765)).toUInt32 >>> ((nI 2).toUInt32 &&& Int32.toUInt32 31)).toInt32) &&& 858993459)).toUInt32 >>> ((nI 4).toUInt32 &&& Int32.toUInt32 31)).toInt32)) &&& 252645135).toUInt32 >>> ((nI 8).toUInt32 &&& Int32.toUInt32 31)).toInt32) hx hb dJ6_bitCount_0f7a4_38 rfl ?_
  refine lv_iadd hx hb dJ6_bitCount_0f7a4_39 ?_
  refine lv_istore_n (lv' := [(0, .int (((((((nI tn) - ((((nI tn).toUInt32 >>> ((nI 1).toUInt32 &&& Int32.toUInt32 31)).toInt32) &&& 1431655765)) &&& 858993459) + (((((nI tn) - ((((nI tn).toUInt32 >>> ((nI 1).toUInt32 &&& Int32.toUInt32 31)).toInt32) &&& 1431655765)).toUInt32 >>> ((nI 2).toUInt32 &&& Int32.toUInt32 31)).toInt32) &&& 858993459)) + ((((((nI tn) - ((((nI tn).toUInt32 >>> ((nI 1).toUInt32 &&& Int32.toUInt32 31)).toInt32) &&& 1431655765)) &&& 858993459) + (((((nI tn) - ((((nI tn).toUInt32 >>> ((nI 1).toUInt32 &&& Int32.toUInt32 31)).toInt32) &&& 1431655765)).toUInt32 >>> ((nI 2).toUInt32 &&& Int32.toUInt32 31)).toInt32) &&& 858993459)).toUInt32 >>> ((nI 4).toUInt32 &&& Int32.toUInt32 31)).toInt32)) &&& 252645135) + ((((((((nI tn) - ((((nI tn).toUInt32 >>> ((nI 1).toUInt32 &&& Int32.toUInt32 31)).toInt32) &&& 1431655765)) &&& 858993459) + (((((nI tn) - ((((nI tn).toUInt32 >>> ((nI 1).toUInt32 &&& Int32.toUInt32 31)).toInt32) &&& 1431655765)).toUInt32 >>> ((nI 2).toUInt32 &&& Int32.toUInt32 31)).toInt32) &&& 858993459)) + ((((((nI tn) - ((((nI tn).toUInt32 >>> ((nI 1).toUInt32 &&& Int32.toUInt32 31)).toInt32) &&& 1431655765)) &&& 858993459) + (((((nI tn) - ((((nI tn).toUInt32 >>> ((nI 1).toUInt32 &&& Int32.toUInt32 31)).toInt32) &&& 1431655765)).toUInt32 >>> ((nI 2).toUInt32 &&& Int32.toUInt32 31)).toInt32) &&& 858993459)).toUInt32 >>> ((nI 4).toUInt32 &&& Int32.toUInt32 31)).toInt32)) &&& 252645135).toUInt32 >>> ((nI 8).toUInt32 &&& Int32.toUInt32 31)).toInt32)))]) hx hb dJ6_bitCount_0f7a4_40 rfl hl (by decide) rfl (fun ls hl => ?_)
  refine lv_iload_n hx hb dJ6_bitCount_0f7a4_41 rfl (lv_at hl 0 rfl) ?_
  refine lv_iload_n hx hb dJ6_bitCount_0f7a4_42 rfl (lv_at hl 0 rfl) ?_
  refine lv_bipush (v := nI 16) hx hb dJ6_bitCount_0f7a4_43 (by decide) ?_
  refine lv_iushr (v := ((((((((nI tn) - ((((nI tn).toUInt32 >>> ((nI 1).toUInt32 &&& Int32.toUInt32 31)).toInt32) &&& 1431655765)) &&& 858993459) + (((((nI tn) - ((((nI tn).toUInt32 >>> ((nI 1).toUInt32 &&& Int32.toUInt32 31)).toInt32) &&& 1431655765)).toUInt32 >>> ((nI 2).toUInt32 &&& Int32.toUInt32 31)).toInt32) &&& 858993459)) + ((((((nI tn) - ((((nI tn).toUInt32 >>> ((nI 1).toUInt32 &&& Int32.toUInt32 31)).toInt32) &&& 1431655765)) &&& 858993459) + (((((nI tn) - ((((nI tn).toUInt32 >>> ((nI 1).toUInt32 &&& Int32.toUInt32 31)).toInt32) &&& 1431655765)).toUInt32 >>> ((nI 2).toUInt32 &&& Int32.toUInt32 31)).toInt32) &&& 858993459)).toUInt32 >>> ((nI 4).toUInt32 &&& Int32.toUInt32 31)).toInt32)) &&& 252645135) + ((((((((nI tn) - ((((nI tn).toUInt32 >>> ((nI 1).toUInt32 &&& Int32.toUInt32 31)).toInt32) &&& 1431655765)) &&& 858993459) + (((((nI tn) - ((((nI tn).toUInt32 >>> ((nI 1).toUInt32 &&& Int32.toUInt32 31)).toInt32) &&& 1431655765)).toUInt32 >>> ((nI 2).toUInt32 &&& Int32.toUInt32 31)).toInt32) &&& 858993459)) + ((((((nI tn) - ((((nI tn).toUInt32 >>> ((nI 1).toUInt32 &&& Int32.toUInt32 31)).toInt32) &&& 1431655765)) &&& 858993459) + (((((nI tn) - ((((nI tn).toUInt32 >>> ((nI 1).toUInt32 &&& Int32.toUInt32 31)).toInt32) &&& 1431655765)).toUInt32 >>> ((nI 2).toUInt32 &&& Int32.toUInt32 31)).toInt32) &&& 858993459)).toUInt32 >>> ((nI 4).toUInt32 &&& Int32.toUInt32 31)).toInt32)) &&& 252645135).toUInt32 >>> ((nI 8).toUInt32 &&& Int32.toUInt32 31)).toInt32)).toUInt32 >>> ((nI 16).toUInt32 &&& Int32.toUInt32 31)).toInt32) hx hb dJ6_bitCount_0f7a4_45 rfl ?_
  refine lv_iadd hx hb dJ6_bitCount_0f7a4_46 ?_
  refine lv_istore_n (lv' := [(0, .int ((((((((nI tn) - ((((nI tn).toUInt32 >>> ((nI 1).toUInt32 &&& Int32.toUInt32 31)).toInt32) &&& 1431655765)) &&& 858993459) + (((((nI tn) - ((((nI tn).toUInt32 >>> ((nI 1).toUInt32 &&& Int32.toUInt32 31)).toInt32) &&& 1431655765)).toUInt32 >>> ((nI 2).toUInt32 &&& Int32.toUInt32 31)).toInt32) &&& 858993459)) + ((((((nI tn) - ((((nI tn).toUInt32 >>> ((nI 1).toUInt32 &&& Int32.toUInt32 31)).toInt32) &&& 1431655765)) &&& 858993459) + (((((nI tn) - ((((nI tn).toUInt32 >>> ((nI 1).toUInt32 &&& Int32.toUInt32 31)).toInt32) &&& 1431655765)).toUInt32 >>> ((nI 2).toUInt32 &&& Int32.toUInt32 31)).toInt32) &&& 858993459)).toUInt32 >>> ((nI 4).toUInt32 &&& Int32.toUInt32 31)).toInt32)) &&& 252645135) + ((((((((nI tn) - ((((nI tn).toUInt32 >>> ((nI 1).toUInt32 &&& Int32.toUInt32 31)).toInt32) &&& 1431655765)) &&& 858993459) + (((((nI tn) - ((((nI tn).toUInt32 >>> ((nI 1).toUInt32 &&& Int32.toUInt32 31)).toInt32) &&& 1431655765)).toUInt32 >>> ((nI 2).toUInt32 &&& Int32.toUInt32 31)).toInt32) &&& 858993459)) + ((((((nI tn) - ((((nI tn).toUInt32 >>> ((nI 1).toUInt32 &&& Int32.toUInt32 31)).toInt32) &&& 1431655765)) &&& 858993459) + (((((nI tn) - ((((nI tn).toUInt32 >>> ((nI 1).toUInt32 &&& Int32.toUInt32 31)).toInt32) &&& 1431655765)).toUInt32 >>> ((nI 2).toUInt32 &&& Int32.toUInt32 31)).toInt32) &&& 858993459)).toUInt32 >>> ((nI 4).toUInt32 &&& Int32.toUInt32 31)).toInt32)) &&& 252645135).toUInt32 >>> ((nI 8).toUInt32 &&& Int32.toUInt32 31)).toInt32)) + (((((((((nI tn) - ((((nI tn).toUInt32 >>> ((nI 1).toUInt32 &&& Int32.toUInt32 31)).toInt32) &&& 1431655765)) &&& 858993459) + (((((nI tn) - ((((nI tn).toUInt32 >>> ((nI 1).toUInt32 &&& Int32.toUInt32 31)).toInt32) &&& 1431655765)).toUInt32 >>> ((nI 2).toUInt32 &&& Int32.toUInt32 31)).toInt32) &&& 858993459)) + ((((((nI tn) - ((((nI tn).toUInt32 >>> ((nI 1).toUInt32 &&& Int32.toUInt32 31)).toInt32) &&& 1431655765)) &&& 858993459) + (((((nI tn) - ((((nI tn).toUInt32 >>> ((nI 1).toUInt32 &&& Int32.toUInt32 31)).toInt32) &&& 1431655765)).toUInt32 >>> ((nI 2).toUInt32 &&& Int32.toUInt32 31)).toInt32) &&& 858993459)).toUInt32 >>> ((nI 4).toUInt32 &&& Int32.toUInt32 31)).toInt32)) &&& 252645135) + ((((((((nI tn) - ((((nI tn).toUInt32 >>> ((nI 1).toUInt32 &&& Int32.toUInt32 31)).toInt32) &&& 1431655765)) &&& 858993459) + (((((nI tn) - ((((nI tn).toUInt32 >>> ((nI 1).toUInt32 &&& Int32.toUInt32 31)).toInt32) &&& 1431655765)).toUInt32 >>> ((nI 2).toUInt32 &&& Int32.toUInt32 31)).toInt32) &&& 858993459)) + ((((((nI tn) - ((((nI tn).toUInt32 >>> ((nI 1).toUInt32 &&& Int32.toUInt32 31)).toInt32) &&& 1431655765)) &&& 858993459) + (((((nI tn) - ((((nI tn).toUInt32 >>> ((nI 1).toUInt32 &&& Int32.toUInt32 31)).toInt32) &&& 1431655765)).toUInt32 >>> ((nI 2).toUInt32 &&& Int32.toUInt32 31)).toInt32) &&& 858993459)).toUInt32 >>> ((nI 4).toUInt32 &&& Int32.toUInt32 31)).toInt32)) &&& 252645135).toUInt32 >>> ((nI 8).toUInt32 &&& Int32.toUInt32 31)).toInt32)).toUInt32 >>> ((nI 16).toUInt32 &&& Int32.toUInt32 31)).toInt32)))]) hx hb dJ6_bitCount_0f7a4_47 rfl hl (by decide) rfl (fun ls hl => ?_)
  refine lv_iload_n hx hb dJ6_bitCount_0f7a4_48 rfl (lv_at hl 0 rfl) ?_
  refine lv_bipush (v := nI 63) hx hb dJ6_bitCount_0f7a4_49 (by decide) ?_
  refine lv_iand hx hb dJ6_bitCount_0f7a4_51 ?_
  exact W.iret hx hb hr (fun t ht _ => ⟨_, rfl, (pm_bitc tn htn), ht⟩) (fun _ h => absurd h List.not_mem_nil) dJ6_bitCount_0f7a4_52

set_option maxHeartbeats 4000000 in
set_option maxRecDepth 100000 in
theorem k_X2_isWanted (l : Launch) (D : va_G) (y : Nat → ClassId) (q : Nat → Nat) (S : Nat → Nat → Nat) (t c9 : Nat) (hs : S 9 0 ≤ 9) (ht : t < 8) (hc : c9 < 8) : Met l yX2_isWanted wsX2_isWanted ({ frames := 1, cells := 0, slots := 0, locals := 20 } : Room) (pm_ro D (pm_ty y) [.ref (q 0), .int (nI t), .int (nI c9)] (pm_shS y q S)) (vp_Si (fun r : Int32 => ((c9 = 0 ∧ S 9 0 ≤ pm_pc t) ∧ r = nI 1) ∨ (¬ (c9 = 0 ∧ S 9 0 ≤ pm_pc t) ∧ r = nI 0))) 0 0 (fun _ => False) := by
  refine Met.ofW (cc := cX2_isWanted) (maxL := 3) (ret := (some .boolean)) (by decide) rfl ?_
  intro p e s m args below meth c s₁ B hml hpre
  obtain ⟨rfl, hP, hK⟩ := hpre
  have hx := B.exec
  have hb := B.bytes
  have hr := B.returns
  have hts := atoms_spec (ws := wsX2_isWanted) B.pre
  have hown : s.vm.findClass RX2 = some m.cls := findClass_of_methodNamed B.named
  have hlocks := B.notSynchronized
  have hin2 : ∀ w ∈ u_ws RX2 TX2 15, w ∈ wsX2_isWanted := fun w h => List.mem_cons_of_mem _ (List.mem_append_right _ h)
  have hP : va_P D vwCl (pm_shS y q S) s.heap := hP
  have hl := lv_entry ([.ref (q 0), .int (nI t), .int (nI c9)]) (n := 3) (Nat.le_of_ble_eq_true rfl)
  rw [lg_entry_eq]
  generalize (lg_sl ([.ref (q 0), .int (nI t), .int (nI c9)]) ++ List.replicate (3 - (lg_sl ([.ref (q 0), .int (nI t), .int (nI c9)])).length) Slot.unset).toArray = ls at hl ⊢
  have hl : lv_has ls 3 [(0, .ref (q 0)), (1, .int (nI t)), (2, .int (nI c9))] := hl
  refine lv_iload_n hx hb dX2_isWanted_0 rfl (lv_at hl 2 rfl) ?_
  refine kx_if_ne (tgt := 21) hx hb (by omega) dX2_isWanted_1 (by decide) (fun c1 => ?_) (fun c1 => ?_)
  · skip
    refine lv_iconst (v := nI 0) hx hb dX2_isWanted_21 (by decide) ?_
    exact W.zret (ty := .boolean) hx hb hr rfl (fun t ht _ => ⟨_, rfl, (Or.inr ⟨(by omega), rfl⟩), ht⟩) (fun _ h => absurd h List.not_mem_nil) dX2_isWanted_22
  · skip
    refine lv_iload_n hx hb dX2_isWanted_4 rfl (lv_at hl 1 rfl) ?_
    refine vp_callSi (W.runS (As := [.int (nI t)]) (rest := []) ⟨hx, hb, hml, hown, hts⟩ (k_J6_bitCount_0f7a4 l t (by omega)) (va_cwS 1 hts gX2_isWanted_J6_bitCount_0f7a4 rfl rfl rfl hd_J6_bitCount_0f7a4 ⟨Nat.le_of_ble_eq_true rfl, Nat.le_of_ble_eq_true rfl⟩) ⟨pm_no_blind, pm_no_pre⟩ rfl rfl hl.1 rfl (lv_room (Nat.le_of_ble_eq_true rfl)) dX2_isWanted_5 ⟨Nat.le_of_ble_eq_true rfl, Nat.le_of_ble_eq_true rfl⟩) (fun r2 h3 => ?_)
    obtain rfl : r2 = nI (pm_pc t) := h3
    have := pm_pc4 t
    refine lv_aload_n hx hb dX2_isWanted_8 rfl (lv_at hl 0 rfl) ?_
    refine va_get (D := D) (ci := 2) (v := .ref (q 1)) (C := RX2) (T := TX2) (N := 15) hx hb hts hin2 hown hK hP 0 rfl rfl 0 (by decide) (hts (.fieldLink RX2 11 "ProofMarks$Sheet" "settings" "[I") (List.mem_of_getElem? (i := 1) rfl)) (fun _ h9 => h9) rfl dX2_isWanted_9 ?_
    refine lv_iconst (v := nI 0) hx hb dX2_isWanted_12 (by decide) ?_
    refine kx_iald (v := nI ((S 9) 0)) hx hb hK hP 1 0 rfl rfl (by omega) (by decide) rfl dX2_isWanted_13 ?_
    refine kx_icmp_lt (tgt := 21) hx hb (by omega) (by omega) dX2_isWanted_14 (by decide) (fun c4 => ?_) (fun c4 => ?_)
    · skip
      refine lv_iconst (v := nI 0) hx hb dX2_isWanted_21 (by decide) ?_
      exact W.zret (ty := .boolean) hx hb hr rfl (fun t ht _ => ⟨_, rfl, (Or.inr ⟨(by omega), rfl⟩), ht⟩) (fun _ h => absurd h List.not_mem_nil) dX2_isWanted_22
    · skip
      refine lv_iconst (v := nI 1) hx hb dX2_isWanted_17 (by decide) ?_
      refine lv_goto (tgt := 22) hx hb dX2_isWanted_18 (by decide) ?_
      exact W.zret (ty := .boolean) hx hb hr rfl (fun t ht _ => ⟨_, rfl, (Or.inl ⟨(by omega), rfl⟩), ht⟩) (fun _ h => absurd h List.not_mem_nil) dX2_isWanted_22

set_option maxHeartbeats 4000000 in
set_option maxRecDepth 100000 in
theorem k_X2_isPicked (l : Launch) (D : va_G) (y : Nat → ClassId) (q : Nat → Nat) (S : Nat → Nat → Nat) (f : Nat) (hI : pm_Inv S) (hf : f < 30) : Met l yX2_isPicked wsX2_isPicked ({ frames := 0, cells := 0, slots := 0, locals := 0 } : Room) (pm_ro D (pm_ty y) [.ref (q 0), .int (nI f)] (pm_shS y q S)) (vp_Si (fun r : Int32 => ((S 0 f = 1 ∨ S 0 f = 3) ∧ r = nI 1) ∨ (¬ (S 0 f = 1 ∨ S 0 f = 3) ∧ r = nI 0))) 0 0 (fun _ => False) := by
  refine Met.ofW (cc := cX2_isPicked) (maxL := 2) (ret := (some .boolean)) (by decide) rfl ?_
  intro p e s m args below meth c s₁ B hml hpre
  obtain ⟨rfl, hP, hK⟩ := hpre
  have hx := B.exec
  have hb := B.bytes
  have hr := B.returns
  have hts := atoms_spec (ws := wsX2_isPicked) B.pre
  have hown : s.vm.findClass RX2 = some m.cls := findClass_of_methodNamed B.named
  have hlocks := B.notSynchronized
  have hin2 : ∀ w ∈ u_ws RX2 TX2 15, w ∈ wsX2_isPicked := fun w h => List.mem_cons_of_mem _ (List.mem_append_right _ h)
  have hP : va_P D vwCl (pm_shS y q S) s.heap := hP
  have hl := lv_entry ([.ref (q 0), .int (nI f)]) (n := 2) (Nat.le_of_ble_eq_true rfl)
  rw [lg_entry_eq]
  generalize (lg_sl ([.ref (q 0), .int (nI f)]) ++ List.replicate (2 - (lg_sl ([.ref (q 0), .int (nI f)])).length) Slot.unset).toArray = ls at hl ⊢
  have hl : lv_has ls 2 [(0, .ref (q 0)), (1, .int (nI f))] := hl
  refine lv_aload_n hx hb dX2_isPicked_0 rfl (lv_at hl 0 rfl) ?_
  refine va_get (D := D) (ci := 2) (v := .ref (q 2)) (C := RX2) (T := TX2) (N := 15) hx hb hts hin2 hown hK hP 0 rfl rfl 1 (by decide) (hts (.fieldLink RX2 15 "ProofMarks$Sheet" "how" "[I") (List.mem_of_getElem? (i := 1) rfl)) (fun _ h9 => h9) rfl dX2_isPicked_1 ?_
  refine lv_iload_n hx hb dX2_isPicked_4 rfl (lv_at hl 1 rfl) ?_
  refine kx_iald (v := nI ((S 0) f)) hx hb hK hP 2 0 rfl rfl (by omega) (by decide) rfl dX2_isPicked_5 ?_
  have := hI.how f (by omega)
  refine lv_iconst (v := nI 1) hx hb dX2_isPicked_6 (by decide) ?_
  refine kx_icmp_eq (tgt := 20) hx hb (by omega) (by decide) dX2_isPicked_7 (by decide) (fun c1 => ?_) (fun c1 => ?_)
  · skip
    refine lv_iconst (v := nI 1) hx hb dX2_isPicked_20 (by decide) ?_
    refine lv_goto (tgt := 25) hx hb dX2_isPicked_21 (by decide) ?_
    exact W.zret (ty := .boolean) hx hb hr rfl (fun t ht _ => ⟨_, rfl, (Or.inl ⟨(by omega), rfl⟩), ht⟩) (fun _ h => absurd h List.not_mem_nil) dX2_isPicked_25
  · skip
    refine lv_aload_n hx hb dX2_isPicked_10 rfl (lv_at hl 0 rfl) ?_
    refine va_get (D := D) (ci := 2) (v := .ref (q 2)) (C := RX2) (T := TX2) (N := 15) hx hb hts hin2 hown hK hP 0 rfl rfl 1 (by decide) (hts (.fieldLink RX2 15 "ProofMarks$Sheet" "how" "[I") (List.mem_of_getElem? (i := 1) rfl)) (fun _ h9 => h9) rfl dX2_isPicked_11 ?_
    refine lv_iload_n hx hb dX2_isPicked_14 rfl (lv_at hl 1 rfl) ?_
    refine kx_iald (v := nI ((S 0) f)) hx hb hK hP 2 0 rfl rfl (by omega) (by decide) rfl dX2_isPicked_15 ?_
    have := hI.how f (by omega)
    refine lv_iconst (v := nI 3) hx hb dX2_isPicked_16 (by decide) ?_
    refine kx_icmp_ne (tgt := 24) hx hb (by omega) (by decide) dX2_isPicked_17 (by decide) (fun c2 => ?_) (fun c2 => ?_)
    · skip
      refine lv_iconst (v := nI 0) hx hb dX2_isPicked_24 (by decide) ?_
      exact W.zret (ty := .boolean) hx hb hr rfl (fun t ht _ => ⟨_, rfl, (Or.inr ⟨(by omega), rfl⟩), ht⟩) (fun _ h => absurd h List.not_mem_nil) dX2_isPicked_25
    · skip
      refine lv_iconst (v := nI 1) hx hb dX2_isPicked_20 (by decide) ?_
      refine lv_goto (tgt := 25) hx hb dX2_isPicked_21 (by decide) ?_
      exact W.zret (ty := .boolean) hx hb hr rfl (fun t ht _ => ⟨_, rfl, (Or.inl ⟨(by omega), rfl⟩), ht⟩) (fun _ h => absurd h List.not_mem_nil) dX2_isPicked_25

set_option maxHeartbeats 4000000 in
set_option maxRecDepth 100000 in
theorem k_X2_dullAfterRound (l : Launch) (D : va_G) (y : Nat → ClassId) (q : Nat → Nat) (S : Nat → Nat → Nat) (f : Nat) (ho : pm_okb (S 4 f) = true) (hf : f < 30) : Met l yX2_dullAfterRound wsX2_dullAfterRound ({ frames := 0, cells := 0, slots := 0, locals := 0 } : Room) (pm_ro D (pm_ty y) [.ref (q 0), .int (nI f)] (pm_shS y q S)) (vp_Si (fun r : Int32 => r = nI (pm_dl S f))) 0 0 (fun _ => False) := by
  refine Met.ofW (cc := cX2_dullAfterRound) (maxL := 3) (ret := (some .int)) (by decide) rfl ?_
  intro p e s m args below meth c s₁ B hml hpre
  obtain ⟨rfl, hP, hK⟩ := hpre
  have hx := B.exec
  have hb := B.bytes
  have hr := B.returns
  have hts := atoms_spec (ws := wsX2_dullAfterRound) B.pre
  have hown : s.vm.findClass RX2 = some m.cls := findClass_of_methodNamed B.named
  have hlocks := B.notSynchronized
  have hin2 : ∀ w ∈ u_ws RX2 TX2 15, w ∈ wsX2_dullAfterRound := fun w h => List.mem_cons_of_mem _ (List.mem_append_right _ h)
  have hP : va_P D vwCl (pm_shS y q S) s.heap := hP
  have hl := lv_entry ([.ref (q 0), .int (nI f)]) (n := 3) (Nat.le_of_ble_eq_true rfl)
  rw [lg_entry_eq]
  generalize (lg_sl ([.ref (q 0), .int (nI f)]) ++ List.replicate (3 - (lg_sl ([.ref (q 0), .int (nI f)])).length) Slot.unset).toArray = ls at hl ⊢
  have hl : lv_has ls 3 [(0, .ref (q 0)), (1, .int (nI f))] := hl
  refine lv_aload_n hx hb dX2_dullAfterRound_0 rfl (lv_at hl 0 rfl) ?_
  refine va_get (D := D) (ci := 2) (v := .ref (q 3)) (C := RX2) (T := TX2) (N := 15) hx hb hts hin2 hown hK hP 0 rfl rfl 2 (by decide) (hts (.fieldLink RX2 18 "ProofMarks$Sheet" "ticks" "[I") (List.mem_of_getElem? (i := 1) rfl)) (fun _ h9 => h9) rfl dX2_dullAfterRound_1 ?_
  refine lv_iload_n hx hb dX2_dullAfterRound_4 rfl (lv_at hl 1 rfl) ?_
  refine kx_iald (v := nI (pm_tk ((S 4) f))) hx hb hK hP 3 0 rfl rfl (by omega) (by decide) rfl dX2_dullAfterRound_5 ?_
  have := pm_tk8 ((S 4) f)
  refine kx_if_ne (tgt := 22) hx hb (by omega) dX2_dullAfterRound_6 (by decide) (fun c1 => ?_) (fun c1 => ?_)
  · skip
    refine lv_iconst (v := nI 0) hx hb dX2_dullAfterRound_22 (by decide) ?_
    refine lv_istore_n (lv' := [(2, .int (nI 0)), (0, .ref (q 0)), (1, .int (nI f))]) hx hb dX2_dullAfterRound_23 rfl hl (by decide) rfl (fun ls hl => ?_)
    refine lv_iload_n hx hb dX2_dullAfterRound_24 rfl (lv_at hl 0 rfl) ?_
    refine lv_if_eq (tgt := 39) hx hb dX2_dullAfterRound_25 (by decide) (fun _ => ?_) (fun c2 => absurd (by decide) c2)
    refine lv_iconst (v := nI 0) hx hb dX2_dullAfterRound_39 (by decide) ?_
    exact W.iret hx hb hr (fun t ht _ => ⟨_, rfl, (by have hz := pm_zero ho; first | exact congrArg nI (pm_dl_1 (by omega)).symm | exact congrArg nI (pm_dl_0 (by omega)).symm), ht⟩) (fun _ h => absurd h List.not_mem_nil) dX2_dullAfterRound_40
  · skip
    refine lv_aload_n hx hb dX2_dullAfterRound_9 rfl (lv_at hl 0 rfl) ?_
    refine va_get (D := D) (ci := 2) (v := .ref (q 4)) (C := RX2) (T := TX2) (N := 15) hx hb hts hin2 hown hK hP 0 rfl rfl 3 (by decide) (hts (.fieldLink RX2 21 "ProofMarks$Sheet" "crosses" "[I") (List.mem_of_getElem? (i := 2) rfl)) (fun _ h9 => h9) rfl dX2_dullAfterRound_10 ?_
    refine lv_iload_n hx hb dX2_dullAfterRound_13 rfl (lv_at hl 1 rfl) ?_
    refine kx_iald (v := nI (pm_ck ((S 4) f))) hx hb hK hP 4 0 rfl rfl (by omega) (by decide) rfl dX2_dullAfterRound_14 ?_
    have := pm_ck8 ((S 4) f)
    refine kx_if_ne (tgt := 22) hx hb (by omega) dX2_dullAfterRound_15 (by decide) (fun c3 => ?_) (fun c3 => ?_)
    · skip
      refine lv_iconst (v := nI 0) hx hb dX2_dullAfterRound_22 (by decide) ?_
      refine lv_istore_n (lv' := [(2, .int (nI 0)), (0, .ref (q 0)), (1, .int (nI f))]) hx hb dX2_dullAfterRound_23 rfl hl (by decide) rfl (fun ls hl => ?_)
      refine lv_iload_n hx hb dX2_dullAfterRound_24 rfl (lv_at hl 0 rfl) ?_
      refine lv_if_eq (tgt := 39) hx hb dX2_dullAfterRound_25 (by decide) (fun _ => ?_) (fun c4 => absurd (by decide) c4)
      refine lv_iconst (v := nI 0) hx hb dX2_dullAfterRound_39 (by decide) ?_
      exact W.iret hx hb hr (fun t ht _ => ⟨_, rfl, (by have hz := pm_zero ho; first | exact congrArg nI (pm_dl_1 (by omega)).symm | exact congrArg nI (pm_dl_0 (by omega)).symm), ht⟩) (fun _ h => absurd h List.not_mem_nil) dX2_dullAfterRound_40
    · skip
      refine lv_iconst (v := nI 1) hx hb dX2_dullAfterRound_18 (by decide) ?_
      refine lv_goto (tgt := 23) hx hb dX2_dullAfterRound_19 (by decide) ?_
      refine lv_istore_n (lv' := [(2, .int (nI 1)), (0, .ref (q 0)), (1, .int (nI f))]) hx hb dX2_dullAfterRound_23 rfl hl (by decide) rfl (fun ls hl => ?_)
      refine lv_iload_n hx hb dX2_dullAfterRound_24 rfl (lv_at hl 0 rfl) ?_
      refine lv_if_eq (tgt := 39) hx hb dX2_dullAfterRound_25 (by decide) (fun c5 => absurd c5 (by decide)) (fun _ => ?_)
      refine lv_aload_n hx hb dX2_dullAfterRound_28 rfl (lv_at hl 1 rfl) ?_
      refine va_get (D := D) (ci := 2) (v := .ref (q 5)) (C := RX2) (T := TX2) (N := 15) hx hb hts hin2 hown hK hP 0 rfl rfl 4 (by decide) (hts (.fieldLink RX2 24 "ProofMarks$Sheet" "dull" "[I") (List.mem_of_getElem? (i := 3) rfl)) (fun _ h9 => h9) rfl dX2_dullAfterRound_29 ?_
      refine lv_iload_n hx hb dX2_dullAfterRound_32 rfl (lv_at hl 2 rfl) ?_
      refine kx_iald (v := nI ((S 1) f)) hx hb hK hP 5 0 rfl rfl (by omega) (by decide) rfl dX2_dullAfterRound_33 ?_
      refine lv_iconst (v := nI 1) hx hb dX2_dullAfterRound_34 (by decide) ?_
      refine kx_iadd hx hb dX2_dullAfterRound_35 ?_
      refine lv_goto (tgt := 40) hx hb dX2_dullAfterRound_36 (by decide) ?_
      exact W.iret hx hb hr (fun t ht _ => ⟨_, rfl, (by have hz := pm_zero ho; first | exact congrArg nI (pm_dl_1 (by omega)).symm | exact congrArg nI (pm_dl_0 (by omega)).symm), ht⟩) (fun _ h => absurd h List.not_mem_nil) dX2_dullAfterRound_40

set_option maxHeartbeats 4000000 in
set_option maxRecDepth 100000 in
theorem k_X2_afterRound (l : Launch) (D : va_G) (y : Nat → ClassId) (q : Nat → Nat) (S : Nat → Nat → Nat) (f : Nat) (ho : pm_okb (S 4 f) = true) (hs : S 9 0 ≤ 9) (hs3 : S 9 3 ≤ 9) (hd : S 1 f ≤ 99) (hf : f < 30) : Met l yX2_afterRound wsX2_afterRound ({ frames := 2, cells := 0, slots := 0, locals := 42 } : Room) (pm_ro D (pm_ty y) [.ref (q 0), .int (nI f)] (pm_shS y q S)) (vp_Si (fun r : Int32 => r = nI (pm_aft S f))) 0 0 (fun _ => False) := by
  refine Met.ofW (cc := cX2_afterRound) (maxL := 3) (ret := (some .int)) (by decide) rfl ?_
  intro p e s m args below meth c s₁ B hml hpre
  obtain ⟨rfl, hP, hK⟩ := hpre
  have hx := B.exec
  have hb := B.bytes
  have hr := B.returns
  have hts := atoms_spec (ws := wsX2_afterRound) B.pre
  have hown : s.vm.findClass RX2 = some m.cls := findClass_of_methodNamed B.named
  have hlocks := B.notSynchronized
  have hin2 : ∀ w ∈ u_ws RX2 TX2 15, w ∈ wsX2_afterRound := fun w h => List.mem_cons_of_mem _ (List.mem_append_right _ h)
  have hP : va_P D vwCl (pm_shS y q S) s.heap := hP
  have hl := lv_entry ([.ref (q 0), .int (nI f)]) (n := 3) (Nat.le_of_ble_eq_true rfl)
  rw [lg_entry_eq]
  generalize (lg_sl ([.ref (q 0), .int (nI f)]) ++ List.replicate (3 - (lg_sl ([.ref (q 0), .int (nI f)])).length) Slot.unset).toArray = ls at hl ⊢
  have hl : lv_has ls 3 [(0, .ref (q 0)), (1, .int (nI f))] := hl
  refine lv_aload_n hx hb dX2_afterRound_0 rfl (lv_at hl 0 rfl) ?_
  refine va_get (D := D) (ci := 2) (v := .ref (q 4)) (C := RX2) (T := TX2) (N := 15) hx hb hts hin2 hown hK hP 0 rfl rfl 3 (by decide) (hts (.fieldLink RX2 21 "ProofMarks$Sheet" "crosses" "[I") (List.mem_of_getElem? (i := 1) rfl)) (fun _ h9 => h9) rfl dX2_afterRound_1 ?_
  refine lv_iload_n hx hb dX2_afterRound_4 rfl (lv_at hl 1 rfl) ?_
  refine kx_iald (v := nI (pm_ck ((S 4) f))) hx hb hK hP 4 0 rfl rfl (by omega) (by decide) rfl dX2_afterRound_5 ?_
  have := pm_ck8 ((S 4) f)
  refine vp_callSi (W.runS (As := [.int (nI (pm_ck ((S 4) f)))]) (rest := []) ⟨hx, hb, hml, hown, hts⟩ (k_J6_bitCount_0f7a4 l (pm_ck ((S 4) f)) (by omega)) (va_cwS 1 hts gX2_afterRound_J6_bitCount_0f7a4 rfl rfl rfl hd_J6_bitCount_0f7a4 ⟨Nat.le_of_ble_eq_true rfl, Nat.le_of_ble_eq_true rfl⟩) ⟨pm_no_blind, pm_no_pre⟩ rfl rfl hl.1 rfl (lv_room (Nat.le_of_ble_eq_true rfl)) dX2_afterRound_6 ⟨Nat.le_of_ble_eq_true rfl, Nat.le_of_ble_eq_true rfl⟩) (fun r1 h2 => ?_)
  obtain rfl : r1 = nI (pm_pc (pm_ck ((S 4) f))) := h2
  have := pm_pc4 (pm_ck ((S 4) f))
  refine lv_istore_n (lv' := [(2, .int (nI (pm_pc (pm_ck ((S 4) f))))), (0, .ref (q 0)), (1, .int (nI f))]) hx hb dX2_afterRound_9 rfl hl (by decide) rfl (fun ls hl => ?_)
  refine lv_iload_n hx hb dX2_afterRound_10 rfl (lv_at hl 0 rfl) ?_
  refine lv_iconst (v := nI 2) hx hb dX2_afterRound_11 (by decide) ?_
  refine kx_icmp_lt (tgt := 17) hx hb (by omega) (by decide) dX2_afterRound_12 (by decide) (fun c3 => ?_) (fun c3 => ?_)
  · skip
    refine lv_iload_n hx hb dX2_afterRound_17 rfl (lv_at hl 0 rfl) ?_
    refine lv_iconst (v := nI 1) hx hb dX2_afterRound_18 (by decide) ?_
    refine kx_icmp_ne (tgt := 24) hx hb (by omega) (by decide) dX2_afterRound_19 (by decide) (fun c4 => ?_) (fun c4 => ?_)
    · skip
      refine lv_aload_n hx hb dX2_afterRound_24 rfl (lv_at hl 1 rfl) ?_
      refine lv_aload_n hx hb dX2_afterRound_25 rfl (lv_at hl 1 rfl) ?_
      refine va_get (D := D) (ci := 2) (v := .ref (q 3)) (C := RX2) (T := TX2) (N := 15) hx hb hts hin2 hown hK hP 0 rfl rfl 2 (by decide) (hts (.fieldLink RX2 18 "ProofMarks$Sheet" "ticks" "[I") (List.mem_of_getElem? (i := 2) rfl)) (fun _ h9 => h9) rfl dX2_afterRound_26 ?_
      refine lv_iload_n hx hb dX2_afterRound_29 rfl (lv_at hl 2 rfl) ?_
      refine kx_iald (v := nI (pm_tk ((S 4) f))) hx hb hK hP 3 0 rfl rfl (by omega) (by decide) rfl dX2_afterRound_30 ?_
      have := pm_tk8 ((S 4) f)
      refine lv_aload_n hx hb dX2_afterRound_31 rfl (lv_at hl 1 rfl) ?_
      refine va_get (D := D) (ci := 2) (v := .ref (q 4)) (C := RX2) (T := TX2) (N := 15) hx hb hts hin2 hown hK hP 0 rfl rfl 3 (by decide) (hts (.fieldLink RX2 21 "ProofMarks$Sheet" "crosses" "[I") (List.mem_of_getElem? (i := 1) rfl)) (fun _ h9 => h9) rfl dX2_afterRound_32 ?_
      refine lv_iload_n hx hb dX2_afterRound_35 rfl (lv_at hl 2 rfl) ?_
      refine kx_iald (v := nI (pm_ck ((S 4) f))) hx hb hK hP 4 0 rfl rfl (by omega) (by decide) rfl dX2_afterRound_36 ?_
      have := pm_ck8 ((S 4) f)
      refine vp_callSi (W.runV (As := [.int (nI (pm_tk ((S 4) f))), .int (nI (pm_ck ((S 4) f)))]) (rest := []) ⟨hx, hb, hml, hown, hts⟩ (k_X2_isWanted l D y q S (pm_tk ((S 4) f)) (pm_ck ((S 4) f)) hs (by omega) (by omega)) (cwV 2 hts gX2_afterRound_X2_isWanted rfl rfl rfl hd_X2_isWanted ⟨Nat.le_of_ble_eq_true rfl, Nat.le_of_ble_eq_true rfl⟩) ⟨pm_ro_blind, va_recv hK hP (ci := 2) (q0 := 0) rfl rfl, pm_ro_pre hP hK⟩ rfl rfl hl.1 rfl (lv_room (Nat.le_of_ble_eq_true rfl)) dX2_afterRound_37 ⟨Nat.le_of_ble_eq_true rfl, Nat.le_of_ble_eq_true rfl⟩) (fun r5 h6 => ?_)
      rcases (show (((pm_ck ((S 4) f)) = 0 ∧ S 9 0 ≤ pm_pc (pm_tk ((S 4) f))) ∧ r5 = nI 1) ∨ (¬ ((pm_ck ((S 4) f)) = 0 ∧ S 9 0 ≤ pm_pc (pm_tk ((S 4) f))) ∧ r5 = nI 0) from h6) with ⟨hp7, rfl⟩ | ⟨hp7, rfl⟩
      · skip
        refine lv_if_eq (tgt := 45) hx hb dX2_afterRound_40 (by decide) (fun c8 => absurd c8 (by decide)) (fun _ => ?_)
        refine lv_iconst (v := nI 1) hx hb dX2_afterRound_43 (by decide) ?_
        exact W.iret hx hb hr (fun t ht _ => ⟨_, rfl, (congrArg nI (by have := pm_pc0 (pm_ck8 (S 4 f)); unfold pm_aft pm_cc pm_tc; (repeat' split) <;> omega)), ht⟩) (fun _ h => absurd h List.not_mem_nil) dX2_afterRound_44
      · skip
        refine lv_if_eq (tgt := 45) hx hb dX2_afterRound_40 (by decide) (fun _ => ?_) (fun c9 => absurd (by decide) c9)
        refine lv_aload_n hx hb dX2_afterRound_45 rfl (lv_at hl 1 rfl) ?_
        refine lv_iload_n hx hb dX2_afterRound_46 rfl (lv_at hl 2 rfl) ?_
        refine vp_callSi (W.runV (As := [.int (nI f)]) (rest := []) ⟨hx, hb, hml, hown, hts⟩ (k_X2_dullAfterRound l D y q S f ho (by omega)) (cwV 1 hts gX2_afterRound_X2_dullAfterRound rfl rfl rfl hd_X2_dullAfterRound ⟨Nat.le_of_ble_eq_true rfl, Nat.le_of_ble_eq_true rfl⟩) ⟨pm_ro_blind, va_recv hK hP (ci := 2) (q0 := 0) rfl rfl, pm_ro_pre hP hK⟩ rfl rfl hl.1 rfl (lv_room (Nat.le_of_ble_eq_true rfl)) dX2_afterRound_47 ⟨Nat.le_of_ble_eq_true rfl, Nat.le_of_ble_eq_true rfl⟩) (fun r10 h11 => ?_)
        obtain rfl : r10 = nI (pm_dl S f) := h11
        have := pm_dl_le S f
        refine lv_aload_n hx hb dX2_afterRound_50 rfl (lv_at hl 1 rfl) ?_
        refine va_get (D := D) (ci := 2) (v := .ref (q 1)) (C := RX2) (T := TX2) (N := 15) hx hb hts hin2 hown hK hP 0 rfl rfl 0 (by decide) (hts (.fieldLink RX2 11 "ProofMarks$Sheet" "settings" "[I") (List.mem_of_getElem? (i := 3) rfl)) (fun _ h9 => h9) rfl dX2_afterRound_51 ?_
        refine lv_iconst (v := nI 3) hx hb dX2_afterRound_54 (by decide) ?_
        refine kx_iald (v := nI ((S 9) 3)) hx hb hK hP 1 0 rfl rfl (by omega) (by decide) rfl dX2_afterRound_55 ?_
        refine kx_icmp_lt (tgt := 63) hx hb (by omega) (by omega) dX2_afterRound_56 (by decide) (fun c12 => ?_) (fun c12 => ?_)
        · skip
          refine lv_iconst (v := nI 0) hx hb dX2_afterRound_63 (by decide) ?_
          exact W.iret hx hb hr (fun t ht _ => ⟨_, rfl, (congrArg nI (by have := pm_pc0 (pm_ck8 (S 4 f)); unfold pm_aft pm_cc pm_tc; (repeat' split) <;> omega)), ht⟩) (fun _ h => absurd h List.not_mem_nil) dX2_afterRound_64
        · skip
          refine lv_iconst (v := nI 2) hx hb dX2_afterRound_59 (by decide) ?_
          refine lv_goto (tgt := 64) hx hb dX2_afterRound_60 (by decide) ?_
          exact W.iret hx hb hr (fun t ht _ => ⟨_, rfl, (congrArg nI (by have := pm_pc0 (pm_ck8 (S 4 f)); unfold pm_aft pm_cc pm_tc; (repeat' split) <;> omega)), ht⟩) (fun _ h => absurd h List.not_mem_nil) dX2_afterRound_64
    · skip
      refine lv_iconst (v := nI 0) hx hb dX2_afterRound_22 (by decide) ?_
      exact W.iret hx hb hr (fun t ht _ => ⟨_, rfl, (congrArg nI (by have := pm_pc0 (pm_ck8 (S 4 f)); unfold pm_aft pm_cc pm_tc; (repeat' split) <;> omega)), ht⟩) (fun _ h => absurd h List.not_mem_nil) dX2_afterRound_23
  · skip
    refine lv_iconst (v := nI 2) hx hb dX2_afterRound_15 (by decide) ?_
    exact W.iret hx hb hr (fun t ht _ => ⟨_, rfl, (congrArg nI (by have := pm_pc0 (pm_ck8 (S 4 f)); unfold pm_aft pm_cc pm_tc; (repeat' split) <;> omega)), ht⟩) (fun _ h => absurd h List.not_mem_nil) dX2_afterRound_16

set_option maxHeartbeats 4000000 in
set_option maxRecDepth 100000 in
theorem k_X2_framesThatAre (l : Launch) (D : va_G) (y : Nat → ClassId) (q : Nat → Nat) (S : Nat → Nat → Nat) (v : Nat) (hI : pm_Inv S) (hv : v < 4) : Met l yX2_framesThatAre wsX2_framesThatAre ({ frames := 0, cells := 0, slots := 0, locals := 0 } : Room) (pm_ro D (pm_ty y) [.ref (q 0), .int (nI v)] (pm_shS y q S)) (vp_Si (fun r : Int32 => r = nI (pm_hm S v 30))) 0 0 (fun _ => False) := by
  refine Met.ofW (cc := cX2_framesThatAre) (maxL := 4) (ret := (some .int)) (by decide) rfl ?_
  intro p e s m args below meth c s₁ B hml hpre
  obtain ⟨rfl, hP, hK⟩ := hpre
  have hx := B.exec
  have hb := B.bytes
  have hr := B.returns
  have hts := atoms_spec (ws := wsX2_framesThatAre) B.pre
  have hown : s.vm.findClass RX2 = some m.cls := findClass_of_methodNamed B.named
  have hlocks := B.notSynchronized
  have hin2 : ∀ w ∈ u_ws RX2 TX2 15, w ∈ wsX2_framesThatAre := fun w h => List.mem_cons_of_mem _ (List.mem_append_right _ h)
  have hP : va_P D vwCl (pm_shS y q S) s.heap := hP
  have hl := lv_entry ([.ref (q 0), .int (nI v)]) (n := 4) (Nat.le_of_ble_eq_true rfl)
  rw [lg_entry_eq]
  generalize (lg_sl ([.ref (q 0), .int (nI v)]) ++ List.replicate (4 - (lg_sl ([.ref (q 0), .int (nI v)])).length) Slot.unset).toArray = ls at hl ⊢
  have hl : lv_has ls 4 [(0, .ref (q 0)), (1, .int (nI v))] := hl
  refine lv_iconst (v := nI 0) hx hb dX2_framesThatAre_0 (by decide) ?_
  refine lv_istore_n (lv' := [(2, .int (nI 0)), (0, .ref (q 0)), (1, .int (nI v))]) hx hb dX2_framesThatAre_1 rfl hl (by decide) rfl (fun ls hl => ?_)
  refine lv_iconst (v := nI 0) hx hb dX2_framesThatAre_2 (by decide) ?_
  refine lv_istore_n (lv' := [(3, .int (nI 0)), (2, .int (nI 0)), (0, .ref (q 0)), (1, .int (nI v))]) hx hb dX2_framesThatAre_3 rfl hl (by decide) rfl (fun ls hl => ?_)
  have LOOP4 : ∀ (n k : Nat) (ls : Array Slot), k ≤ 30 → 30 - k < n → lv_has ls 4 [(0, .ref (q 0)), (1, .int (nI v)), (2, .int (nI (pm_num (fun k => decide (S 0 k = v)) k))), (3, .int (nI k))] → W p l e (headSpec wsX2_framesThatAre ({ frames := 0, cells := 0, slots := 0, locals := 0 } : Room)).room s m ([.ref (q 0), .int (nI v)] : List Value).toArray below meth c s.heap [] 0 0 (MQ below (vp_Si (fun r : Int32 => r = nI (pm_hm S v 30))) ([.ref (q 0), .int (nI v)] : List Value).toArray s 0 0 (fun _ => False)) (F0 m 4 ls []) := by
    intro n
    induction n with
    | zero => intro k _ hi hn; omega
    | succ n ih1 =>
      intro k ls hi_k hn_k hl 
      refine lv_iload_n hx hb dX2_framesThatAre_4 rfl (lv_at hl 3 rfl) ?_
      refine lv_bipush (v := nI 30) hx hb dX2_framesThatAre_5 (by decide) ?_
      refine kx_icmp_ge (tgt := 34) hx hb (by omega) (by decide) dX2_framesThatAre_7 (by decide) (fun c2 => ?_) (fun c2 => ?_)
      · skip
        refine lv_iload_n hx hb dX2_framesThatAre_34 rfl (lv_at hl 2 rfl) ?_
        exact W.iret hx hb hr (fun t ht _ => ⟨_, rfl, (by rw [show k = 30 by omega]; rfl), ht⟩) (fun _ h => absurd h List.not_mem_nil) dX2_framesThatAre_35
      · skip
        refine lv_iload_n hx hb dX2_framesThatAre_10 rfl (lv_at hl 2 rfl) ?_
        refine lv_aload_n hx hb dX2_framesThatAre_11 rfl (lv_at hl 0 rfl) ?_
        refine va_get (D := D) (ci := 2) (v := .ref (q 2)) (C := RX2) (T := TX2) (N := 15) hx hb hts hin2 hown hK hP 0 rfl rfl 1 (by decide) (hts (.fieldLink RX2 15 "ProofMarks$Sheet" "how" "[I") (List.mem_of_getElem? (i := 1) rfl)) (fun _ h9 => h9) rfl dX2_framesThatAre_12 ?_
        refine lv_iload_n hx hb dX2_framesThatAre_15 rfl (lv_at hl 3 rfl) ?_
        refine kx_iald (v := nI ((S 0) k)) hx hb hK hP 2 0 rfl rfl (by omega) (by decide) rfl dX2_framesThatAre_16 ?_
        have := hI.how k (by omega)
        refine lv_iload_n hx hb dX2_framesThatAre_17 rfl (lv_at hl 1 rfl) ?_
        refine kx_icmp_ne (tgt := 25) hx hb (by omega) (by omega) dX2_framesThatAre_18 (by decide) (fun c3 => ?_) (fun c3 => ?_)
        · skip
          refine lv_iconst (v := nI 0) hx hb dX2_framesThatAre_25 (by decide) ?_
          refine kx_iadd hx hb dX2_framesThatAre_26 ?_
          refine lv_istore_n (lv' := [(2, .int (nI ((pm_num (fun k => decide (S 0 k = v)) k) + 0))), (0, .ref (q 0)), (1, .int (nI v)), (3, .int (nI k))]) hx hb dX2_framesThatAre_27 rfl hl (by decide) rfl (fun ls hl => ?_)
          refine kx_iinc (a := k) (lv' := [(3, .int (nI (k + 1))), (2, .int (nI ((pm_num (fun k => decide (S 0 k = v)) k) + 0))), (0, .ref (q 0)), (1, .int (nI v))]) hx hb dX2_framesThatAre_28 hl (k := 3) rfl (by decide) rfl (fun ls hl => ?_)
          refine lv_goto (tgt := 4) hx hb dX2_framesThatAre_31 (by decide) ?_
          have q4 : (nI (pm_num (fun k => decide (S 0 k = v)) (k + 1)) : Int32) = nI ((pm_num (fun k => decide (S 0 k = v)) k) + 0) := (congrArg nI (by first | exact pm_num_p (decide_eq_true (by omega)) | exact pm_num_n (decide_eq_false (by omega))))
          exact ih1 (k + 1) ls (by omega) (by omega) (by rw [q4]; exact lv_sub hl [2, 3, 1, 0] rfl) 
        · skip
          refine lv_iconst (v := nI 1) hx hb dX2_framesThatAre_21 (by decide) ?_
          refine lv_goto (tgt := 26) hx hb dX2_framesThatAre_22 (by decide) ?_
          refine kx_iadd hx hb dX2_framesThatAre_26 ?_
          refine lv_istore_n (lv' := [(2, .int (nI ((pm_num (fun k => decide (S 0 k = v)) k) + 1))), (0, .ref (q 0)), (1, .int (nI v)), (3, .int (nI k))]) hx hb dX2_framesThatAre_27 rfl hl (by decide) rfl (fun ls hl => ?_)
          refine kx_iinc (a := k) (lv' := [(3, .int (nI (k + 1))), (2, .int (nI ((pm_num (fun k => decide (S 0 k = v)) k) + 1))), (0, .ref (q 0)), (1, .int (nI v))]) hx hb dX2_framesThatAre_28 hl (k := 3) rfl (by decide) rfl (fun ls hl => ?_)
          refine lv_goto (tgt := 4) hx hb dX2_framesThatAre_31 (by decide) ?_
          have q5 : (nI (pm_num (fun k => decide (S 0 k = v)) (k + 1)) : Int32) = nI ((pm_num (fun k => decide (S 0 k = v)) k) + 1) := (congrArg nI (by first | exact pm_num_p (decide_eq_true (by omega)) | exact pm_num_n (decide_eq_false (by omega))))
          exact ih1 (k + 1) ls (by omega) (by omega) (by rw [q5]; exact lv_sub hl [2, 3, 1, 0] rfl) 
  exact LOOP4 (30 + 1) 0 ls (by omega) (by omega) (lv_sub hl [2, 3, 1, 0] rfl) 

set_option maxHeartbeats 4000000 in
set_option maxRecDepth 100000 in
theorem k_X2_framesThatBecome (l : Launch) (D : va_G) (y : Nat → ClassId) (q : Nat → Nat) (S : Nat → Nat → Nat) (v : Nat) (hI : pm_Inv S) (hv : v < 4) : Met l yX2_framesThatBecome wsX2_framesThatBecome ({ frames := 3, cells := 0, slots := 0, locals := 64 } : Room) (pm_ro D (pm_ty y) [.ref (q 0), .int (nI v)] (pm_shS y q S)) (vp_Si (fun r : Int32 => r = nI (pm_bc S v 30))) 0 0 (fun _ => False) := by
  refine Met.ofW (cc := cX2_framesThatBecome) (maxL := 4) (ret := (some .int)) (by decide) rfl ?_
  intro p e s m args below meth c s₁ B hml hpre
  obtain ⟨rfl, hP, hK⟩ := hpre
  have hx := B.exec
  have hb := B.bytes
  have hr := B.returns
  have hts := atoms_spec (ws := wsX2_framesThatBecome) B.pre
  have hown : s.vm.findClass RX2 = some m.cls := findClass_of_methodNamed B.named
  have hlocks := B.notSynchronized
  have hin2 : ∀ w ∈ u_ws RX2 TX2 15, w ∈ wsX2_framesThatBecome := fun w h => List.mem_cons_of_mem _ (List.mem_append_right _ h)
  have hP : va_P D vwCl (pm_shS y q S) s.heap := hP
  have hl := lv_entry ([.ref (q 0), .int (nI v)]) (n := 4) (Nat.le_of_ble_eq_true rfl)
  rw [lg_entry_eq]
  generalize (lg_sl ([.ref (q 0), .int (nI v)]) ++ List.replicate (4 - (lg_sl ([.ref (q 0), .int (nI v)])).length) Slot.unset).toArray = ls at hl ⊢
  have hl : lv_has ls 4 [(0, .ref (q 0)), (1, .int (nI v))] := hl
  refine lv_iconst (v := nI 0) hx hb dX2_framesThatBecome_0 (by decide) ?_
  refine lv_istore_n (lv' := [(2, .int (nI 0)), (0, .ref (q 0)), (1, .int (nI v))]) hx hb dX2_framesThatBecome_1 rfl hl (by decide) rfl (fun ls hl => ?_)
  refine lv_iconst (v := nI 0) hx hb dX2_framesThatBecome_2 (by decide) ?_
  refine lv_istore_n (lv' := [(3, .int (nI 0)), (2, .int (nI 0)), (0, .ref (q 0)), (1, .int (nI v))]) hx hb dX2_framesThatBecome_3 rfl hl (by decide) rfl (fun ls hl => ?_)
  have LOOP4 : ∀ (n k : Nat) (ls : Array Slot), k ≤ 30 → 30 - k < n → lv_has ls 4 [(0, .ref (q 0)), (1, .int (nI v)), (2, .int (nI (pm_num (fun k => decide (S 0 k = 0 ∧ pm_aft S k = v)) k))), (3, .int (nI k))] → W p l e (headSpec wsX2_framesThatBecome ({ frames := 3, cells := 0, slots := 0, locals := 64 } : Room)).room s m ([.ref (q 0), .int (nI v)] : List Value).toArray below meth c s.heap [] 0 0 (MQ below (vp_Si (fun r : Int32 => r = nI (pm_bc S v 30))) ([.ref (q 0), .int (nI v)] : List Value).toArray s 0 0 (fun _ => False)) (F0 m 4 ls []) := by
    intro n
    induction n with
    | zero => intro k _ hi hn; omega
    | succ n ih1 =>
      intro k ls hi_k hn_k hl 
      refine lv_iload_n hx hb dX2_framesThatBecome_4 rfl (lv_at hl 3 rfl) ?_
      refine lv_bipush (v := nI 30) hx hb dX2_framesThatBecome_5 (by decide) ?_
      refine kx_icmp_ge (tgt := 42) hx hb (by omega) (by decide) dX2_framesThatBecome_7 (by decide) (fun c2 => ?_) (fun c2 => ?_)
      · skip
        refine lv_iload_n hx hb dX2_framesThatBecome_42 rfl (lv_at hl 2 rfl) ?_
        exact W.iret hx hb hr (fun t ht _ => ⟨_, rfl, (by rw [show k = 30 by omega]; rfl), ht⟩) (fun _ h => absurd h List.not_mem_nil) dX2_framesThatBecome_43
      · skip
        refine lv_iload_n hx hb dX2_framesThatBecome_10 rfl (lv_at hl 2 rfl) ?_
        refine lv_aload_n hx hb dX2_framesThatBecome_11 rfl (lv_at hl 0 rfl) ?_
        refine va_get (D := D) (ci := 2) (v := .ref (q 2)) (C := RX2) (T := TX2) (N := 15) hx hb hts hin2 hown hK hP 0 rfl rfl 1 (by decide) (hts (.fieldLink RX2 15 "ProofMarks$Sheet" "how" "[I") (List.mem_of_getElem? (i := 1) rfl)) (fun _ h9 => h9) rfl dX2_framesThatBecome_12 ?_
        refine lv_iload_n hx hb dX2_framesThatBecome_15 rfl (lv_at hl 3 rfl) ?_
        refine kx_iald (v := nI ((S 0) k)) hx hb hK hP 2 0 rfl rfl (by omega) (by decide) rfl dX2_framesThatBecome_16 ?_
        have := hI.how k (by omega)
        refine kx_if_ne (tgt := 33) hx hb (by omega) dX2_framesThatBecome_17 (by decide) (fun c3 => ?_) (fun c3 => ?_)
        · skip
          refine lv_iconst (v := nI 0) hx hb dX2_framesThatBecome_33 (by decide) ?_
          refine kx_iadd hx hb dX2_framesThatBecome_34 ?_
          refine lv_istore_n (lv' := [(2, .int (nI ((pm_num (fun k => decide (S 0 k = 0 ∧ pm_aft S k = v)) k) + 0))), (0, .ref (q 0)), (1, .int (nI v)), (3, .int (nI k))]) hx hb dX2_framesThatBecome_35 rfl hl (by decide) rfl (fun ls hl => ?_)
          refine kx_iinc (a := k) (lv' := [(3, .int (nI (k + 1))), (2, .int (nI ((pm_num (fun k => decide (S 0 k = 0 ∧ pm_aft S k = v)) k) + 0))), (0, .ref (q 0)), (1, .int (nI v))]) hx hb dX2_framesThatBecome_36 hl (k := 3) rfl (by decide) rfl (fun ls hl => ?_)
          refine lv_goto (tgt := 4) hx hb dX2_framesThatBecome_39 (by decide) ?_
          have q4 : (nI (pm_num (fun k => decide (S 0 k = 0 ∧ pm_aft S k = v)) (k + 1)) : Int32) = nI ((pm_num (fun k => decide (S 0 k = 0 ∧ pm_aft S k = v)) k) + 0) := (congrArg nI (by first | exact pm_num_p (decide_eq_true (by omega)) | exact pm_num_n (decide_eq_false (by omega))))
          exact ih1 (k + 1) ls (by omega) (by omega) (by rw [q4]; exact lv_sub hl [2, 3, 1, 0] rfl) 
        · skip
          refine lv_aload_n hx hb dX2_framesThatBecome_20 rfl (lv_at hl 0 rfl) ?_
          refine lv_iload_n hx hb dX2_framesThatBecome_21 rfl (lv_at hl 3 rfl) ?_
          refine vp_callSi (W.runV (As := [.int (nI k)]) (rest := [.int (nI (pm_num (fun k => decide (S 0 k = 0 ∧ pm_aft S k = v)) k))]) ⟨hx, hb, hml, hown, hts⟩ (k_X2_afterRound l D y q S k (hI.okm k (by omega)) (hI.set9 0 (by decide)) (hI.set9 3 (by decide)) (Nat.le_trans (hI.dull k (by omega)) hI.rnd) (by omega)) (cwV 1 hts gX2_framesThatBecome_X2_afterRound rfl rfl rfl hd_X2_afterRound ⟨Nat.le_of_ble_eq_true rfl, Nat.le_of_ble_eq_true rfl⟩) ⟨pm_ro_blind, va_recv hK hP (ci := 2) (q0 := 0) rfl rfl, pm_ro_pre hP hK⟩ rfl rfl hl.1 rfl (lv_room (Nat.le_of_ble_eq_true rfl)) dX2_framesThatBecome_22 ⟨Nat.le_of_ble_eq_true rfl, Nat.le_of_ble_eq_true rfl⟩) (fun r5 h6 => ?_)
          obtain rfl : r5 = nI (pm_aft S k) := h6
          have := pm_aft3 S k
          refine lv_iload_n hx hb dX2_framesThatBecome_25 rfl (lv_at hl 1 rfl) ?_
          refine kx_icmp_ne (tgt := 33) hx hb (by omega) (by omega) dX2_framesThatBecome_26 (by decide) (fun c7 => ?_) (fun c7 => ?_)
          · skip
            refine lv_iconst (v := nI 0) hx hb dX2_framesThatBecome_33 (by decide) ?_
            refine kx_iadd hx hb dX2_framesThatBecome_34 ?_
            refine lv_istore_n (lv' := [(2, .int (nI ((pm_num (fun k => decide (S 0 k = 0 ∧ pm_aft S k = v)) k) + 0))), (0, .ref (q 0)), (1, .int (nI v)), (3, .int (nI k))]) hx hb dX2_framesThatBecome_35 rfl hl (by decide) rfl (fun ls hl => ?_)
            refine kx_iinc (a := k) (lv' := [(3, .int (nI (k + 1))), (2, .int (nI ((pm_num (fun k => decide (S 0 k = 0 ∧ pm_aft S k = v)) k) + 0))), (0, .ref (q 0)), (1, .int (nI v))]) hx hb dX2_framesThatBecome_36 hl (k := 3) rfl (by decide) rfl (fun ls hl => ?_)
            refine lv_goto (tgt := 4) hx hb dX2_framesThatBecome_39 (by decide) ?_
            have q8 : (nI (pm_num (fun k => decide (S 0 k = 0 ∧ pm_aft S k = v)) (k + 1)) : Int32) = nI ((pm_num (fun k => decide (S 0 k = 0 ∧ pm_aft S k = v)) k) + 0) := (congrArg nI (by first | exact pm_num_p (decide_eq_true (by omega)) | exact pm_num_n (decide_eq_false (by omega))))
            exact ih1 (k + 1) ls (by omega) (by omega) (by rw [q8]; exact lv_sub hl [2, 3, 1, 0] rfl) 
          · skip
            refine lv_iconst (v := nI 1) hx hb dX2_framesThatBecome_29 (by decide) ?_
            refine lv_goto (tgt := 34) hx hb dX2_framesThatBecome_30 (by decide) ?_
            refine kx_iadd hx hb dX2_framesThatBecome_34 ?_
            refine lv_istore_n (lv' := [(2, .int (nI ((pm_num (fun k => decide (S 0 k = 0 ∧ pm_aft S k = v)) k) + 1))), (0, .ref (q 0)), (1, .int (nI v)), (3, .int (nI k))]) hx hb dX2_framesThatBecome_35 rfl hl (by decide) rfl (fun ls hl => ?_)
            refine kx_iinc (a := k) (lv' := [(3, .int (nI (k + 1))), (2, .int (nI ((pm_num (fun k => decide (S 0 k = 0 ∧ pm_aft S k = v)) k) + 1))), (0, .ref (q 0)), (1, .int (nI v))]) hx hb dX2_framesThatBecome_36 hl (k := 3) rfl (by decide) rfl (fun ls hl => ?_)
            refine lv_goto (tgt := 4) hx hb dX2_framesThatBecome_39 (by decide) ?_
            have q9 : (nI (pm_num (fun k => decide (S 0 k = 0 ∧ pm_aft S k = v)) (k + 1)) : Int32) = nI ((pm_num (fun k => decide (S 0 k = 0 ∧ pm_aft S k = v)) k) + 1) := (congrArg nI (by first | exact pm_num_p (decide_eq_true (by omega)) | exact pm_num_n (decide_eq_false (by omega))))
            exact ih1 (k + 1) ls (by omega) (by omega) (by rw [q9]; exact lv_sub hl [2, 3, 1, 0] rfl) 
  exact LOOP4 (30 + 1) 0 ls (by omega) (by omega) (lv_sub hl [2, 3, 1, 0] rfl) 

theorem pm_lmx (S : Nat → Nat → Nat) (k : Nat) (hk : k < 30) {x : Nat} (hx : x = pm_rl S (k + 1)) : (if nI (pm_lm S k) < nI x then nI x else nI (pm_lm S k)) = nI (pm_lm S (k + 1)) := by
  subst hx
  have := pm_lm_le S k
  have := pm_rl_le S (k + 1)
  rw [pm_lm]
  by_cases h : pm_lm S k < pm_rl S (k + 1)
  · rw [if_pos h, if_pos (nI_lt h (by omega))]
  · rw [if_neg h, if_neg (nI_nlt (by omega) (by omega))]
set_option maxHeartbeats 4000000 in
set_option maxRecDepth 100000 in
theorem k_X2_longestRow (l : Launch) (D : va_G) (y : Nat → ClassId) (q : Nat → Nat) (S : Nat → Nat → Nat) (hI : pm_Inv S) : Met l yX2_longestRow wsX2_longestRow ({ frames := 1, cells := 0, slots := 0, locals := 21 } : Room) (pm_ro D (pm_ty y) [.ref (q 0)] (pm_shS y q S)) (vp_Si (fun r : Int32 => r = nI (pm_lm S 30))) 0 0 (fun _ => False) := by
  refine Met.ofW (cc := cX2_longestRow) (maxL := 4) (ret := (some .int)) (by decide) rfl ?_
  intro p e s m args below meth c s₁ B hml hpre
  obtain ⟨rfl, hP, hK⟩ := hpre
  have hx := B.exec
  have hb := B.bytes
  have hr := B.returns
  have hts := atoms_spec (ws := wsX2_longestRow) B.pre
  have hown : s.vm.findClass RX2 = some m.cls := findClass_of_methodNamed B.named
  have hlocks := B.notSynchronized
  have hin2 : ∀ w ∈ u_ws RX2 TX2 15, w ∈ wsX2_longestRow := fun w h => List.mem_cons_of_mem _ (List.mem_append_right _ h)
  have hP : va_P D vwCl (pm_shS y q S) s.heap := hP
  have hl := lv_entry ([.ref (q 0)]) (n := 4) (Nat.le_of_ble_eq_true rfl)
  rw [lg_entry_eq]
  generalize (lg_sl ([.ref (q 0)]) ++ List.replicate (4 - (lg_sl ([.ref (q 0)])).length) Slot.unset).toArray = ls at hl ⊢
  have hl : lv_has ls 4 [(0, .ref (q 0))] := hl
  refine lv_iconst (v := nI 0) hx hb dX2_longestRow_0 (by decide) ?_
  refine lv_istore_n (lv' := [(1, .int (nI 0)), (0, .ref (q 0))]) hx hb dX2_longestRow_1 rfl hl (by decide) rfl (fun ls hl => ?_)
  refine lv_iconst (v := nI 0) hx hb dX2_longestRow_2 (by decide) ?_
  refine lv_istore_n (lv' := [(2, .int (nI 0)), (1, .int (nI 0)), (0, .ref (q 0))]) hx hb dX2_longestRow_3 rfl hl (by decide) rfl (fun ls hl => ?_)
  refine lv_iconst (v := nI 0) hx hb dX2_longestRow_4 (by decide) ?_
  refine lv_istore_n (lv' := [(3, .int (nI 0)), (2, .int (nI 0)), (1, .int (nI 0)), (0, .ref (q 0))]) hx hb dX2_longestRow_5 rfl hl (by decide) rfl (fun ls hl => ?_)
  have LOOP6 : ∀ (n k : Nat) (ls : Array Slot), k ≤ 30 → 30 - k < n → lv_has ls 4 [(0, .ref (q 0)), (1, .int (nI (pm_lm S k))), (2, .int (nI (pm_rl S k))), (3, .int (nI k))] → W p l e (headSpec wsX2_longestRow ({ frames := 1, cells := 0, slots := 0, locals := 21 } : Room)).room s m ([.ref (q 0)] : List Value).toArray below meth c s.heap [] 0 0 (MQ below (vp_Si (fun r : Int32 => r = nI (pm_lm S 30))) ([.ref (q 0)] : List Value).toArray s 0 0 (fun _ => False)) (F0 m 6 ls []) := by
    intro n
    induction n with
    | zero => intro k _ hi hn; omega
    | succ n ih1 =>
      intro k ls hi_k hn_k hl 
      have := pm_rl_le S k
      have := pm_lm_le S k
      refine lv_iload_n hx hb dX2_longestRow_6 rfl (lv_at hl 3 rfl) ?_
      refine lv_bipush (v := nI 30) hx hb dX2_longestRow_7 (by decide) ?_
      refine kx_icmp_ge (tgt := 49) hx hb (by omega) (by decide) dX2_longestRow_9 (by decide) (fun c2 => ?_) (fun c2 => ?_)
      · skip
        refine lv_iload_n hx hb dX2_longestRow_49 rfl (lv_at hl 1 rfl) ?_
        exact W.iret hx hb hr (fun t ht _ => ⟨_, rfl, (by rw [show k = 30 by omega]), ht⟩) (fun _ h => absurd h List.not_mem_nil) dX2_longestRow_50
      · skip
        refine lv_iload_n hx hb dX2_longestRow_12 rfl (lv_at hl 3 rfl) ?_
        refine lv_bipush (v := nI 6) hx hb dX2_longestRow_13 (by decide) ?_
        refine kx_irem hx hb (by omega) (by omega) (by omega) dX2_longestRow_15 ?_
        refine kx_if_ne (tgt := 21) hx hb (by omega) dX2_longestRow_16 (by decide) (fun c3 => ?_) (fun c3 => ?_)
        · skip
          refine lv_aload_n hx hb dX2_longestRow_21 rfl (lv_at hl 0 rfl) ?_
          refine lv_iload_n hx hb dX2_longestRow_22 rfl (lv_at hl 3 rfl) ?_
          refine vp_callSi (W.runV (As := [.int (nI k)]) (rest := []) ⟨hx, hb, hml, hown, hts⟩ (k_X2_isPicked l D y q S k hI (by omega)) (cwV 1 hts gX2_longestRow_X2_isPicked rfl rfl rfl hd_X2_isPicked ⟨Nat.le_of_ble_eq_true rfl, Nat.le_of_ble_eq_true rfl⟩) ⟨pm_ro_blind, va_recv hK hP (ci := 2) (q0 := 0) rfl rfl, pm_ro_pre hP hK⟩ rfl rfl hl.1 rfl (lv_room (Nat.le_of_ble_eq_true rfl)) dX2_longestRow_23 ⟨Nat.le_of_ble_eq_true rfl, Nat.le_of_ble_eq_true rfl⟩) (fun r4 h5 => ?_)
          rcases (show ((S 0 k = 1 ∨ S 0 k = 3) ∧ r4 = nI 1) ∨ (¬ (S 0 k = 1 ∨ S 0 k = 3) ∧ r4 = nI 0) from h5) with ⟨hp6, rfl⟩ | ⟨hp6, rfl⟩
          · skip
            refine lv_if_eq (tgt := 35) hx hb dX2_longestRow_26 (by decide) (fun c7 => absurd c7 (by decide)) (fun _ => ?_)
            refine lv_iload_n hx hb dX2_longestRow_29 rfl (lv_at hl 2 rfl) ?_
            refine lv_iconst (v := nI 1) hx hb dX2_longestRow_30 (by decide) ?_
            refine kx_iadd hx hb dX2_longestRow_31 ?_
            refine lv_goto (tgt := 36) hx hb dX2_longestRow_32 (by decide) ?_
            refine lv_istore_n (lv' := [(2, .int (nI ((pm_rl S k) + 1))), (0, .ref (q 0)), (1, .int (nI (pm_lm S k))), (3, .int (nI k))]) hx hb dX2_longestRow_36 rfl hl (by decide) rfl (fun ls hl => ?_)
            refine lv_iload_n hx hb dX2_longestRow_37 rfl (lv_at hl 2 rfl) ?_
            refine lv_iload_n hx hb dX2_longestRow_38 rfl (lv_at hl 0 rfl) ?_
            refine va_mmax hx hb (by rw [hml]; exact hl.1.symm) hown (hts (.methodLink RX2 138 Lib.Math.max.name) (List.mem_of_getElem? (i := 1) rfl)) (hts (.static Lib.Math.max.name) (List.mem_of_getElem? (i := 2) rfl)) (hts (.initialized "java/lang/Math") (List.mem_of_getElem? (i := 3) rfl)) (hts (.code Lib.Math.max.name Lib.Math.max.code 2 (some .int)) (List.mem_of_getElem? (i := 4) rfl)) (Nat.le_of_ble_eq_true rfl) (Nat.le_of_ble_eq_true rfl) (Nat.le_of_ble_eq_true rfl) (Nat.le_of_ble_eq_true rfl) dX2_longestRow_39 ?_
            refine lv_topi (fun x8 e9 => ?_)
            obtain rfl : x8 = nI (pm_lm S (k + 1)) := e9.trans (pm_lmx S k (by omega) (by rw [pm_rl]; (repeat' split) <;> first | omega | (have hz := pm_pk_i.mp ‹_›; omega) | (exfalso; exact absurd (pm_pk_i.mpr (by assumption)) ‹_›)))
            refine lv_istore_n (lv' := [(1, .int (nI (pm_lm S (k + 1)))), (2, .int (nI ((pm_rl S k) + 1))), (0, .ref (q 0)), (3, .int (nI k))]) hx hb dX2_longestRow_42 rfl hl (by decide) rfl (fun ls hl => ?_)
            refine kx_iinc (a := k) (lv' := [(3, .int (nI (k + 1))), (1, .int (nI (pm_lm S (k + 1)))), (2, .int (nI ((pm_rl S k) + 1))), (0, .ref (q 0))]) hx hb dX2_longestRow_43 hl (k := 3) rfl (by decide) rfl (fun ls hl => ?_)
            refine lv_goto (tgt := 6) hx hb dX2_longestRow_46 (by decide) ?_
            have q10 : (nI (pm_rl S (k + 1)) : Int32) = nI ((pm_rl S k) + 1) := (congrArg nI (by rw [pm_rl]; (repeat' split) <;> first | omega | (have hz := pm_pk_i.mp ‹_›; omega) | (exfalso; exact absurd (pm_pk_i.mpr (by assumption)) ‹_›)))
            exact ih1 (k + 1) ls (by omega) (by omega) (by rw [q10]; exact lv_sub hl [3, 1, 2, 0] rfl) 
          · skip
            refine lv_if_eq (tgt := 35) hx hb dX2_longestRow_26 (by decide) (fun _ => ?_) (fun c11 => absurd (by decide) c11)
            refine lv_iconst (v := nI 0) hx hb dX2_longestRow_35 (by decide) ?_
            refine lv_istore_n (lv' := [(2, .int (nI 0)), (0, .ref (q 0)), (1, .int (nI (pm_lm S k))), (3, .int (nI k))]) hx hb dX2_longestRow_36 rfl hl (by decide) rfl (fun ls hl => ?_)
            refine lv_iload_n hx hb dX2_longestRow_37 rfl (lv_at hl 2 rfl) ?_
            refine lv_iload_n hx hb dX2_longestRow_38 rfl (lv_at hl 0 rfl) ?_
            refine va_mmax hx hb (by rw [hml]; exact hl.1.symm) hown (hts (.methodLink RX2 138 Lib.Math.max.name) (List.mem_of_getElem? (i := 1) rfl)) (hts (.static Lib.Math.max.name) (List.mem_of_getElem? (i := 2) rfl)) (hts (.initialized "java/lang/Math") (List.mem_of_getElem? (i := 3) rfl)) (hts (.code Lib.Math.max.name Lib.Math.max.code 2 (some .int)) (List.mem_of_getElem? (i := 4) rfl)) (Nat.le_of_ble_eq_true rfl) (Nat.le_of_ble_eq_true rfl) (Nat.le_of_ble_eq_true rfl) (Nat.le_of_ble_eq_true rfl) dX2_longestRow_39 ?_
            refine lv_topi (fun x12 e13 => ?_)
            obtain rfl : x12 = nI (pm_lm S (k + 1)) := e13.trans (pm_lmx S k (by omega) (by rw [pm_rl]; (repeat' split) <;> first | omega | (have hz := pm_pk_i.mp ‹_›; omega) | (exfalso; exact absurd (pm_pk_i.mpr (by assumption)) ‹_›)))
            refine lv_istore_n (lv' := [(1, .int (nI (pm_lm S (k + 1)))), (2, .int (nI 0)), (0, .ref (q 0)), (3, .int (nI k))]) hx hb dX2_longestRow_42 rfl hl (by decide) rfl (fun ls hl => ?_)
            refine kx_iinc (a := k) (lv' := [(3, .int (nI (k + 1))), (1, .int (nI (pm_lm S (k + 1)))), (2, .int (nI 0)), (0, .ref (q 0))]) hx hb dX2_longestRow_43 hl (k := 3) rfl (by decide) rfl (fun ls hl => ?_)
            refine lv_goto (tgt := 6) hx hb dX2_longestRow_46 (by decide) ?_
            have q14 : (nI (pm_rl S (k + 1)) : Int32) = nI 0 := (congrArg nI (by rw [pm_rl]; (repeat' split) <;> first | omega | (have hz := pm_pk_i.mp ‹_›; omega) | (exfalso; exact absurd (pm_pk_i.mpr (by assumption)) ‹_›)))
            exact ih1 (k + 1) ls (by omega) (by omega) (by rw [q14]; exact lv_sub hl [3, 1, 2, 0] rfl) 
        · skip
          refine lv_iconst (v := nI 0) hx hb dX2_longestRow_19 (by decide) ?_
          refine lv_istore_n (lv' := [(2, .int (nI 0)), (0, .ref (q 0)), (1, .int (nI (pm_lm S k))), (3, .int (nI k))]) hx hb dX2_longestRow_20 rfl hl (by decide) rfl (fun ls hl => ?_)
          refine lv_aload_n hx hb dX2_longestRow_21 rfl (lv_at hl 1 rfl) ?_
          refine lv_iload_n hx hb dX2_longestRow_22 rfl (lv_at hl 3 rfl) ?_
          refine vp_callSi (W.runV (As := [.int (nI k)]) (rest := []) ⟨hx, hb, hml, hown, hts⟩ (k_X2_isPicked l D y q S k hI (by omega)) (cwV 1 hts gX2_longestRow_X2_isPicked rfl rfl rfl hd_X2_isPicked ⟨Nat.le_of_ble_eq_true rfl, Nat.le_of_ble_eq_true rfl⟩) ⟨pm_ro_blind, va_recv hK hP (ci := 2) (q0 := 0) rfl rfl, pm_ro_pre hP hK⟩ rfl rfl hl.1 rfl (lv_room (Nat.le_of_ble_eq_true rfl)) dX2_longestRow_23 ⟨Nat.le_of_ble_eq_true rfl, Nat.le_of_ble_eq_true rfl⟩) (fun r15 h16 => ?_)
          rcases (show ((S 0 k = 1 ∨ S 0 k = 3) ∧ r15 = nI 1) ∨ (¬ (S 0 k = 1 ∨ S 0 k = 3) ∧ r15 = nI 0) from h16) with ⟨hp17, rfl⟩ | ⟨hp17, rfl⟩
          · skip
            refine lv_if_eq (tgt := 35) hx hb dX2_longestRow_26 (by decide) (fun c18 => absurd c18 (by decide)) (fun _ => ?_)
            refine lv_iload_n hx hb dX2_longestRow_29 rfl (lv_at hl 0 rfl) ?_
            refine lv_iconst (v := nI 1) hx hb dX2_longestRow_30 (by decide) ?_
            refine kx_iadd hx hb dX2_longestRow_31 ?_
            refine lv_goto (tgt := 36) hx hb dX2_longestRow_32 (by decide) ?_
            refine lv_istore_n (lv' := [(2, .int (nI (0 + 1))), (0, .ref (q 0)), (1, .int (nI (pm_lm S k))), (3, .int (nI k))]) hx hb dX2_longestRow_36 rfl hl (by decide) rfl (fun ls hl => ?_)
            refine lv_iload_n hx hb dX2_longestRow_37 rfl (lv_at hl 2 rfl) ?_
            refine lv_iload_n hx hb dX2_longestRow_38 rfl (lv_at hl 0 rfl) ?_
            refine va_mmax hx hb (by rw [hml]; exact hl.1.symm) hown (hts (.methodLink RX2 138 Lib.Math.max.name) (List.mem_of_getElem? (i := 1) rfl)) (hts (.static Lib.Math.max.name) (List.mem_of_getElem? (i := 2) rfl)) (hts (.initialized "java/lang/Math") (List.mem_of_getElem? (i := 3) rfl)) (hts (.code Lib.Math.max.name Lib.Math.max.code 2 (some .int)) (List.mem_of_getElem? (i := 4) rfl)) (Nat.le_of_ble_eq_true rfl) (Nat.le_of_ble_eq_true rfl) (Nat.le_of_ble_eq_true rfl) (Nat.le_of_ble_eq_true rfl) dX2_longestRow_39 ?_
            refine lv_topi (fun x19 e20 => ?_)
            obtain rfl : x19 = nI (pm_lm S (k + 1)) := e20.trans (pm_lmx S k (by omega) (by rw [pm_rl]; (repeat' split) <;> first | omega | (have hz := pm_pk_i.mp ‹_›; omega) | (exfalso; exact absurd (pm_pk_i.mpr (by assumption)) ‹_›)))
            refine lv_istore_n (lv' := [(1, .int (nI (pm_lm S (k + 1)))), (2, .int (nI (0 + 1))), (0, .ref (q 0)), (3, .int (nI k))]) hx hb dX2_longestRow_42 rfl hl (by decide) rfl (fun ls hl => ?_)
            refine kx_iinc (a := k) (lv' := [(3, .int (nI (k + 1))), (1, .int (nI (pm_lm S (k + 1)))), (2, .int (nI (0 + 1))), (0, .ref (q 0))]) hx hb dX2_longestRow_43 hl (k := 3) rfl (by decide) rfl (fun ls hl => ?_)
            refine lv_goto (tgt := 6) hx hb dX2_longestRow_46 (by decide) ?_
            have q21 : (nI (pm_rl S (k + 1)) : Int32) = nI (0 + 1) := (congrArg nI (by rw [pm_rl]; (repeat' split) <;> first | omega | (have hz := pm_pk_i.mp ‹_›; omega) | (exfalso; exact absurd (pm_pk_i.mpr (by assumption)) ‹_›)))
            exact ih1 (k + 1) ls (by omega) (by omega) (by rw [q21]; exact lv_sub hl [3, 1, 2, 0] rfl) 
          · skip
            refine lv_if_eq (tgt := 35) hx hb dX2_longestRow_26 (by decide) (fun _ => ?_) (fun c22 => absurd (by decide) c22)
            refine lv_iconst (v := nI 0) hx hb dX2_longestRow_35 (by decide) ?_
            refine lv_istore_n (lv' := [(2, .int (nI 0)), (0, .ref (q 0)), (1, .int (nI (pm_lm S k))), (3, .int (nI k))]) hx hb dX2_longestRow_36 rfl hl (by decide) rfl (fun ls hl => ?_)
            refine lv_iload_n hx hb dX2_longestRow_37 rfl (lv_at hl 2 rfl) ?_
            refine lv_iload_n hx hb dX2_longestRow_38 rfl (lv_at hl 0 rfl) ?_
            refine va_mmax hx hb (by rw [hml]; exact hl.1.symm) hown (hts (.methodLink RX2 138 Lib.Math.max.name) (List.mem_of_getElem? (i := 1) rfl)) (hts (.static Lib.Math.max.name) (List.mem_of_getElem? (i := 2) rfl)) (hts (.initialized "java/lang/Math") (List.mem_of_getElem? (i := 3) rfl)) (hts (.code Lib.Math.max.name Lib.Math.max.code 2 (some .int)) (List.mem_of_getElem? (i := 4) rfl)) (Nat.le_of_ble_eq_true rfl) (Nat.le_of_ble_eq_true rfl) (Nat.le_of_ble_eq_true rfl) (Nat.le_of_ble_eq_true rfl) dX2_longestRow_39 ?_
            refine lv_topi (fun x23 e24 => ?_)
            obtain rfl : x23 = nI (pm_lm S (k + 1)) := e24.trans (pm_lmx S k (by omega) (by rw [pm_rl]; (repeat' split) <;> first | omega | (have hz := pm_pk_i.mp ‹_›; omega) | (exfalso; exact absurd (pm_pk_i.mpr (by assumption)) ‹_›)))
            refine lv_istore_n (lv' := [(1, .int (nI (pm_lm S (k + 1)))), (2, .int (nI 0)), (0, .ref (q 0)), (3, .int (nI k))]) hx hb dX2_longestRow_42 rfl hl (by decide) rfl (fun ls hl => ?_)
            refine kx_iinc (a := k) (lv' := [(3, .int (nI (k + 1))), (1, .int (nI (pm_lm S (k + 1)))), (2, .int (nI 0)), (0, .ref (q 0))]) hx hb dX2_longestRow_43 hl (k := 3) rfl (by decide) rfl (fun ls hl => ?_)
            refine lv_goto (tgt := 6) hx hb dX2_longestRow_46 (by decide) ?_
            have q25 : (nI (pm_rl S (k + 1)) : Int32) = nI 0 := (congrArg nI (by rw [pm_rl]; (repeat' split) <;> first | omega | (have hz := pm_pk_i.mp ‹_›; omega) | (exfalso; exact absurd (pm_pk_i.mpr (by assumption)) ‹_›)))
            exact ih1 (k + 1) ls (by omega) (by omega) (by rw [q25]; exact lv_sub hl [3, 1, 2, 0] rfl) 
  exact LOOP6 (30 + 1) 0 ls (by omega) (by omega) (lv_sub hl [3, 2, 1, 0] rfl) 
end
section
set_option maxHeartbeats 4000000 in
set_option maxRecDepth 100000 in
theorem k_X2_aboutFrame (l : Launch) (D : va_G) (y : Nat → ClassId) (q : Nat → Nat) (S : Nat → Nat → Nat) (xf xw : Int32) (hI : pm_Inv S) : Met l yX2_aboutFrame wsX2_aboutFrame ({ frames := 1, cells := 0, slots := 0, locals := 20 } : Room) (pm_ro D (pm_ty y) [.ref (q 0), .int xf, .int xw] (pm_shS y q S)) (vp_Si (fun r : Int32 => r = pm_of S xf xw)) 0 0 (fun _ => False) := by
  refine Met.ofW (cc := cX2_aboutFrame) (maxL := 3) (ret := (some .int)) (by decide) rfl ?_
  intro p e s m args below meth c s₁ B hml hpre
  obtain ⟨rfl, hP, hK⟩ := hpre
  have hx := B.exec
  have hb := B.bytes
  have hr := B.returns
  have hts := atoms_spec (ws := wsX2_aboutFrame) B.pre
  have hown : s.vm.findClass RX2 = some m.cls := findClass_of_methodNamed B.named
  have hlocks := B.notSynchronized
  have hin2 : ∀ w ∈ u_ws RX2 TX2 15, w ∈ wsX2_aboutFrame := fun w h => List.mem_cons_of_mem _ (List.mem_append_right _ h)
  have hP : va_P D vwCl (pm_shS y q S) s.heap := hP
  have hl := lv_entry ([.ref (q 0), .int xf, .int xw]) (n := 3) (Nat.le_of_ble_eq_true rfl)
  rw [lg_entry_eq]
  generalize (lg_sl ([.ref (q 0), .int xf, .int xw]) ++ List.replicate (3 - (lg_sl ([.ref (q 0), .int xf, .int xw])).length) Slot.unset).toArray = ls at hl ⊢
  have hl : lv_has ls 3 [(0, .ref (q 0)), (1, .int xf), (2, .int xw)] := hl
  refine lv_iload_n hx hb dX2_aboutFrame_0 rfl (lv_at hl 1 rfl) ?_
  refine vp_callSi (W.runS (As := [.int xf]) (rest := []) ⟨hx, hb, hml, hown, hts⟩ (k_X2_isFrame l xf) (va_cwS 1 hts gX2_aboutFrame_X2_isFrame rfl rfl rfl hd_X2_isFrame ⟨Nat.le_of_ble_eq_true rfl, Nat.le_of_ble_eq_true rfl⟩) ⟨pm_no_blind, pm_no_pre⟩ rfl rfl hl.1 rfl (lv_room (Nat.le_of_ble_eq_true rfl)) dX2_aboutFrame_1 ⟨Nat.le_of_ble_eq_true rfl, Nat.le_of_ble_eq_true rfl⟩) (fun r1 h2 => ?_)
  rcases h2 with ⟨j3, hj3, ej3, rfl⟩ | ⟨hnj3, rfl⟩
  · subst ej3
    refine lv_if_ne (tgt := 9) hx hb dX2_aboutFrame_4 (by decide) (fun _ => ?_) (fun c4 => absurd c4 (by decide))
    refine lv_iload_n hx hb dX2_aboutFrame_9 rfl (lv_at hl 2 rfl) ?_
    have hsw5 : (xw < 0 ∨ nI 6 ≤ xw) ∨ xw = nI 0 ∨ xw = nI 1 ∨ xw = nI 2 ∨ xw = nI 3 ∨ xw = nI 4 ∨ xw = nI 5 := by
      rcases pm_cases xw (n := 6) (by decide) with h | ⟨j, hj, rfl⟩
      · exact Or.inl h
      · rcases (show j = 0 ∨ j = 1 ∨ j = 2 ∨ j = 3 ∨ j = 4 ∨ j = 5 by omega) with rfl | rfl | rfl | rfl | rfl | rfl <;> simp
    rcases hsw5 with hw | rfl | rfl | rfl | rfl | rfl | rfl
    · skip
      refine lv_tableOut (tgt := 90) hx hb dX2_aboutFrame_10 (pm_swout (n := 5) (by decide) hw) (by decide) ?_
      refine lv_bipush (v := (-2)) hx hb dX2_aboutFrame_90 (by decide) ?_
      exact W.iret hx hb hr (fun t ht _ => ⟨_, rfl, (by simp only [pm_of, pm_ix_in hj3 (show (30 : Nat) < 2 ^ 31 by decide), pm_ix_out hw]), ht⟩) (fun _ h => absurd h List.not_mem_nil) dX2_aboutFrame_92
    · skip
      refine lv_tableIn (off := 38) (tgt := 48) hx hb dX2_aboutFrame_10 (by decide) (by decide) (by decide) (by decide) ?_
      refine lv_aload_n hx hb dX2_aboutFrame_48 rfl (lv_at hl 0 rfl) ?_
      refine va_get (D := D) (ci := 2) (v := .ref (q 2)) (C := RX2) (T := TX2) (N := 15) hx hb hts hin2 hown hK hP 0 rfl rfl 1 (by decide) (hts (.fieldLink RX2 15 "ProofMarks$Sheet" "how" "[I") (List.mem_of_getElem? (i := 1) rfl)) (fun _ h9 => h9) rfl dX2_aboutFrame_49 ?_
      refine lv_iload_n hx hb dX2_aboutFrame_52 rfl (lv_at hl 1 rfl) ?_
      refine kx_iald (v := nI ((S 0) j3)) hx hb hK hP 2 0 rfl rfl (by omega) (by decide) rfl dX2_aboutFrame_53 ?_
      have := hI.how j3 (by omega)
      exact W.iret hx hb hr (fun t ht _ => ⟨_, rfl, (by simp only [pm_of, pm_ix_in hj3 (show (30 : Nat) < 2 ^ 31 by decide), pm_ix_in (show (0 : Nat) < 6 by decide) (show (6 : Nat) < 2 ^ 31 by decide)]), ht⟩) (fun _ h => absurd h List.not_mem_nil) dX2_aboutFrame_54
    · skip
      refine lv_tableIn (off := 45) (tgt := 55) hx hb dX2_aboutFrame_10 (by decide) (by decide) (by decide) (by decide) ?_
      refine lv_aload_n hx hb dX2_aboutFrame_55 rfl (lv_at hl 0 rfl) ?_
      refine va_get (D := D) (ci := 2) (v := .ref (q 3)) (C := RX2) (T := TX2) (N := 15) hx hb hts hin2 hown hK hP 0 rfl rfl 2 (by decide) (hts (.fieldLink RX2 18 "ProofMarks$Sheet" "ticks" "[I") (List.mem_of_getElem? (i := 2) rfl)) (fun _ h9 => h9) rfl dX2_aboutFrame_56 ?_
      refine lv_iload_n hx hb dX2_aboutFrame_59 rfl (lv_at hl 1 rfl) ?_
      refine kx_iald (v := nI (pm_tk ((S 4) j3))) hx hb hK hP 3 0 rfl rfl (by omega) (by decide) rfl dX2_aboutFrame_60 ?_
      have := pm_tk8 ((S 4) j3)
      exact W.iret hx hb hr (fun t ht _ => ⟨_, rfl, (by simp only [pm_of, pm_ix_in hj3 (show (30 : Nat) < 2 ^ 31 by decide), pm_ix_in (show (1 : Nat) < 6 by decide) (show (6 : Nat) < 2 ^ 31 by decide)]), ht⟩) (fun _ h => absurd h List.not_mem_nil) dX2_aboutFrame_61
    · skip
      refine lv_tableIn (off := 52) (tgt := 62) hx hb dX2_aboutFrame_10 (by decide) (by decide) (by decide) (by decide) ?_
      refine lv_aload_n hx hb dX2_aboutFrame_62 rfl (lv_at hl 0 rfl) ?_
      refine va_get (D := D) (ci := 2) (v := .ref (q 4)) (C := RX2) (T := TX2) (N := 15) hx hb hts hin2 hown hK hP 0 rfl rfl 3 (by decide) (hts (.fieldLink RX2 21 "ProofMarks$Sheet" "crosses" "[I") (List.mem_of_getElem? (i := 3) rfl)) (fun _ h9 => h9) rfl dX2_aboutFrame_63 ?_
      refine lv_iload_n hx hb dX2_aboutFrame_66 rfl (lv_at hl 1 rfl) ?_
      refine kx_iald (v := nI (pm_ck ((S 4) j3))) hx hb hK hP 4 0 rfl rfl (by omega) (by decide) rfl dX2_aboutFrame_67 ?_
      have := pm_ck8 ((S 4) j3)
      exact W.iret hx hb hr (fun t ht _ => ⟨_, rfl, (by simp only [pm_of, pm_ix_in hj3 (show (30 : Nat) < 2 ^ 31 by decide), pm_ix_in (show (2 : Nat) < 6 by decide) (show (6 : Nat) < 2 ^ 31 by decide)]), ht⟩) (fun _ h => absurd h List.not_mem_nil) dX2_aboutFrame_68
    · skip
      refine lv_tableIn (off := 59) (tgt := 69) hx hb dX2_aboutFrame_10 (by decide) (by decide) (by decide) (by decide) ?_
      refine lv_aload_n hx hb dX2_aboutFrame_69 rfl (lv_at hl 0 rfl) ?_
      refine va_get (D := D) (ci := 2) (v := .ref (q 5)) (C := RX2) (T := TX2) (N := 15) hx hb hts hin2 hown hK hP 0 rfl rfl 4 (by decide) (hts (.fieldLink RX2 24 "ProofMarks$Sheet" "dull" "[I") (List.mem_of_getElem? (i := 4) rfl)) (fun _ h9 => h9) rfl dX2_aboutFrame_70 ?_
      refine lv_iload_n hx hb dX2_aboutFrame_73 rfl (lv_at hl 1 rfl) ?_
      refine kx_iald (v := nI ((S 1) j3)) hx hb hK hP 5 0 rfl rfl (by omega) (by decide) rfl dX2_aboutFrame_74 ?_
      have := hI.dull j3 (by omega)
      have := hI.rnd
      exact W.iret hx hb hr (fun t ht _ => ⟨_, rfl, (by simp only [pm_of, pm_ix_in hj3 (show (30 : Nat) < 2 ^ 31 by decide), pm_ix_in (show (3 : Nat) < 6 by decide) (show (6 : Nat) < 2 ^ 31 by decide)]), ht⟩) (fun _ h => absurd h List.not_mem_nil) dX2_aboutFrame_75
    · skip
      refine lv_tableIn (off := 66) (tgt := 76) hx hb dX2_aboutFrame_10 (by decide) (by decide) (by decide) (by decide) ?_
      refine lv_aload_n hx hb dX2_aboutFrame_76 rfl (lv_at hl 0 rfl) ?_
      refine va_get (D := D) (ci := 2) (v := .ref (q 6)) (C := RX2) (T := TX2) (N := 15) hx hb hts hin2 hown hK hP 0 rfl rfl 5 (by decide) (hts (.fieldLink RX2 27 "ProofMarks$Sheet" "sizes" "[I") (List.mem_of_getElem? (i := 5) rfl)) (fun _ h9 => h9) rfl dX2_aboutFrame_77 ?_
      refine lv_iload_n hx hb dX2_aboutFrame_80 rfl (lv_at hl 1 rfl) ?_
      refine kx_iald (v := nI ((S 2) j3)) hx hb hK hP 6 0 rfl rfl (by omega) (by decide) rfl dX2_aboutFrame_81 ?_
      have := hI.size j3 (by omega)
      exact W.iret hx hb hr (fun t ht _ => ⟨_, rfl, (by simp only [pm_of, pm_ix_in hj3 (show (30 : Nat) < 2 ^ 31 by decide), pm_ix_in (show (4 : Nat) < 6 by decide) (show (6 : Nat) < 2 ^ 31 by decide)]), ht⟩) (fun _ h => absurd h List.not_mem_nil) dX2_aboutFrame_82
    · skip
      refine lv_tableIn (off := 73) (tgt := 83) hx hb dX2_aboutFrame_10 (by decide) (by decide) (by decide) (by decide) ?_
      refine lv_aload_n hx hb dX2_aboutFrame_83 rfl (lv_at hl 0 rfl) ?_
      refine va_get (D := D) (ci := 2) (v := .ref (q 7)) (C := RX2) (T := TX2) (N := 15) hx hb hts hin2 hown hK hP 0 rfl rfl 6 (by decide) (hts (.fieldLink RX2 30 "ProofMarks$Sheet" "chosenIn" "[I") (List.mem_of_getElem? (i := 6) rfl)) (fun _ h9 => h9) rfl dX2_aboutFrame_84 ?_
      refine lv_iload_n hx hb dX2_aboutFrame_87 rfl (lv_at hl 1 rfl) ?_
      refine kx_iald (v := pm_ci ((S 3) j3)) hx hb hK hP 7 0 rfl rfl (by omega) (by decide) rfl dX2_aboutFrame_88 ?_
      exact W.iret hx hb hr (fun t ht _ => ⟨_, rfl, (by simp only [pm_of, pm_ix_in hj3 (show (30 : Nat) < 2 ^ 31 by decide), pm_ix_in (show (5 : Nat) < 6 by decide) (show (6 : Nat) < 2 ^ 31 by decide)]), ht⟩) (fun _ h => absurd h List.not_mem_nil) dX2_aboutFrame_89
  · skip
    refine lv_if_ne (tgt := 9) hx hb dX2_aboutFrame_4 (by decide) (fun c6 => (c6 (by decide)).elim) (fun _ => ?_)
    refine lv_iconst (v := -1) hx hb dX2_aboutFrame_7 (by decide) ?_
    exact W.iret hx hb hr (fun t ht _ => ⟨_, rfl, (by simp only [pm_of, pm_ix_out hnj3]), ht⟩) (fun _ h => absurd h List.not_mem_nil) dX2_aboutFrame_8

set_option maxHeartbeats 4000000 in
set_option maxRecDepth 100000 in
theorem k_X2_aboutEditor (l : Launch) (D : va_G) (y : Nat → ClassId) (q : Nat → Nat) (S : Nat → Nat → Nat) (xe xw : Int32) (hI : pm_Inv S) : Met l yX2_aboutEditor wsX2_aboutEditor ({ frames := 3, cells := 0, slots := 0, locals := 68 } : Room) (pm_ro D (pm_ty y) [.ref (q 0), .int xe, .int xw] (pm_shS y q S)) (vp_Si (fun r : Int32 => r = pm_ed S xe xw)) 0 0 (fun _ => False) := by
  refine Met.ofW (cc := cX2_aboutEditor) (maxL := 3) (ret := (some .int)) (by decide) rfl ?_
  intro p e s m args below meth c s₁ B hml hpre
  obtain ⟨rfl, hP, hK⟩ := hpre
  have hx := B.exec
  have hb := B.bytes
  have hr := B.returns
  have hts := atoms_spec (ws := wsX2_aboutEditor) B.pre
  have hown : s.vm.findClass RX2 = some m.cls := findClass_of_methodNamed B.named
  have hlocks := B.notSynchronized
  have hin2 : ∀ w ∈ u_ws RX2 TX2 15, w ∈ wsX2_aboutEditor := fun w h => List.mem_cons_of_mem _ (List.mem_append_right _ h)
  have hP : va_P D vwCl (pm_shS y q S) s.heap := hP
  have hl := lv_entry ([.ref (q 0), .int xe, .int xw]) (n := 3) (Nat.le_of_ble_eq_true rfl)
  rw [lg_entry_eq]
  generalize (lg_sl ([.ref (q 0), .int xe, .int xw]) ++ List.replicate (3 - (lg_sl ([.ref (q 0), .int xe, .int xw])).length) Slot.unset).toArray = ls at hl ⊢
  have hl : lv_has ls 3 [(0, .ref (q 0)), (1, .int xe), (2, .int xw)] := hl
  refine lv_iload_n hx hb dX2_aboutEditor_0 rfl (lv_at hl 1 rfl) ?_
  refine vp_callSi (W.runS (As := [.int xe]) (rest := []) ⟨hx, hb, hml, hown, hts⟩ (k_X2_isEditor l xe) (va_cwS 1 hts gX2_aboutEditor_X2_isEditor rfl rfl rfl hd_X2_isEditor ⟨Nat.le_of_ble_eq_true rfl, Nat.le_of_ble_eq_true rfl⟩) ⟨pm_no_blind, pm_no_pre⟩ rfl rfl hl.1 rfl (lv_room (Nat.le_of_ble_eq_true rfl)) dX2_aboutEditor_1 ⟨Nat.le_of_ble_eq_true rfl, Nat.le_of_ble_eq_true rfl⟩) (fun r1 h2 => ?_)
  rcases h2 with ⟨j3, hj3, ej3, rfl⟩ | ⟨hnj3, rfl⟩
  · subst ej3
    refine lv_if_ne (tgt := 9) hx hb dX2_aboutEditor_4 (by decide) (fun _ => ?_) (fun c4 => absurd c4 (by decide))
    refine lv_iload_n hx hb dX2_aboutEditor_9 rfl (lv_at hl 2 rfl) ?_
    have hsw5 : (xw < 0 ∨ nI 7 ≤ xw) ∨ xw = nI 0 ∨ xw = nI 1 ∨ xw = nI 2 ∨ xw = nI 3 ∨ xw = nI 4 ∨ xw = nI 5 ∨ xw = nI 6 := by
      rcases pm_cases xw (n := 7) (by decide) with h | ⟨j, hj, rfl⟩
      · exact Or.inl h
      · rcases (show j = 0 ∨ j = 1 ∨ j = 2 ∨ j = 3 ∨ j = 4 ∨ j = 5 ∨ j = 6 by omega) with rfl | rfl | rfl | rfl | rfl | rfl | rfl <;> simp
    rcases hsw5 with hw | rfl | rfl | rfl | rfl | rfl | rfl | rfl
    · skip
      refine lv_tableOut (tgt := 100) hx hb dX2_aboutEditor_10 (pm_swout (n := 6) (by decide) hw) (by decide) ?_
      refine lv_bipush (v := (-2)) hx hb dX2_aboutEditor_100 (by decide) ?_
      exact W.iret hx hb hr (fun t ht _ => ⟨_, rfl, (by simp only [pm_ed, pm_ix_in hj3 (show (3 : Nat) < 2 ^ 31 by decide), pm_ix_out hw]), ht⟩) (fun _ h => absurd h List.not_mem_nil) dX2_aboutEditor_102
    · skip
      refine lv_tableIn (off := 42) (tgt := 52) hx hb dX2_aboutEditor_10 (by decide) (by decide) (by decide) (by decide) ?_
      refine lv_aload_n hx hb dX2_aboutEditor_52 rfl (lv_at hl 0 rfl) ?_
      refine va_get (D := D) (ci := 2) (v := .ref (q 8)) (C := RX2) (T := TX2) (N := 15) hx hb hts hin2 hown hK hP 0 rfl rfl 7 (by decide) (hts (.fieldLink RX2 33 "ProofMarks$Sheet" "points" "[I") (List.mem_of_getElem? (i := 1) rfl)) (fun _ h9 => h9) rfl dX2_aboutEditor_53 ?_
      refine lv_iload_n hx hb dX2_aboutEditor_56 rfl (lv_at hl 1 rfl) ?_
      refine kx_iald (v := nI ((S 5) j3)) hx hb hK hP 8 0 rfl rfl (by omega) (by decide) rfl dX2_aboutEditor_57 ?_
      have := hI.pts j3 (by omega)
      exact W.iret hx hb hr (fun t ht _ => ⟨_, rfl, (by simp only [pm_ed, pm_ix_in hj3 (show (3 : Nat) < 2 ^ 31 by decide), pm_ix_in (show (0 : Nat) < 7 by decide) (show (7 : Nat) < 2 ^ 31 by decide)]), ht⟩) (fun _ h => absurd h List.not_mem_nil) dX2_aboutEditor_58
    · skip
      refine lv_tableIn (off := 49) (tgt := 59) hx hb dX2_aboutEditor_10 (by decide) (by decide) (by decide) (by decide) ?_
      refine lv_aload_n hx hb dX2_aboutEditor_59 rfl (lv_at hl 0 rfl) ?_
      refine lv_iload_n hx hb dX2_aboutEditor_60 rfl (lv_at hl 1 rfl) ?_
      refine lv_iconst (v := nI 1) hx hb dX2_aboutEditor_61 (by decide) ?_
      refine vp_callSi (W.runV (As := [.int (nI j3), .int (nI 1)]) (rest := []) ⟨hx, hb, hml, hown, hts⟩ (k_X2_marksOf l D y q S j3 1 hI (by omega) (by omega)) (cwV 2 hts gX2_aboutEditor_X2_marksOf rfl rfl rfl hd_X2_marksOf ⟨Nat.le_of_ble_eq_true rfl, Nat.le_of_ble_eq_true rfl⟩) ⟨pm_ro_blind, va_recv hK hP (ci := 2) (q0 := 0) rfl rfl, pm_ro_pre hP hK⟩ rfl rfl hl.1 rfl (lv_room (Nat.le_of_ble_eq_true rfl)) dX2_aboutEditor_62 ⟨Nat.le_of_ble_eq_true rfl, Nat.le_of_ble_eq_true rfl⟩) (fun r6 h7 => ?_)
      obtain rfl : r6 = nI (pm_cnt S j3 1 30) := h7
      have := pm_cnt_le S j3 1 30
      exact W.iret hx hb hr (fun t ht _ => ⟨_, rfl, (by simp only [pm_ed, pm_ix_in hj3 (show (3 : Nat) < 2 ^ 31 by decide), pm_ix_in (show (1 : Nat) < 7 by decide) (show (7 : Nat) < 2 ^ 31 by decide)]), ht⟩) (fun _ h => absurd h List.not_mem_nil) dX2_aboutEditor_65
    · skip
      refine lv_tableIn (off := 56) (tgt := 66) hx hb dX2_aboutEditor_10 (by decide) (by decide) (by decide) (by decide) ?_
      refine lv_aload_n hx hb dX2_aboutEditor_66 rfl (lv_at hl 0 rfl) ?_
      refine lv_iload_n hx hb dX2_aboutEditor_67 rfl (lv_at hl 1 rfl) ?_
      refine lv_iconst (v := nI 2) hx hb dX2_aboutEditor_68 (by decide) ?_
      refine vp_callSi (W.runV (As := [.int (nI j3), .int (nI 2)]) (rest := []) ⟨hx, hb, hml, hown, hts⟩ (k_X2_marksOf l D y q S j3 2 hI (by omega) (by omega)) (cwV 2 hts gX2_aboutEditor_X2_marksOf rfl rfl rfl hd_X2_marksOf ⟨Nat.le_of_ble_eq_true rfl, Nat.le_of_ble_eq_true rfl⟩) ⟨pm_ro_blind, va_recv hK hP (ci := 2) (q0 := 0) rfl rfl, pm_ro_pre hP hK⟩ rfl rfl hl.1 rfl (lv_room (Nat.le_of_ble_eq_true rfl)) dX2_aboutEditor_69 ⟨Nat.le_of_ble_eq_true rfl, Nat.le_of_ble_eq_true rfl⟩) (fun r8 h9 => ?_)
      obtain rfl : r8 = nI (pm_cnt S j3 2 30) := h9
      have := pm_cnt_le S j3 2 30
      exact W.iret hx hb hr (fun t ht _ => ⟨_, rfl, (by simp only [pm_ed, pm_ix_in hj3 (show (3 : Nat) < 2 ^ 31 by decide), pm_ix_in (show (2 : Nat) < 7 by decide) (show (7 : Nat) < 2 ^ 31 by decide)]), ht⟩) (fun _ h => absurd h List.not_mem_nil) dX2_aboutEditor_72
    · skip
      refine lv_tableIn (off := 63) (tgt := 73) hx hb dX2_aboutEditor_10 (by decide) (by decide) (by decide) (by decide) ?_
      refine lv_aload_n hx hb dX2_aboutEditor_73 rfl (lv_at hl 0 rfl) ?_
      refine lv_iload_n hx hb dX2_aboutEditor_74 rfl (lv_at hl 1 rfl) ?_
      refine vp_callSi (W.runV (As := [.int (nI j3)]) (rest := []) ⟨hx, hb, hml, hown, hts⟩ (k_X2_vetoesLeft l D y q S j3 hI (by omega)) (cwV 1 hts gX2_aboutEditor_X2_vetoesLeft rfl rfl rfl hd_X2_vetoesLeft ⟨Nat.le_of_ble_eq_true rfl, Nat.le_of_ble_eq_true rfl⟩) ⟨pm_ro_blind, va_recv hK hP (ci := 2) (q0 := 0) rfl rfl, pm_ro_pre hP hK⟩ rfl rfl hl.1 rfl (lv_room (Nat.le_of_ble_eq_true rfl)) dX2_aboutEditor_75 ⟨Nat.le_of_ble_eq_true rfl, Nat.le_of_ble_eq_true rfl⟩) (fun r10 h11 => ?_)
      obtain rfl : r10 = nI (S 9 1 - pm_cnt S j3 2 30) := h11
      have := hI.set9 1 (by decide)
      exact W.iret hx hb hr (fun t ht _ => ⟨_, rfl, (by simp only [pm_ed, pm_ix_in hj3 (show (3 : Nat) < 2 ^ 31 by decide), pm_ix_in (show (3 : Nat) < 7 by decide) (show (7 : Nat) < 2 ^ 31 by decide)]), ht⟩) (fun _ h => absurd h List.not_mem_nil) dX2_aboutEditor_78
    · skip
      refine lv_tableIn (off := 69) (tgt := 79) hx hb dX2_aboutEditor_10 (by decide) (by decide) (by decide) (by decide) ?_
      refine lv_aload_n hx hb dX2_aboutEditor_79 rfl (lv_at hl 0 rfl) ?_
      refine va_get (D := D) (ci := 2) (v := .ref (q 9)) (C := RX2) (T := TX2) (N := 15) hx hb hts hin2 hown hK hP 0 rfl rfl 8 (by decide) (hts (.fieldLink RX2 36 "ProofMarks$Sheet" "arguments" "[I") (List.mem_of_getElem? (i := 2) rfl)) (fun _ h9 => h9) rfl dX2_aboutEditor_80 ?_
      refine lv_iload_n hx hb dX2_aboutEditor_83 rfl (lv_at hl 1 rfl) ?_
      refine kx_iald (v := nI ((S 6) j3)) hx hb hK hP 9 0 rfl rfl (by omega) (by decide) rfl dX2_aboutEditor_84 ?_
      exact W.iret hx hb hr (fun t ht _ => ⟨_, rfl, (by simp only [pm_ed, pm_ix_in hj3 (show (3 : Nat) < 2 ^ 31 by decide), pm_ix_in (show (4 : Nat) < 7 by decide) (show (7 : Nat) < 2 ^ 31 by decide)]), ht⟩) (fun _ h => absurd h List.not_mem_nil) dX2_aboutEditor_85
    · skip
      refine lv_tableIn (off := 76) (tgt := 86) hx hb dX2_aboutEditor_10 (by decide) (by decide) (by decide) (by decide) ?_
      refine lv_aload_n hx hb dX2_aboutEditor_86 rfl (lv_at hl 0 rfl) ?_
      refine va_get (D := D) (ci := 2) (v := .ref (q 10)) (C := RX2) (T := TX2) (N := 15) hx hb hts hin2 hown hK hP 0 rfl rfl 9 (by decide) (hts (.fieldLink RX2 39 "ProofMarks$Sheet" "lifted" "[I") (List.mem_of_getElem? (i := 3) rfl)) (fun _ h9 => h9) rfl dX2_aboutEditor_87 ?_
      refine lv_iload_n hx hb dX2_aboutEditor_90 rfl (lv_at hl 1 rfl) ?_
      refine kx_iald (v := nI ((S 7) j3)) hx hb hK hP 10 0 rfl rfl (by omega) (by decide) rfl dX2_aboutEditor_91 ?_
      exact W.iret hx hb hr (fun t ht _ => ⟨_, rfl, (by simp only [pm_ed, pm_ix_in hj3 (show (3 : Nat) < 2 ^ 31 by decide), pm_ix_in (show (5 : Nat) < 7 by decide) (show (7 : Nat) < 2 ^ 31 by decide)]), ht⟩) (fun _ h => absurd h List.not_mem_nil) dX2_aboutEditor_92
    · skip
      refine lv_tableIn (off := 83) (tgt := 93) hx hb dX2_aboutEditor_10 (by decide) (by decide) (by decide) (by decide) ?_
      refine lv_aload_n hx hb dX2_aboutEditor_93 rfl (lv_at hl 0 rfl) ?_
      refine va_get (D := D) (ci := 2) (v := .ref (q 11)) (C := RX2) (T := TX2) (N := 15) hx hb hts hin2 hown hK hP 0 rfl rfl 10 (by decide) (hts (.fieldLink RX2 42 "ProofMarks$Sheet" "favourites" "[I") (List.mem_of_getElem? (i := 4) rfl)) (fun _ h9 => h9) rfl dX2_aboutEditor_94 ?_
      refine lv_iload_n hx hb dX2_aboutEditor_97 rfl (lv_at hl 1 rfl) ?_
      refine kx_iald (v := nI ((S 8) j3)) hx hb hK hP 11 0 rfl rfl (by omega) (by decide) rfl dX2_aboutEditor_98 ?_
      exact W.iret hx hb hr (fun t ht _ => ⟨_, rfl, (by simp only [pm_ed, pm_ix_in hj3 (show (3 : Nat) < 2 ^ 31 by decide), pm_ix_in (show (6 : Nat) < 7 by decide) (show (7 : Nat) < 2 ^ 31 by decide)]), ht⟩) (fun _ h => absurd h List.not_mem_nil) dX2_aboutEditor_99
  · skip
    refine lv_if_ne (tgt := 9) hx hb dX2_aboutEditor_4 (by decide) (fun c12 => (c12 (by decide)).elim) (fun _ => ?_)
    refine lv_iconst (v := -1) hx hb dX2_aboutEditor_7 (by decide) ?_
    exact W.iret hx hb hr (fun t ht _ => ⟨_, rfl, (by simp only [pm_ed, pm_ix_out hnj3]), ht⟩) (fun _ h => absurd h List.not_mem_nil) dX2_aboutEditor_8

set_option maxHeartbeats 4000000 in
set_option maxRecDepth 100000 in
theorem k_X2_numberOf (l : Launch) (D : va_G) (y : Nat → ClassId) (q : Nat → Nat) (S : Nat → Nat → Nat) (xw : Int32) (hI : pm_Inv S) : Met l yX2_numberOf wsX2_numberOf ({ frames := 2, cells := 0, slots := 0, locals := 44 } : Room) (pm_ro D (pm_ty y) [.ref (q 0), .int xw] (pm_shS y q S)) (vp_Si (fun r : Int32 => r = pm_co S xw)) 0 0 (fun _ => False) := by
  refine Met.ofW (cc := cX2_numberOf) (maxL := 2) (ret := (some .int)) (by decide) rfl ?_
  intro p e s m args below meth c s₁ B hml hpre
  obtain ⟨rfl, hP, hK⟩ := hpre
  have hx := B.exec
  have hb := B.bytes
  have hr := B.returns
  have hts := atoms_spec (ws := wsX2_numberOf) B.pre
  have hown : s.vm.findClass RX2 = some m.cls := findClass_of_methodNamed B.named
  have hlocks := B.notSynchronized
  have hin2 : ∀ w ∈ u_ws RX2 TX2 15, w ∈ wsX2_numberOf := fun w h => List.mem_cons_of_mem _ (List.mem_append_right _ h)
  have hP : va_P D vwCl (pm_shS y q S) s.heap := hP
  have hl := lv_entry ([.ref (q 0), .int xw]) (n := 2) (Nat.le_of_ble_eq_true rfl)
  rw [lg_entry_eq]
  generalize (lg_sl ([.ref (q 0), .int xw]) ++ List.replicate (2 - (lg_sl ([.ref (q 0), .int xw])).length) Slot.unset).toArray = ls at hl ⊢
  have hl : lv_has ls 2 [(0, .ref (q 0)), (1, .int xw)] := hl
  refine lv_iload_n hx hb dX2_numberOf_0 rfl (lv_at hl 1 rfl) ?_
  have hsw1 : (xw < 0 ∨ nI 15 ≤ xw) ∨ xw = nI 0 ∨ xw = nI 1 ∨ xw = nI 2 ∨ xw = nI 3 ∨ xw = nI 4 ∨ xw = nI 5 ∨ xw = nI 6 ∨ xw = nI 7 ∨ xw = nI 8 ∨ xw = nI 9 ∨ xw = nI 10 ∨ xw = nI 11 ∨ xw = nI 12 ∨ xw = nI 13 ∨ xw = nI 14 := by
    rcases pm_cases xw (n := 15) (by decide) with h | ⟨j, hj, rfl⟩
    · exact Or.inl h
    · rcases (show j = 0 ∨ j = 1 ∨ j = 2 ∨ j = 3 ∨ j = 4 ∨ j = 5 ∨ j = 6 ∨ j = 7 ∨ j = 8 ∨ j = 9 ∨ j = 10 ∨ j = 11 ∨ j = 12 ∨ j = 13 ∨ j = 14 by omega) with rfl | rfl | rfl | rfl | rfl | rfl | rfl | rfl | rfl | rfl | rfl | rfl | rfl | rfl | rfl <;> simp
  rcases hsw1 with hw | rfl | rfl | rfl | rfl | rfl | rfl | rfl | rfl | rfl | rfl | rfl | rfl | rfl | rfl | rfl
  · skip
    refine lv_tableOut (tgt := 140) hx hb dX2_numberOf_1 (pm_swout (n := 14) (by decide) hw) (by decide) ?_
    refine lv_bipush (v := (-2)) hx hb dX2_numberOf_140 (by decide) ?_
    exact W.iret hx hb hr (fun t ht _ => ⟨_, rfl, (by simp only [pm_co, pm_ix_out hw]), ht⟩) (fun _ h => absurd h List.not_mem_nil) dX2_numberOf_142
  · skip
    refine lv_tableIn (off := 75) (tgt := 76) hx hb dX2_numberOf_1 (by decide) (by decide) (by decide) (by decide) ?_
    refine lv_aload_n hx hb dX2_numberOf_76 rfl (lv_at hl 0 rfl) ?_
    refine va_get (D := D) (ci := 2) (v := .int (nI (S 10 0))) (C := RX2) (T := TX2) (N := 15) hx hb hts hin2 hown hK hP 0 rfl rfl 12 (by decide) (hts (.fieldLink RX2 48 "ProofMarks$Sheet" "rounds" "I") (List.mem_of_getElem? (i := 1) rfl)) (fun _ h9 => h9) rfl dX2_numberOf_77 ?_
    have := hI.rnd
    exact W.iret hx hb hr (fun t ht _ => ⟨_, rfl, (by simp only [pm_co, pm_ix_in (show (0 : Nat) < 15 by decide) (show (15 : Nat) < 2 ^ 31 by decide)]), ht⟩) (fun _ h => absurd h List.not_mem_nil) dX2_numberOf_80
  · skip
    refine lv_tableIn (off := 80) (tgt := 81) hx hb dX2_numberOf_1 (by decide) (by decide) (by decide) (by decide) ?_
    refine lv_aload_n hx hb dX2_numberOf_81 rfl (lv_at hl 0 rfl) ?_
    refine lv_iconst (v := nI 0) hx hb dX2_numberOf_82 (by decide) ?_
    refine vp_callSi (W.runV (As := [.int (nI 0)]) (rest := []) ⟨hx, hb, hml, hown, hts⟩ (k_X2_framesThatAre l D y q S 0 hI (by omega)) (cwV 1 hts gX2_numberOf_X2_framesThatAre rfl rfl rfl hd_X2_framesThatAre ⟨Nat.le_of_ble_eq_true rfl, Nat.le_of_ble_eq_true rfl⟩) ⟨pm_ro_blind, va_recv hK hP (ci := 2) (q0 := 0) rfl rfl, pm_ro_pre hP hK⟩ rfl rfl hl.1 rfl (lv_room (Nat.le_of_ble_eq_true rfl)) dX2_numberOf_83 ⟨Nat.le_of_ble_eq_true rfl, Nat.le_of_ble_eq_true rfl⟩) (fun r2 h3 => ?_)
    obtain rfl : r2 = nI (pm_hm S 0 30) := h3
    exact W.iret hx hb hr (fun t ht _ => ⟨_, rfl, (by simp only [pm_co, pm_ix_in (show (1 : Nat) < 15 by decide) (show (15 : Nat) < 2 ^ 31 by decide)]), ht⟩) (fun _ h => absurd h List.not_mem_nil) dX2_numberOf_86
  · skip
    refine lv_tableIn (off := 86) (tgt := 87) hx hb dX2_numberOf_1 (by decide) (by decide) (by decide) (by decide) ?_
    refine lv_aload_n hx hb dX2_numberOf_87 rfl (lv_at hl 0 rfl) ?_
    refine lv_iconst (v := nI 1) hx hb dX2_numberOf_88 (by decide) ?_
    refine vp_callSi (W.runV (As := [.int (nI 1)]) (rest := []) ⟨hx, hb, hml, hown, hts⟩ (k_X2_framesThatAre l D y q S 1 hI (by omega)) (cwV 1 hts gX2_numberOf_X2_framesThatAre rfl rfl rfl hd_X2_framesThatAre ⟨Nat.le_of_ble_eq_true rfl, Nat.le_of_ble_eq_true rfl⟩) ⟨pm_ro_blind, va_recv hK hP (ci := 2) (q0 := 0) rfl rfl, pm_ro_pre hP hK⟩ rfl rfl hl.1 rfl (lv_room (Nat.le_of_ble_eq_true rfl)) dX2_numberOf_89 ⟨Nat.le_of_ble_eq_true rfl, Nat.le_of_ble_eq_true rfl⟩) (fun r4 h5 => ?_)
    obtain rfl : r4 = nI (pm_hm S 1 30) := h5
    exact W.iret hx hb hr (fun t ht _ => ⟨_, rfl, (by simp only [pm_co, pm_ix_in (show (2 : Nat) < 15 by decide) (show (15 : Nat) < 2 ^ 31 by decide)]), ht⟩) (fun _ h => absurd h List.not_mem_nil) dX2_numberOf_92
  · skip
    refine lv_tableIn (off := 92) (tgt := 93) hx hb dX2_numberOf_1 (by decide) (by decide) (by decide) (by decide) ?_
    refine lv_aload_n hx hb dX2_numberOf_93 rfl (lv_at hl 0 rfl) ?_
    refine lv_iconst (v := nI 2) hx hb dX2_numberOf_94 (by decide) ?_
    refine vp_callSi (W.runV (As := [.int (nI 2)]) (rest := []) ⟨hx, hb, hml, hown, hts⟩ (k_X2_framesThatAre l D y q S 2 hI (by omega)) (cwV 1 hts gX2_numberOf_X2_framesThatAre rfl rfl rfl hd_X2_framesThatAre ⟨Nat.le_of_ble_eq_true rfl, Nat.le_of_ble_eq_true rfl⟩) ⟨pm_ro_blind, va_recv hK hP (ci := 2) (q0 := 0) rfl rfl, pm_ro_pre hP hK⟩ rfl rfl hl.1 rfl (lv_room (Nat.le_of_ble_eq_true rfl)) dX2_numberOf_95 ⟨Nat.le_of_ble_eq_true rfl, Nat.le_of_ble_eq_true rfl⟩) (fun r6 h7 => ?_)
    obtain rfl : r6 = nI (pm_hm S 2 30) := h7
    exact W.iret hx hb hr (fun t ht _ => ⟨_, rfl, (by simp only [pm_co, pm_ix_in (show (3 : Nat) < 15 by decide) (show (15 : Nat) < 2 ^ 31 by decide)]), ht⟩) (fun _ h => absurd h List.not_mem_nil) dX2_numberOf_98
  · skip
    refine lv_tableIn (off := 98) (tgt := 99) hx hb dX2_numberOf_1 (by decide) (by decide) (by decide) (by decide) ?_
    refine lv_aload_n hx hb dX2_numberOf_99 rfl (lv_at hl 0 rfl) ?_
    refine lv_iconst (v := nI 3) hx hb dX2_numberOf_100 (by decide) ?_
    refine vp_callSi (W.runV (As := [.int (nI 3)]) (rest := []) ⟨hx, hb, hml, hown, hts⟩ (k_X2_framesThatAre l D y q S 3 hI (by omega)) (cwV 1 hts gX2_numberOf_X2_framesThatAre rfl rfl rfl hd_X2_framesThatAre ⟨Nat.le_of_ble_eq_true rfl, Nat.le_of_ble_eq_true rfl⟩) ⟨pm_ro_blind, va_recv hK hP (ci := 2) (q0 := 0) rfl rfl, pm_ro_pre hP hK⟩ rfl rfl hl.1 rfl (lv_room (Nat.le_of_ble_eq_true rfl)) dX2_numberOf_101 ⟨Nat.le_of_ble_eq_true rfl, Nat.le_of_ble_eq_true rfl⟩) (fun r8 h9 => ?_)
    obtain rfl : r8 = nI (pm_hm S 3 30) := h9
    exact W.iret hx hb hr (fun t ht _ => ⟨_, rfl, (by simp only [pm_co, pm_ix_in (show (4 : Nat) < 15 by decide) (show (15 : Nat) < 2 ^ 31 by decide)]), ht⟩) (fun _ h => absurd h List.not_mem_nil) dX2_numberOf_104
  · skip
    refine lv_tableIn (off := 104) (tgt := 105) hx hb dX2_numberOf_1 (by decide) (by decide) (by decide) (by decide) ?_
    refine lv_aload_n hx hb dX2_numberOf_105 rfl (lv_at hl 0 rfl) ?_
    refine va_get (D := D) (ci := 2) (v := .int (nI (S 10 1))) (C := RX2) (T := TX2) (N := 15) hx hb hts hin2 hown hK hP 0 rfl rfl 13 (by decide) (hts (.fieldLink RX2 52 "ProofMarks$Sheet" "paper" "I") (List.mem_of_getElem? (i := 2) rfl)) (fun _ h9 => h9) rfl dX2_numberOf_106 ?_
    have := hI.pap
    exact W.iret hx hb hr (fun t ht _ => ⟨_, rfl, (by simp only [pm_co, pm_ix_in (show (5 : Nat) < 15 by decide) (show (15 : Nat) < 2 ^ 31 by decide)]), ht⟩) (fun _ h => absurd h List.not_mem_nil) dX2_numberOf_109
  · skip
    refine lv_tableIn (off := 109) (tgt := 110) hx hb dX2_numberOf_1 (by decide) (by decide) (by decide) (by decide) ?_
    refine lv_aload_n hx hb dX2_numberOf_110 rfl (lv_at hl 0 rfl) ?_
    refine va_get (D := D) (ci := 2) (v := .int (nI (S 10 2))) (C := RX2) (T := TX2) (N := 15) hx hb hts hin2 hown hK hP 0 rfl rfl 14 (by decide) (hts (.fieldLink RX2 55 "ProofMarks$Sheet" "paperTaken" "I") (List.mem_of_getElem? (i := 3) rfl)) (fun _ h9 => h9) rfl dX2_numberOf_111 ?_
    exact W.iret hx hb hr (fun t ht _ => ⟨_, rfl, (by simp only [pm_co, pm_ix_in (show (6 : Nat) < 15 by decide) (show (15 : Nat) < 2 ^ 31 by decide)]), ht⟩) (fun _ h => absurd h List.not_mem_nil) dX2_numberOf_114
  · skip
    refine lv_tableIn (off := 114) (tgt := 115) hx hb dX2_numberOf_1 (by decide) (by decide) (by decide) (by decide) ?_
    refine lv_aload_n hx hb dX2_numberOf_115 rfl (lv_at hl 0 rfl) ?_
    refine va_get (D := D) (ci := 2) (v := .ref (q 12)) (C := RX2) (T := TX2) (N := 15) hx hb hts hin2 hown hK hP 0 rfl rfl 11 (by decide) (hts (.fieldLink RX2 45 "ProofMarks$Sheet" "prints" "[I") (List.mem_of_getElem? (i := 4) rfl)) (fun _ h9 => h9) rfl dX2_numberOf_116 ?_
    refine lv_iload_n hx hb dX2_numberOf_119 rfl (lv_at hl 1 rfl) ?_
    refine lv_bipush (v := nI 6) hx hb dX2_numberOf_120 (by decide) ?_
    refine kx_isub hx hb (by omega) dX2_numberOf_122 ?_
    refine lv_topi (fun x10 e11 => ?_)
    obtain rfl : x10 = nI 1 := e11.trans (rfl)
    refine kx_iald (v := nI ((S 11) 1)) hx hb hK hP 12 0 rfl rfl (by omega) (by decide) rfl dX2_numberOf_123 ?_
    exact W.iret hx hb hr (fun t ht _ => ⟨_, rfl, (by simp only [pm_co, pm_ix_in (show (7 : Nat) < 15 by decide) (show (15 : Nat) < 2 ^ 31 by decide)]), ht⟩) (fun _ h => absurd h List.not_mem_nil) dX2_numberOf_124
  · skip
    refine lv_tableIn (off := 114) (tgt := 115) hx hb dX2_numberOf_1 (by decide) (by decide) (by decide) (by decide) ?_
    refine lv_aload_n hx hb dX2_numberOf_115 rfl (lv_at hl 0 rfl) ?_
    refine va_get (D := D) (ci := 2) (v := .ref (q 12)) (C := RX2) (T := TX2) (N := 15) hx hb hts hin2 hown hK hP 0 rfl rfl 11 (by decide) (hts (.fieldLink RX2 45 "ProofMarks$Sheet" "prints" "[I") (List.mem_of_getElem? (i := 4) rfl)) (fun _ h9 => h9) rfl dX2_numberOf_116 ?_
    refine lv_iload_n hx hb dX2_numberOf_119 rfl (lv_at hl 1 rfl) ?_
    refine lv_bipush (v := nI 6) hx hb dX2_numberOf_120 (by decide) ?_
    refine kx_isub hx hb (by omega) dX2_numberOf_122 ?_
    refine lv_topi (fun x12 e13 => ?_)
    obtain rfl : x12 = nI 2 := e13.trans (rfl)
    refine kx_iald (v := nI ((S 11) 2)) hx hb hK hP 12 0 rfl rfl (by omega) (by decide) rfl dX2_numberOf_123 ?_
    exact W.iret hx hb hr (fun t ht _ => ⟨_, rfl, (by simp only [pm_co, pm_ix_in (show (8 : Nat) < 15 by decide) (show (15 : Nat) < 2 ^ 31 by decide)]), ht⟩) (fun _ h => absurd h List.not_mem_nil) dX2_numberOf_124
  · skip
    refine lv_tableIn (off := 114) (tgt := 115) hx hb dX2_numberOf_1 (by decide) (by decide) (by decide) (by decide) ?_
    refine lv_aload_n hx hb dX2_numberOf_115 rfl (lv_at hl 0 rfl) ?_
    refine va_get (D := D) (ci := 2) (v := .ref (q 12)) (C := RX2) (T := TX2) (N := 15) hx hb hts hin2 hown hK hP 0 rfl rfl 11 (by decide) (hts (.fieldLink RX2 45 "ProofMarks$Sheet" "prints" "[I") (List.mem_of_getElem? (i := 4) rfl)) (fun _ h9 => h9) rfl dX2_numberOf_116 ?_
    refine lv_iload_n hx hb dX2_numberOf_119 rfl (lv_at hl 1 rfl) ?_
    refine lv_bipush (v := nI 6) hx hb dX2_numberOf_120 (by decide) ?_
    refine kx_isub hx hb (by omega) dX2_numberOf_122 ?_
    refine lv_topi (fun x14 e15 => ?_)
    obtain rfl : x14 = nI 3 := e15.trans (rfl)
    refine kx_iald (v := nI ((S 11) 3)) hx hb hK hP 12 0 rfl rfl (by omega) (by decide) rfl dX2_numberOf_123 ?_
    exact W.iret hx hb hr (fun t ht _ => ⟨_, rfl, (by simp only [pm_co, pm_ix_in (show (9 : Nat) < 15 by decide) (show (15 : Nat) < 2 ^ 31 by decide)]), ht⟩) (fun _ h => absurd h List.not_mem_nil) dX2_numberOf_124
  · skip
    refine lv_tableIn (off := 124) (tgt := 125) hx hb dX2_numberOf_1 (by decide) (by decide) (by decide) (by decide) ?_
    refine lv_aload_n hx hb dX2_numberOf_125 rfl (lv_at hl 0 rfl) ?_
    refine vp_callSi (W.runV (As := []) (rest := []) ⟨hx, hb, hml, hown, hts⟩ (k_X2_longestRow l D y q S hI) (cwV 0 hts gX2_numberOf_X2_longestRow rfl rfl rfl hd_X2_longestRow ⟨Nat.le_of_ble_eq_true rfl, Nat.le_of_ble_eq_true rfl⟩) ⟨pm_ro_blind, va_recv hK hP (ci := 2) (q0 := 0) rfl rfl, pm_ro_pre hP hK⟩ rfl rfl hl.1 rfl (lv_room (Nat.le_of_ble_eq_true rfl)) dX2_numberOf_126 ⟨Nat.le_of_ble_eq_true rfl, Nat.le_of_ble_eq_true rfl⟩) (fun r16 h17 => ?_)
    obtain rfl : r16 = nI (pm_lm S 30) := h17
    exact W.iret hx hb hr (fun t ht _ => ⟨_, rfl, (by simp only [pm_co, pm_ix_in (show (10 : Nat) < 15 by decide) (show (15 : Nat) < 2 ^ 31 by decide)]), ht⟩) (fun _ h => absurd h List.not_mem_nil) dX2_numberOf_129
  · skip
    refine lv_tableIn (off := 129) (tgt := 130) hx hb dX2_numberOf_1 (by decide) (by decide) (by decide) (by decide) ?_
    refine lv_aload_n hx hb dX2_numberOf_130 rfl (lv_at hl 0 rfl) ?_
    refine va_get (D := D) (ci := 2) (v := .ref (q 1)) (C := RX2) (T := TX2) (N := 15) hx hb hts hin2 hown hK hP 0 rfl rfl 0 (by decide) (hts (.fieldLink RX2 11 "ProofMarks$Sheet" "settings" "[I") (List.mem_of_getElem? (i := 5) rfl)) (fun _ h9 => h9) rfl dX2_numberOf_131 ?_
    refine lv_iload_n hx hb dX2_numberOf_134 rfl (lv_at hl 1 rfl) ?_
    refine lv_bipush (v := nI 11) hx hb dX2_numberOf_135 (by decide) ?_
    refine kx_isub hx hb (by omega) dX2_numberOf_137 ?_
    refine lv_topi (fun x18 e19 => ?_)
    obtain rfl : x18 = nI 0 := e19.trans (rfl)
    refine kx_iald (v := nI ((S 9) 0)) hx hb hK hP 1 0 rfl rfl (by omega) (by decide) rfl dX2_numberOf_138 ?_
    have := hI.set9 0 (by omega)
    exact W.iret hx hb hr (fun t ht _ => ⟨_, rfl, (by simp only [pm_co, pm_ix_in (show (11 : Nat) < 15 by decide) (show (15 : Nat) < 2 ^ 31 by decide)]), ht⟩) (fun _ h => absurd h List.not_mem_nil) dX2_numberOf_139
  · skip
    refine lv_tableIn (off := 129) (tgt := 130) hx hb dX2_numberOf_1 (by decide) (by decide) (by decide) (by decide) ?_
    refine lv_aload_n hx hb dX2_numberOf_130 rfl (lv_at hl 0 rfl) ?_
    refine va_get (D := D) (ci := 2) (v := .ref (q 1)) (C := RX2) (T := TX2) (N := 15) hx hb hts hin2 hown hK hP 0 rfl rfl 0 (by decide) (hts (.fieldLink RX2 11 "ProofMarks$Sheet" "settings" "[I") (List.mem_of_getElem? (i := 5) rfl)) (fun _ h9 => h9) rfl dX2_numberOf_131 ?_
    refine lv_iload_n hx hb dX2_numberOf_134 rfl (lv_at hl 1 rfl) ?_
    refine lv_bipush (v := nI 11) hx hb dX2_numberOf_135 (by decide) ?_
    refine kx_isub hx hb (by omega) dX2_numberOf_137 ?_
    refine lv_topi (fun x20 e21 => ?_)
    obtain rfl : x20 = nI 1 := e21.trans (rfl)
    refine kx_iald (v := nI ((S 9) 1)) hx hb hK hP 1 0 rfl rfl (by omega) (by decide) rfl dX2_numberOf_138 ?_
    have := hI.set9 1 (by omega)
    exact W.iret hx hb hr (fun t ht _ => ⟨_, rfl, (by simp only [pm_co, pm_ix_in (show (12 : Nat) < 15 by decide) (show (15 : Nat) < 2 ^ 31 by decide)]), ht⟩) (fun _ h => absurd h List.not_mem_nil) dX2_numberOf_139
  · skip
    refine lv_tableIn (off := 129) (tgt := 130) hx hb dX2_numberOf_1 (by decide) (by decide) (by decide) (by decide) ?_
    refine lv_aload_n hx hb dX2_numberOf_130 rfl (lv_at hl 0 rfl) ?_
    refine va_get (D := D) (ci := 2) (v := .ref (q 1)) (C := RX2) (T := TX2) (N := 15) hx hb hts hin2 hown hK hP 0 rfl rfl 0 (by decide) (hts (.fieldLink RX2 11 "ProofMarks$Sheet" "settings" "[I") (List.mem_of_getElem? (i := 5) rfl)) (fun _ h9 => h9) rfl dX2_numberOf_131 ?_
    refine lv_iload_n hx hb dX2_numberOf_134 rfl (lv_at hl 1 rfl) ?_
    refine lv_bipush (v := nI 11) hx hb dX2_numberOf_135 (by decide) ?_
    refine kx_isub hx hb (by omega) dX2_numberOf_137 ?_
    refine lv_topi (fun x22 e23 => ?_)
    obtain rfl : x22 = nI 2 := e23.trans (rfl)
    refine kx_iald (v := nI ((S 9) 2)) hx hb hK hP 1 0 rfl rfl (by omega) (by decide) rfl dX2_numberOf_138 ?_
    have := hI.set9 2 (by omega)
    exact W.iret hx hb hr (fun t ht _ => ⟨_, rfl, (by simp only [pm_co, pm_ix_in (show (13 : Nat) < 15 by decide) (show (15 : Nat) < 2 ^ 31 by decide)]), ht⟩) (fun _ h => absurd h List.not_mem_nil) dX2_numberOf_139
  · skip
    refine lv_tableIn (off := 129) (tgt := 130) hx hb dX2_numberOf_1 (by decide) (by decide) (by decide) (by decide) ?_
    refine lv_aload_n hx hb dX2_numberOf_130 rfl (lv_at hl 0 rfl) ?_
    refine va_get (D := D) (ci := 2) (v := .ref (q 1)) (C := RX2) (T := TX2) (N := 15) hx hb hts hin2 hown hK hP 0 rfl rfl 0 (by decide) (hts (.fieldLink RX2 11 "ProofMarks$Sheet" "settings" "[I") (List.mem_of_getElem? (i := 5) rfl)) (fun _ h9 => h9) rfl dX2_numberOf_131 ?_
    refine lv_iload_n hx hb dX2_numberOf_134 rfl (lv_at hl 1 rfl) ?_
    refine lv_bipush (v := nI 11) hx hb dX2_numberOf_135 (by decide) ?_
    refine kx_isub hx hb (by omega) dX2_numberOf_137 ?_
    refine lv_topi (fun x24 e25 => ?_)
    obtain rfl : x24 = nI 3 := e25.trans (rfl)
    refine kx_iald (v := nI ((S 9) 3)) hx hb hK hP 1 0 rfl rfl (by omega) (by decide) rfl dX2_numberOf_138 ?_
    have := hI.set9 3 (by omega)
    exact W.iret hx hb hr (fun t ht _ => ⟨_, rfl, (by simp only [pm_co, pm_ix_in (show (14 : Nat) < 15 by decide) (show (15 : Nat) < 2 ^ 31 by decide)]), ht⟩) (fun _ h => absurd h List.not_mem_nil) dX2_numberOf_139

set_option maxHeartbeats 4000000 in
set_option maxRecDepth 100000 in
theorem k_X2_whyNotChosen (l : Launch) (D : va_G) (y : Nat → ClassId) (q : Nat → Nat) (S : Nat → Nat → Nat) (xf : Int32) (hI : pm_Inv S) : Met l yX2_whyNotChosen wsX2_whyNotChosen ({ frames := 2, cells := 0, slots := 0, locals := 42 } : Room) (pm_ro D (pm_ty y) [.ref (q 0), .int xf] (pm_shS y q S)) (vp_Si (fun r : Int32 => r = pm_why S xf)) 0 0 (fun _ => False) := by
  refine Met.ofW (cc := cX2_whyNotChosen) (maxL := 2) (ret := (some .int)) (by decide) rfl ?_
  intro p e s m args below meth c s₁ B hml hpre
  obtain ⟨rfl, hP, hK⟩ := hpre
  have hx := B.exec
  have hb := B.bytes
  have hr := B.returns
  have hts := atoms_spec (ws := wsX2_whyNotChosen) B.pre
  have hown : s.vm.findClass RX2 = some m.cls := findClass_of_methodNamed B.named
  have hlocks := B.notSynchronized
  have hin2 : ∀ w ∈ u_ws RX2 TX2 15, w ∈ wsX2_whyNotChosen := fun w h => List.mem_cons_of_mem _ (List.mem_append_right _ h)
  have hP : va_P D vwCl (pm_shS y q S) s.heap := hP
  have hl := lv_entry ([.ref (q 0), .int xf]) (n := 2) (Nat.le_of_ble_eq_true rfl)
  rw [lg_entry_eq]
  generalize (lg_sl ([.ref (q 0), .int xf]) ++ List.replicate (2 - (lg_sl ([.ref (q 0), .int xf])).length) Slot.unset).toArray = ls at hl ⊢
  have hl : lv_has ls 2 [(0, .ref (q 0)), (1, .int xf)] := hl
  refine lv_iload_n hx hb dX2_whyNotChosen_0 rfl (lv_at hl 1 rfl) ?_
  refine vp_callSi (W.runS (As := [.int xf]) (rest := []) ⟨hx, hb, hml, hown, hts⟩ (k_X2_isFrame l xf) (va_cwS 1 hts gX2_whyNotChosen_X2_isFrame rfl rfl rfl hd_X2_isFrame ⟨Nat.le_of_ble_eq_true rfl, Nat.le_of_ble_eq_true rfl⟩) ⟨pm_no_blind, pm_no_pre⟩ rfl rfl hl.1 rfl (lv_room (Nat.le_of_ble_eq_true rfl)) dX2_whyNotChosen_1 ⟨Nat.le_of_ble_eq_true rfl, Nat.le_of_ble_eq_true rfl⟩) (fun r1 h2 => ?_)
  rcases h2 with ⟨j3, hj3, ej3, rfl⟩ | ⟨hnj3, rfl⟩
  · subst ej3
    refine lv_if_ne (tgt := 9) hx hb dX2_whyNotChosen_4 (by decide) (fun _ => ?_) (fun c4 => absurd c4 (by decide))
    refine lv_aload_n hx hb dX2_whyNotChosen_9 rfl (lv_at hl 0 rfl) ?_
    refine va_get (D := D) (ci := 2) (v := .ref (q 2)) (C := RX2) (T := TX2) (N := 15) hx hb hts hin2 hown hK hP 0 rfl rfl 1 (by decide) (hts (.fieldLink RX2 15 "ProofMarks$Sheet" "how" "[I") (List.mem_of_getElem? (i := 1) rfl)) (fun _ h9 => h9) rfl dX2_whyNotChosen_10 ?_
    refine lv_iload_n hx hb dX2_whyNotChosen_13 rfl (lv_at hl 1 rfl) ?_
    refine kx_iald (v := nI ((S 0) j3)) hx hb hK hP 2 0 rfl rfl (by omega) (by decide) rfl dX2_whyNotChosen_14 ?_
    have := hI.how j3 (by omega)
    refine kx_if_eq (tgt := 20) hx hb (by omega) dX2_whyNotChosen_15 (by decide) (fun c5 => ?_) (fun c5 => ?_)
    · skip
      refine lv_aload_n hx hb dX2_whyNotChosen_20 rfl (lv_at hl 0 rfl) ?_
      refine va_get (D := D) (ci := 2) (v := .ref (q 4)) (C := RX2) (T := TX2) (N := 15) hx hb hts hin2 hown hK hP 0 rfl rfl 3 (by decide) (hts (.fieldLink RX2 21 "ProofMarks$Sheet" "crosses" "[I") (List.mem_of_getElem? (i := 2) rfl)) (fun _ h9 => h9) rfl dX2_whyNotChosen_21 ?_
      refine lv_iload_n hx hb dX2_whyNotChosen_24 rfl (lv_at hl 1 rfl) ?_
      refine kx_iald (v := nI (pm_ck ((S 4) j3))) hx hb hK hP 4 0 rfl rfl (by omega) (by decide) rfl dX2_whyNotChosen_25 ?_
      have := pm_ck8 ((S 4) j3)
      refine kx_if_eq (tgt := 31) hx hb (by omega) dX2_whyNotChosen_26 (by decide) (fun c6 => ?_) (fun c6 => ?_)
      · skip
        refine lv_aload_n hx hb dX2_whyNotChosen_31 rfl (lv_at hl 0 rfl) ?_
        refine lv_aload_n hx hb dX2_whyNotChosen_32 rfl (lv_at hl 0 rfl) ?_
        refine va_get (D := D) (ci := 2) (v := .ref (q 3)) (C := RX2) (T := TX2) (N := 15) hx hb hts hin2 hown hK hP 0 rfl rfl 2 (by decide) (hts (.fieldLink RX2 18 "ProofMarks$Sheet" "ticks" "[I") (List.mem_of_getElem? (i := 3) rfl)) (fun _ h9 => h9) rfl dX2_whyNotChosen_33 ?_
        refine lv_iload_n hx hb dX2_whyNotChosen_36 rfl (lv_at hl 1 rfl) ?_
        refine kx_iald (v := nI (pm_tk ((S 4) j3))) hx hb hK hP 3 0 rfl rfl (by omega) (by decide) rfl dX2_whyNotChosen_37 ?_
        have := pm_tk8 ((S 4) j3)
        refine lv_aload_n hx hb dX2_whyNotChosen_38 rfl (lv_at hl 0 rfl) ?_
        refine va_get (D := D) (ci := 2) (v := .ref (q 4)) (C := RX2) (T := TX2) (N := 15) hx hb hts hin2 hown hK hP 0 rfl rfl 3 (by decide) (hts (.fieldLink RX2 21 "ProofMarks$Sheet" "crosses" "[I") (List.mem_of_getElem? (i := 2) rfl)) (fun _ h9 => h9) rfl dX2_whyNotChosen_39 ?_
        refine lv_iload_n hx hb dX2_whyNotChosen_42 rfl (lv_at hl 1 rfl) ?_
        refine kx_iald (v := nI (pm_ck ((S 4) j3))) hx hb hK hP 4 0 rfl rfl (by omega) (by decide) rfl dX2_whyNotChosen_43 ?_
        have := pm_ck8 ((S 4) j3)
        refine vp_callSi (W.runV (As := [.int (nI (pm_tk ((S 4) j3))), .int (nI (pm_ck ((S 4) j3)))]) (rest := []) ⟨hx, hb, hml, hown, hts⟩ (k_X2_isWanted l D y q S (pm_tk ((S 4) j3)) (pm_ck ((S 4) j3)) (hI.set9 0 (by decide)) (by omega) (by omega)) (cwV 2 hts gX2_whyNotChosen_X2_isWanted rfl rfl rfl hd_X2_isWanted ⟨Nat.le_of_ble_eq_true rfl, Nat.le_of_ble_eq_true rfl⟩) ⟨pm_ro_blind, va_recv hK hP (ci := 2) (q0 := 0) rfl rfl, pm_ro_pre hP hK⟩ rfl rfl hl.1 rfl (lv_room (Nat.le_of_ble_eq_true rfl)) dX2_whyNotChosen_44 ⟨Nat.le_of_ble_eq_true rfl, Nat.le_of_ble_eq_true rfl⟩) (fun r7 h8 => ?_)
        rcases (show (((pm_ck ((S 4) j3)) = 0 ∧ S 9 0 ≤ pm_pc (pm_tk ((S 4) j3))) ∧ r7 = nI 1) ∨ (¬ ((pm_ck ((S 4) j3)) = 0 ∧ S 9 0 ≤ pm_pc (pm_tk ((S 4) j3))) ∧ r7 = nI 0) from h8) with ⟨hp9, rfl⟩ | ⟨hp9, rfl⟩
        · skip
          refine lv_if_eq (tgt := 54) hx hb dX2_whyNotChosen_47 (by decide) (fun c10 => absurd c10 (by decide)) (fun _ => ?_)
          refine lv_iconst (v := nI 0) hx hb dX2_whyNotChosen_50 (by decide) ?_
          refine lv_goto (tgt := 55) hx hb dX2_whyNotChosen_51 (by decide) ?_
          exact W.iret hx hb hr (fun t ht _ => ⟨_, rfl, (by simp only [pm_why, pm_ix_in hj3 (show (30 : Nat) < 2 ^ 31 by decide)] <;> (unfold pm_tc; (repeat' split) <;> first | rfl | (exfalso; omega))), ht⟩) (fun _ h => absurd h List.not_mem_nil) dX2_whyNotChosen_55
        · skip
          refine lv_if_eq (tgt := 54) hx hb dX2_whyNotChosen_47 (by decide) (fun _ => ?_) (fun c11 => (c11 (by decide)).elim)
          refine lv_iconst (v := nI 3) hx hb dX2_whyNotChosen_54 (by decide) ?_
          exact W.iret hx hb hr (fun t ht _ => ⟨_, rfl, (by simp only [pm_why, pm_ix_in hj3 (show (30 : Nat) < 2 ^ 31 by decide)] <;> (unfold pm_tc; (repeat' split) <;> first | rfl | (exfalso; omega))), ht⟩) (fun _ h => absurd h List.not_mem_nil) dX2_whyNotChosen_55
      · skip
        refine lv_iconst (v := nI 2) hx hb dX2_whyNotChosen_29 (by decide) ?_
        exact W.iret hx hb hr (fun t ht _ => ⟨_, rfl, (by simp only [pm_why, pm_ix_in hj3 (show (30 : Nat) < 2 ^ 31 by decide)] <;> (unfold pm_tc; (repeat' split) <;> first | rfl | (exfalso; omega))), ht⟩) (fun _ h => absurd h List.not_mem_nil) dX2_whyNotChosen_30
    · skip
      refine lv_iconst (v := nI 1) hx hb dX2_whyNotChosen_18 (by decide) ?_
      exact W.iret hx hb hr (fun t ht _ => ⟨_, rfl, (by simp only [pm_why, pm_ix_in hj3 (show (30 : Nat) < 2 ^ 31 by decide)] <;> (unfold pm_tc; (repeat' split) <;> first | rfl | (exfalso; omega))), ht⟩) (fun _ h => absurd h List.not_mem_nil) dX2_whyNotChosen_19
  · skip
    refine lv_if_ne (tgt := 9) hx hb dX2_whyNotChosen_4 (by decide) (fun c12 => (c12 (by decide)).elim) (fun _ => ?_)
    refine lv_iconst (v := -1) hx hb dX2_whyNotChosen_7 (by decide) ?_
    exact W.iret hx hb hr (fun t ht _ => ⟨_, rfl, (by simp only [pm_why, pm_ix_out hnj3] <;> (unfold pm_tc; (repeat' split) <;> first | rfl | (exfalso; omega))), ht⟩) (fun _ h => absurd h List.not_mem_nil) dX2_whyNotChosen_8

set_option maxHeartbeats 4000000 in
set_option maxRecDepth 100000 in
theorem k_X2_roundWouldBring (l : Launch) (D : va_G) (y : Nat → ClassId) (q : Nat → Nat) (S : Nat → Nat → Nat) (xw : Int32) (hI : pm_Inv S) : Met l yX2_roundWouldBring wsX2_roundWouldBring ({ frames := 4, cells := 0, slots := 0, locals := 87 } : Room) (pm_ro D (pm_ty y) [.ref (q 0), .int xw] (pm_shS y q S)) (vp_Si (fun r : Int32 => r = pm_ifr S xw)) 0 0 (fun _ => False) := by
  refine Met.ofW (cc := cX2_roundWouldBring) (maxL := 2) (ret := (some .int)) (by decide) rfl ?_
  intro p e s m args below meth c s₁ B hml hpre
  obtain ⟨rfl, hP, hK⟩ := hpre
  have hx := B.exec
  have hb := B.bytes
  have hr := B.returns
  have hts := atoms_spec (ws := wsX2_roundWouldBring) B.pre
  have hown : s.vm.findClass RX2 = some m.cls := findClass_of_methodNamed B.named
  have hlocks := B.notSynchronized
  have hin2 : ∀ w ∈ u_ws RX2 TX2 15, w ∈ wsX2_roundWouldBring := fun w h => List.mem_cons_of_mem _ (List.mem_append_right _ h)
  have hP : va_P D vwCl (pm_shS y q S) s.heap := hP
  have hl := lv_entry ([.ref (q 0), .int xw]) (n := 2) (Nat.le_of_ble_eq_true rfl)
  rw [lg_entry_eq]
  generalize (lg_sl ([.ref (q 0), .int xw]) ++ List.replicate (2 - (lg_sl ([.ref (q 0), .int xw])).length) Slot.unset).toArray = ls at hl ⊢
  have hl : lv_has ls 2 [(0, .ref (q 0)), (1, .int xw)] := hl
  refine lv_iload_n hx hb dX2_roundWouldBring_0 rfl (lv_at hl 1 rfl) ?_
  have hsw1 : (xw < 0 ∨ nI 3 ≤ xw) ∨ xw = nI 0 ∨ xw = nI 1 ∨ xw = nI 2 := by
    rcases pm_cases xw (n := 3) (by decide) with h | ⟨j, hj, rfl⟩
    · exact Or.inl h
    · rcases (show j = 0 ∨ j = 1 ∨ j = 2 by omega) with rfl | rfl | rfl <;> simp
  rcases hsw1 with hw | rfl | rfl | rfl
  · skip
    refine lv_tableOut (tgt := 46) hx hb dX2_roundWouldBring_1 (pm_swout (n := 2) (by decide) hw) (by decide) ?_
    refine lv_bipush (v := (-2)) hx hb dX2_roundWouldBring_46 (by decide) ?_
    exact W.iret hx hb hr (fun t ht _ => ⟨_, rfl, (by simp only [pm_ifr, pm_ix_out hw]), ht⟩) (fun _ h => absurd h List.not_mem_nil) dX2_roundWouldBring_48
  · skip
    refine lv_tableIn (off := 27) (tgt := 28) hx hb dX2_roundWouldBring_1 (by decide) (by decide) (by decide) (by decide) ?_
    refine lv_aload_n hx hb dX2_roundWouldBring_28 rfl (lv_at hl 0 rfl) ?_
    refine lv_iconst (v := nI 1) hx hb dX2_roundWouldBring_29 (by decide) ?_
    refine vp_callSi (W.runV (As := [.int (nI 1)]) (rest := []) ⟨hx, hb, hml, hown, hts⟩ (k_X2_framesThatBecome l D y q S 1 hI (by omega)) (cwV 1 hts gX2_roundWouldBring_X2_framesThatBecome rfl rfl rfl hd_X2_framesThatBecome ⟨Nat.le_of_ble_eq_true rfl, Nat.le_of_ble_eq_true rfl⟩) ⟨pm_ro_blind, va_recv hK hP (ci := 2) (q0 := 0) rfl rfl, pm_ro_pre hP hK⟩ rfl rfl hl.1 rfl (lv_room (Nat.le_of_ble_eq_true rfl)) dX2_roundWouldBring_30 ⟨Nat.le_of_ble_eq_true rfl, Nat.le_of_ble_eq_true rfl⟩) (fun r2 h3 => ?_)
    obtain rfl : r2 = nI (pm_bc S 1 30) := h3
    exact W.iret hx hb hr (fun t ht _ => ⟨_, rfl, (by simp only [pm_ifr, pm_ix_in (show (0 : Nat) < 3 by decide) (show (3 : Nat) < 2 ^ 31 by decide)]), ht⟩) (fun _ h => absurd h List.not_mem_nil) dX2_roundWouldBring_33
  · skip
    refine lv_tableIn (off := 33) (tgt := 34) hx hb dX2_roundWouldBring_1 (by decide) (by decide) (by decide) (by decide) ?_
    refine lv_aload_n hx hb dX2_roundWouldBring_34 rfl (lv_at hl 0 rfl) ?_
    refine lv_iconst (v := nI 2) hx hb dX2_roundWouldBring_35 (by decide) ?_
    refine vp_callSi (W.runV (As := [.int (nI 2)]) (rest := []) ⟨hx, hb, hml, hown, hts⟩ (k_X2_framesThatBecome l D y q S 2 hI (by omega)) (cwV 1 hts gX2_roundWouldBring_X2_framesThatBecome rfl rfl rfl hd_X2_framesThatBecome ⟨Nat.le_of_ble_eq_true rfl, Nat.le_of_ble_eq_true rfl⟩) ⟨pm_ro_blind, va_recv hK hP (ci := 2) (q0 := 0) rfl rfl, pm_ro_pre hP hK⟩ rfl rfl hl.1 rfl (lv_room (Nat.le_of_ble_eq_true rfl)) dX2_roundWouldBring_36 ⟨Nat.le_of_ble_eq_true rfl, Nat.le_of_ble_eq_true rfl⟩) (fun r4 h5 => ?_)
    obtain rfl : r4 = nI (pm_bc S 2 30) := h5
    exact W.iret hx hb hr (fun t ht _ => ⟨_, rfl, (by simp only [pm_ifr, pm_ix_in (show (1 : Nat) < 3 by decide) (show (3 : Nat) < 2 ^ 31 by decide)]), ht⟩) (fun _ h => absurd h List.not_mem_nil) dX2_roundWouldBring_39
  · skip
    refine lv_tableIn (off := 39) (tgt := 40) hx hb dX2_roundWouldBring_1 (by decide) (by decide) (by decide) (by decide) ?_
    refine lv_aload_n hx hb dX2_roundWouldBring_40 rfl (lv_at hl 0 rfl) ?_
    refine lv_iconst (v := nI 0) hx hb dX2_roundWouldBring_41 (by decide) ?_
    refine vp_callSi (W.runV (As := [.int (nI 0)]) (rest := []) ⟨hx, hb, hml, hown, hts⟩ (k_X2_framesThatBecome l D y q S 0 hI (by omega)) (cwV 1 hts gX2_roundWouldBring_X2_framesThatBecome rfl rfl rfl hd_X2_framesThatBecome ⟨Nat.le_of_ble_eq_true rfl, Nat.le_of_ble_eq_true rfl⟩) ⟨pm_ro_blind, va_recv hK hP (ci := 2) (q0 := 0) rfl rfl, pm_ro_pre hP hK⟩ rfl rfl hl.1 rfl (lv_room (Nat.le_of_ble_eq_true rfl)) dX2_roundWouldBring_42 ⟨Nat.le_of_ble_eq_true rfl, Nat.le_of_ble_eq_true rfl⟩) (fun r6 h7 => ?_)
    obtain rfl : r6 = nI (pm_bc S 0 30) := h7
    exact W.iret hx hb hr (fun t ht _ => ⟨_, rfl, (by simp only [pm_ifr, pm_ix_in (show (2 : Nat) < 3 by decide) (show (3 : Nat) < 2 ^ 31 by decide)]), ht⟩) (fun _ h => absurd h List.not_mem_nil) dX2_roundWouldBring_45

theorem pm_wd_t {n m : Nat} (h : pm_ck m = 0 ∧ n ≤ pm_pc (pm_tk m)) : pm_wd n m = true := decide_eq_true h
theorem pm_wd_f {n m : Nat} (h : ¬ (pm_ck m = 0 ∧ n ≤ pm_pc (pm_tk m))) : pm_wd n m = false := decide_eq_false h
theorem pm_ds_lt (S : Nat → Nat → Nat) (f : Nat) : ∀ n, pm_ds S f n < 2 ^ n
  | 0 => Nat.lt_succ_self 0
  | n + 1 => by
    have := pm_ds_lt S f n
    rw [pm_ds, Nat.pow_succ]
    split <;> omega
def pm_T4b (n x : Nat) : Bool := !(decide (x < 2 ^ n)) || (decide (pm_we (nI x) (nI n) (nI 1) = nI (x + 2 ^ n)) && decide (pm_we (nI x) (nI n) (nI 0) = nI x))
theorem pm_T4 : ∀ n, n < 3 → ∀ x, x < 8 → pm_T4b n x = true := by decide +kernel
theorem pm_wes {n x : Nat} (hn : n < 3) (hx : x < 2 ^ n) : pm_we (nI x) (nI n) (nI 1) = nI (x + 2 ^ n) ∧ pm_we (nI x) (nI n) (nI 0) = nI x := by
  have h8 : x < 8 := Nat.lt_of_lt_of_le hx (Nat.pow_le_pow_right (by decide) (by omega : n ≤ 3))
  have a := pm_T4 n hn x h8
  simp only [pm_T4b, hx, decide_true, Bool.not_true, Bool.false_or, Bool.and_eq_true, decide_eq_true_eq] at a
  exact a
theorem pm_ds_p {S : Nat → Nat → Nat} {f n : Nat} (hn : n < 3) (h1 : S 0 f = 0) (h2 : pm_mc (S 9 0) (S 4 f) n 3 = true) : pm_we (nI (pm_ds S f n)) (nI n) (nI 1) = nI (pm_ds S f (n + 1)) := by
  rw [pm_ds, if_pos ⟨h1, h2⟩]
  exact (pm_wes hn (pm_ds_lt S f n)).1
theorem pm_ds_n {S : Nat → Nat → Nat} {f n : Nat} (hn : n < 3) (h : ¬ (S 0 f = 0 ∧ pm_mc (S 9 0) (S 4 f) n 3 = true)) : pm_we (nI (pm_ds S f n)) (nI n) (nI 0) = nI (pm_ds S f (n + 1)) := by
  rw [pm_ds, if_neg h]
  exact (pm_wes hn (pm_ds_lt S f n)).2
set_option maxHeartbeats 4000000 in
set_option maxRecDepth 100000 in
theorem k_X2_markDecides (l : Launch) (D : va_G) (y : Nat → ClassId) (q : Nat → Nat) (S : Nat → Nat → Nat) (i f : Nat) (hI : pm_Inv S) (hi : i < 3) (hf : f < 30) : Met l yX2_markDecides wsX2_markDecides ({ frames := 2, cells := 0, slots := 0, locals := 42 } : Room) (pm_ro D (pm_ty y) [.ref (q 0), .int (nI i), .int (nI f)] (pm_shS y q S)) (vp_Si (fun r : Int32 => ((pm_mc (S 9 0) (S 4 f) i 3 = true) ∧ r = nI 1) ∨ (¬ (pm_mc (S 9 0) (S 4 f) i 3 = true) ∧ r = nI 0))) 0 0 (fun _ => False) := by
  refine Met.ofW (cc := cX2_markDecides) (maxL := 7) (ret := (some .boolean)) (by decide) rfl ?_
  intro p e s m args below meth c s₁ B hml hpre
  obtain ⟨rfl, hP, hK⟩ := hpre
  have hx := B.exec
  have hb := B.bytes
  have hr := B.returns
  have hts := atoms_spec (ws := wsX2_markDecides) B.pre
  have hown : s.vm.findClass RX2 = some m.cls := findClass_of_methodNamed B.named
  have hlocks := B.notSynchronized
  have hin2 : ∀ w ∈ u_ws RX2 TX2 15, w ∈ wsX2_markDecides := fun w h => List.mem_cons_of_mem _ (List.mem_append_right _ h)
  have hP : va_P D vwCl (pm_shS y q S) s.heap := hP
  have hl := lv_entry ([.ref (q 0), .int (nI i), .int (nI f)]) (n := 7) (Nat.le_of_ble_eq_true rfl)
  rw [lg_entry_eq]
  generalize (lg_sl ([.ref (q 0), .int (nI i), .int (nI f)]) ++ List.replicate (7 - (lg_sl ([.ref (q 0), .int (nI i), .int (nI f)])).length) Slot.unset).toArray = ls at hl ⊢
  have hl : lv_has ls 7 [(0, .ref (q 0)), (1, .int (nI i)), (2, .int (nI f))] := hl
  refine lv_aload_n hx hb dX2_markDecides_0 rfl (lv_at hl 0 rfl) ?_
  refine lv_aload_n hx hb dX2_markDecides_1 rfl (lv_at hl 0 rfl) ?_
  refine va_get (D := D) (ci := 2) (v := .ref (q 3)) (C := RX2) (T := TX2) (N := 15) hx hb hts hin2 hown hK hP 0 rfl rfl 2 (by decide) (hts (.fieldLink RX2 18 "ProofMarks$Sheet" "ticks" "[I") (List.mem_of_getElem? (i := 1) rfl)) (fun _ h9 => h9) rfl dX2_markDecides_2 ?_
  refine lv_iload_n hx hb dX2_markDecides_5 rfl (lv_at hl 2 rfl) ?_
  refine kx_iald (v := nI (pm_tk ((S 4) f))) hx hb hK hP 3 0 rfl rfl (by omega) (by decide) rfl dX2_markDecides_6 ?_
  have := pm_tk8 ((S 4) f)
  refine lv_aload_n hx hb dX2_markDecides_7 rfl (lv_at hl 0 rfl) ?_
  refine va_get (D := D) (ci := 2) (v := .ref (q 4)) (C := RX2) (T := TX2) (N := 15) hx hb hts hin2 hown hK hP 0 rfl rfl 3 (by decide) (hts (.fieldLink RX2 21 "ProofMarks$Sheet" "crosses" "[I") (List.mem_of_getElem? (i := 2) rfl)) (fun _ h9 => h9) rfl dX2_markDecides_8 ?_
  refine lv_iload_n hx hb dX2_markDecides_11 rfl (lv_at hl 2 rfl) ?_
  refine kx_iald (v := nI (pm_ck ((S 4) f))) hx hb hK hP 4 0 rfl rfl (by omega) (by decide) rfl dX2_markDecides_12 ?_
  have := pm_ck8 ((S 4) f)
  refine vp_callSi (W.runV (As := [.int (nI (pm_tk ((S 4) f))), .int (nI (pm_ck ((S 4) f)))]) (rest := []) ⟨hx, hb, hml, hown, hts⟩ (k_X2_isWanted l D y q S (pm_tk ((S 4) f)) (pm_ck ((S 4) f)) (hI.set9 0 (by decide)) (by omega) (by omega)) (cwV 2 hts gX2_markDecides_X2_isWanted rfl rfl rfl hd_X2_isWanted ⟨Nat.le_of_ble_eq_true rfl, Nat.le_of_ble_eq_true rfl⟩) ⟨pm_ro_blind, va_recv hK hP (ci := 2) (q0 := 0) rfl rfl, pm_ro_pre hP hK⟩ rfl rfl hl.1 rfl (lv_room (Nat.le_of_ble_eq_true rfl)) dX2_markDecides_13 ⟨Nat.le_of_ble_eq_true rfl, Nat.le_of_ble_eq_true rfl⟩) (fun r1 h2 => ?_)
  rcases (show (((pm_ck ((S 4) f)) = 0 ∧ S 9 0 ≤ pm_pc (pm_tk ((S 4) f))) ∧ r1 = nI 1) ∨ (¬ ((pm_ck ((S 4) f)) = 0 ∧ S 9 0 ≤ pm_pc (pm_tk ((S 4) f))) ∧ r1 = nI 0) from h2) with ⟨hp3, rfl⟩ | ⟨hp3, rfl⟩
  · have whp3 := pm_wd_t hp3
    refine lv_istore_n (lv' := [(3, .int (nI 1)), (0, .ref (q 0)), (1, .int (nI i)), (2, .int (nI f))]) hx hb dX2_markDecides_16 rfl hl (by decide) rfl (fun ls hl => ?_)
    refine lv_iconst (v := nI 0) hx hb dX2_markDecides_17 (by decide) ?_
    refine lv_istore (lv' := [(4, .int (nI 0)), (3, .int (nI 1)), (0, .ref (q 0)), (1, .int (nI i)), (2, .int (nI f))]) hx hb dX2_markDecides_18 hl (by decide) rfl (fun ls hl => ?_)
    refine lv_iload hx hb dX2_markDecides_20 (lv_at hl 0 rfl) ?_
    refine lv_iconst (v := nI 2) hx hb dX2_markDecides_22 (by decide) ?_
    refine lv_icmp_gt (tgt := 92) hx hb dX2_markDecides_23 (by decide) (fun c4 => absurd c4 (by decide)) (fun _ => ?_)
    refine lv_aload_n hx hb dX2_markDecides_26 rfl (lv_at hl 2 rfl) ?_
    refine va_get (D := D) (ci := 2) (v := .ref (q 3)) (C := RX2) (T := TX2) (N := 15) hx hb hts hin2 hown hK hP 0 rfl rfl 2 (by decide) (hts (.fieldLink RX2 18 "ProofMarks$Sheet" "ticks" "[I") (List.mem_of_getElem? (i := 1) rfl)) (fun _ h9 => h9) rfl dX2_markDecides_27 ?_
    refine lv_iload_n hx hb dX2_markDecides_30 rfl (lv_at hl 4 rfl) ?_
    refine kx_iald (v := nI (pm_tk ((S 4) f))) hx hb hK hP 3 0 rfl rfl (by omega) (by decide) rfl dX2_markDecides_31 ?_
    have := pm_tk8 ((S 4) f)
    refine lv_iload_n hx hb dX2_markDecides_32 rfl (lv_at hl 3 rfl) ?_
    refine lv_iload hx hb dX2_markDecides_33 (lv_at hl 0 rfl) ?_
    refine lv_iconst (v := nI 1) hx hb dX2_markDecides_35 (by decide) ?_
    refine lv_icmp_ne (tgt := 43) hx hb dX2_markDecides_36 (by decide) (fun _ => ?_) (fun c5 => absurd c5 (by decide))
    refine lv_iconst (v := nI 0) hx hb dX2_markDecides_43 (by decide) ?_
    refine vp_callSi (W.runS (As := [.int (nI (pm_tk ((S 4) f))), .int (nI i), .int (nI 0)]) (rest := []) ⟨hx, hb, hml, hown, hts⟩ (k_X2_withEditor l (nI (pm_tk ((S 4) f))) (nI i) (nI 0)) (va_cwS 3 hts gX2_markDecides_X2_withEditor rfl rfl rfl hd_X2_withEditor ⟨Nat.le_of_ble_eq_true rfl, Nat.le_of_ble_eq_true rfl⟩) ⟨pm_no_blind, pm_no_pre⟩ rfl rfl hl.1 rfl (lv_room (Nat.le_of_ble_eq_true rfl)) dX2_markDecides_44 ⟨Nat.le_of_ble_eq_true rfl, Nat.le_of_ble_eq_true rfl⟩) (fun r6 h7 => ?_)
    obtain rfl : r6 = pm_we (nI (pm_tk ((S 4) f))) (nI i) (nI 0) := h7
    refine lv_topi (fun x8 e9 => ?_)
    obtain rfl : x8 = nI (pm_tk (pm_sm (S 4 f) i 0)) := e9.trans (pm_wet (hI.okm f hf) hi (v := 0) (by decide))
    have := pm_tk8 (pm_sm (S 4 f) i 0)
    refine lv_istore (lv' := [(5, .int (nI (pm_tk (pm_sm (S 4 f) i 0)))), (4, .int (nI 0)), (3, .int (nI 1)), (0, .ref (q 0)), (1, .int (nI i)), (2, .int (nI f))]) hx hb dX2_markDecides_47 hl (by decide) rfl (fun ls hl => ?_)
    refine lv_aload_n hx hb dX2_markDecides_49 rfl (lv_at hl 3 rfl) ?_
    refine va_get (D := D) (ci := 2) (v := .ref (q 4)) (C := RX2) (T := TX2) (N := 15) hx hb hts hin2 hown hK hP 0 rfl rfl 3 (by decide) (hts (.fieldLink RX2 21 "ProofMarks$Sheet" "crosses" "[I") (List.mem_of_getElem? (i := 2) rfl)) (fun _ h9 => h9) rfl dX2_markDecides_50 ?_
    refine lv_iload_n hx hb dX2_markDecides_53 rfl (lv_at hl 5 rfl) ?_
    refine kx_iald (v := nI (pm_ck ((S 4) f))) hx hb hK hP 4 0 rfl rfl (by omega) (by decide) rfl dX2_markDecides_54 ?_
    have := pm_ck8 ((S 4) f)
    refine lv_iload_n hx hb dX2_markDecides_55 rfl (lv_at hl 4 rfl) ?_
    refine lv_iload hx hb dX2_markDecides_56 (lv_at hl 1 rfl) ?_
    refine lv_iconst (v := nI 2) hx hb dX2_markDecides_58 (by decide) ?_
    refine lv_icmp_ne (tgt := 66) hx hb dX2_markDecides_59 (by decide) (fun _ => ?_) (fun c10 => absurd c10 (by decide))
    refine lv_iconst (v := nI 0) hx hb dX2_markDecides_66 (by decide) ?_
    refine vp_callSi (W.runS (As := [.int (nI (pm_ck ((S 4) f))), .int (nI i), .int (nI 0)]) (rest := []) ⟨hx, hb, hml, hown, hts⟩ (k_X2_withEditor l (nI (pm_ck ((S 4) f))) (nI i) (nI 0)) (va_cwS 3 hts gX2_markDecides_X2_withEditor rfl rfl rfl hd_X2_withEditor ⟨Nat.le_of_ble_eq_true rfl, Nat.le_of_ble_eq_true rfl⟩) ⟨pm_no_blind, pm_no_pre⟩ rfl rfl hl.1 rfl (lv_room (Nat.le_of_ble_eq_true rfl)) dX2_markDecides_67 ⟨Nat.le_of_ble_eq_true rfl, Nat.le_of_ble_eq_true rfl⟩) (fun r11 h12 => ?_)
    obtain rfl : r11 = pm_we (nI (pm_ck ((S 4) f))) (nI i) (nI 0) := h12
    refine lv_topi (fun x13 e14 => ?_)
    obtain rfl : x13 = nI (pm_ck (pm_sm (S 4 f) i 0)) := e14.trans (pm_wec (hI.okm f hf) hi (v := 0) (by decide))
    have := pm_ck8 (pm_sm (S 4 f) i 0)
    refine lv_istore (lv' := [(6, .int (nI (pm_ck (pm_sm (S 4 f) i 0)))), (5, .int (nI (pm_tk (pm_sm (S 4 f) i 0)))), (4, .int (nI 0)), (3, .int (nI 1)), (0, .ref (q 0)), (1, .int (nI i)), (2, .int (nI f))]) hx hb dX2_markDecides_70 hl (by decide) rfl (fun ls hl => ?_)
    refine lv_aload_n hx hb dX2_markDecides_72 rfl (lv_at hl 4 rfl) ?_
    refine lv_iload hx hb dX2_markDecides_73 (lv_at hl 1 rfl) ?_
    refine lv_iload hx hb dX2_markDecides_75 (lv_at hl 0 rfl) ?_
    refine vp_callSi (W.runV (As := [.int (nI (pm_tk (pm_sm (S 4 f) i 0))), .int (nI (pm_ck (pm_sm (S 4 f) i 0)))]) (rest := []) ⟨hx, hb, hml, hown, hts⟩ (k_X2_isWanted l D y q S (pm_tk (pm_sm (S 4 f) i 0)) (pm_ck (pm_sm (S 4 f) i 0)) (hI.set9 0 (by decide)) (by omega) (by omega)) (cwV 2 hts gX2_markDecides_X2_isWanted rfl rfl rfl hd_X2_isWanted ⟨Nat.le_of_ble_eq_true rfl, Nat.le_of_ble_eq_true rfl⟩) ⟨pm_ro_blind, va_recv hK hP (ci := 2) (q0 := 0) rfl rfl, pm_ro_pre hP hK⟩ rfl rfl hl.1 rfl (lv_room (Nat.le_of_ble_eq_true rfl)) dX2_markDecides_77 ⟨Nat.le_of_ble_eq_true rfl, Nat.le_of_ble_eq_true rfl⟩) (fun r15 h16 => ?_)
    rcases (show (((pm_ck (pm_sm (S 4 f) i 0)) = 0 ∧ S 9 0 ≤ pm_pc (pm_tk (pm_sm (S 4 f) i 0))) ∧ r15 = nI 1) ∨ (¬ ((pm_ck (pm_sm (S 4 f) i 0)) = 0 ∧ S 9 0 ≤ pm_pc (pm_tk (pm_sm (S 4 f) i 0))) ∧ r15 = nI 0) from h16) with ⟨hp17, rfl⟩ | ⟨hp17, rfl⟩
    · have whp17 := pm_wd_t hp17
      refine lv_iload_n hx hb dX2_markDecides_80 rfl (lv_at hl 3 rfl) ?_
      refine lv_icmp_eq (tgt := 86) hx hb dX2_markDecides_81 (by decide) (fun _ => ?_) (fun c18 => (c18 (by decide)).elim)
      refine lv_iinc (v := nI 1) (lv' := [(4, .int (nI 1)), (6, .int (nI (pm_ck (pm_sm (S 4 f) i 0)))), (5, .int (nI (pm_tk (pm_sm (S 4 f) i 0)))), (3, .int (nI 1)), (0, .ref (q 0)), (1, .int (nI i)), (2, .int (nI f))]) hx hb dX2_markDecides_86 hl (k := 2) rfl (by decide) (by decide) rfl (fun ls hl => ?_)
      refine lv_goto (tgt := 20) hx hb dX2_markDecides_89 (by decide) ?_
      refine lv_iload hx hb dX2_markDecides_20 (lv_at hl 0 rfl) ?_
      refine lv_iconst (v := nI 2) hx hb dX2_markDecides_22 (by decide) ?_
      refine lv_icmp_gt (tgt := 92) hx hb dX2_markDecides_23 (by decide) (fun c19 => absurd c19 (by decide)) (fun _ => ?_)
      refine lv_aload_n hx hb dX2_markDecides_26 rfl (lv_at hl 4 rfl) ?_
      refine va_get (D := D) (ci := 2) (v := .ref (q 3)) (C := RX2) (T := TX2) (N := 15) hx hb hts hin2 hown hK hP 0 rfl rfl 2 (by decide) (hts (.fieldLink RX2 18 "ProofMarks$Sheet" "ticks" "[I") (List.mem_of_getElem? (i := 1) rfl)) (fun _ h9 => h9) rfl dX2_markDecides_27 ?_
      refine lv_iload_n hx hb dX2_markDecides_30 rfl (lv_at hl 6 rfl) ?_
      refine kx_iald (v := nI (pm_tk ((S 4) f))) hx hb hK hP 3 0 rfl rfl (by omega) (by decide) rfl dX2_markDecides_31 ?_
      have := pm_tk8 ((S 4) f)
      refine lv_iload_n hx hb dX2_markDecides_32 rfl (lv_at hl 5 rfl) ?_
      refine lv_iload hx hb dX2_markDecides_33 (lv_at hl 0 rfl) ?_
      refine lv_iconst (v := nI 1) hx hb dX2_markDecides_35 (by decide) ?_
      refine lv_icmp_ne (tgt := 43) hx hb dX2_markDecides_36 (by decide) (fun c20 => (c20 (by decide)).elim) (fun _ => ?_)
      refine lv_iconst (v := nI 1) hx hb dX2_markDecides_39 (by decide) ?_
      refine lv_goto (tgt := 44) hx hb dX2_markDecides_40 (by decide) ?_
      refine vp_callSi (W.runS (As := [.int (nI (pm_tk ((S 4) f))), .int (nI i), .int (nI 1)]) (rest := []) ⟨hx, hb, hml, hown, hts⟩ (k_X2_withEditor l (nI (pm_tk ((S 4) f))) (nI i) (nI 1)) (va_cwS 3 hts gX2_markDecides_X2_withEditor rfl rfl rfl hd_X2_withEditor ⟨Nat.le_of_ble_eq_true rfl, Nat.le_of_ble_eq_true rfl⟩) ⟨pm_no_blind, pm_no_pre⟩ rfl rfl hl.1 rfl (lv_room (Nat.le_of_ble_eq_true rfl)) dX2_markDecides_44 ⟨Nat.le_of_ble_eq_true rfl, Nat.le_of_ble_eq_true rfl⟩) (fun r21 h22 => ?_)
      obtain rfl : r21 = pm_we (nI (pm_tk ((S 4) f))) (nI i) (nI 1) := h22
      refine lv_topi (fun x23 e24 => ?_)
      obtain rfl : x23 = nI (pm_tk (pm_sm (S 4 f) i 1)) := e24.trans (pm_wet (hI.okm f hf) hi (v := 1) (by decide))
      have := pm_tk8 (pm_sm (S 4 f) i 1)
      refine lv_istore (lv' := [(5, .int (nI (pm_tk (pm_sm (S 4 f) i 1)))), (4, .int (nI 1)), (6, .int (nI (pm_ck (pm_sm (S 4 f) i 0)))), (3, .int (nI 1)), (0, .ref (q 0)), (1, .int (nI i)), (2, .int (nI f))]) hx hb dX2_markDecides_47 hl (by decide) rfl (fun ls hl => ?_)
      refine lv_aload_n hx hb dX2_markDecides_49 rfl (lv_at hl 4 rfl) ?_
      refine va_get (D := D) (ci := 2) (v := .ref (q 4)) (C := RX2) (T := TX2) (N := 15) hx hb hts hin2 hown hK hP 0 rfl rfl 3 (by decide) (hts (.fieldLink RX2 21 "ProofMarks$Sheet" "crosses" "[I") (List.mem_of_getElem? (i := 2) rfl)) (fun _ h9 => h9) rfl dX2_markDecides_50 ?_
      refine lv_iload_n hx hb dX2_markDecides_53 rfl (lv_at hl 6 rfl) ?_
      refine kx_iald (v := nI (pm_ck ((S 4) f))) hx hb hK hP 4 0 rfl rfl (by omega) (by decide) rfl dX2_markDecides_54 ?_
      have := pm_ck8 ((S 4) f)
      refine lv_iload_n hx hb dX2_markDecides_55 rfl (lv_at hl 5 rfl) ?_
      refine lv_iload hx hb dX2_markDecides_56 (lv_at hl 1 rfl) ?_
      refine lv_iconst (v := nI 2) hx hb dX2_markDecides_58 (by decide) ?_
      refine lv_icmp_ne (tgt := 66) hx hb dX2_markDecides_59 (by decide) (fun _ => ?_) (fun c25 => absurd c25 (by decide))
      refine lv_iconst (v := nI 0) hx hb dX2_markDecides_66 (by decide) ?_
      refine vp_callSi (W.runS (As := [.int (nI (pm_ck ((S 4) f))), .int (nI i), .int (nI 0)]) (rest := []) ⟨hx, hb, hml, hown, hts⟩ (k_X2_withEditor l (nI (pm_ck ((S 4) f))) (nI i) (nI 0)) (va_cwS 3 hts gX2_markDecides_X2_withEditor rfl rfl rfl hd_X2_withEditor ⟨Nat.le_of_ble_eq_true rfl, Nat.le_of_ble_eq_true rfl⟩) ⟨pm_no_blind, pm_no_pre⟩ rfl rfl hl.1 rfl (lv_room (Nat.le_of_ble_eq_true rfl)) dX2_markDecides_67 ⟨Nat.le_of_ble_eq_true rfl, Nat.le_of_ble_eq_true rfl⟩) (fun r26 h27 => ?_)
      obtain rfl : r26 = pm_we (nI (pm_ck ((S 4) f))) (nI i) (nI 0) := h27
      refine lv_topi (fun x28 e29 => ?_)
      obtain rfl : x28 = nI (pm_ck (pm_sm (S 4 f) i 1)) := e29.trans (pm_wec (hI.okm f hf) hi (v := 1) (by decide))
      have := pm_ck8 (pm_sm (S 4 f) i 1)
      refine lv_istore (lv' := [(6, .int (nI (pm_ck (pm_sm (S 4 f) i 1)))), (5, .int (nI (pm_tk (pm_sm (S 4 f) i 1)))), (4, .int (nI 1)), (3, .int (nI 1)), (0, .ref (q 0)), (1, .int (nI i)), (2, .int (nI f))]) hx hb dX2_markDecides_70 hl (by decide) rfl (fun ls hl => ?_)
      refine lv_aload_n hx hb dX2_markDecides_72 rfl (lv_at hl 4 rfl) ?_
      refine lv_iload hx hb dX2_markDecides_73 (lv_at hl 1 rfl) ?_
      refine lv_iload hx hb dX2_markDecides_75 (lv_at hl 0 rfl) ?_
      refine vp_callSi (W.runV (As := [.int (nI (pm_tk (pm_sm (S 4 f) i 1))), .int (nI (pm_ck (pm_sm (S 4 f) i 1)))]) (rest := []) ⟨hx, hb, hml, hown, hts⟩ (k_X2_isWanted l D y q S (pm_tk (pm_sm (S 4 f) i 1)) (pm_ck (pm_sm (S 4 f) i 1)) (hI.set9 0 (by decide)) (by omega) (by omega)) (cwV 2 hts gX2_markDecides_X2_isWanted rfl rfl rfl hd_X2_isWanted ⟨Nat.le_of_ble_eq_true rfl, Nat.le_of_ble_eq_true rfl⟩) ⟨pm_ro_blind, va_recv hK hP (ci := 2) (q0 := 0) rfl rfl, pm_ro_pre hP hK⟩ rfl rfl hl.1 rfl (lv_room (Nat.le_of_ble_eq_true rfl)) dX2_markDecides_77 ⟨Nat.le_of_ble_eq_true rfl, Nat.le_of_ble_eq_true rfl⟩) (fun r30 h31 => ?_)
      rcases (show (((pm_ck (pm_sm (S 4 f) i 1)) = 0 ∧ S 9 0 ≤ pm_pc (pm_tk (pm_sm (S 4 f) i 1))) ∧ r30 = nI 1) ∨ (¬ ((pm_ck (pm_sm (S 4 f) i 1)) = 0 ∧ S 9 0 ≤ pm_pc (pm_tk (pm_sm (S 4 f) i 1))) ∧ r30 = nI 0) from h31) with ⟨hp32, rfl⟩ | ⟨hp32, rfl⟩
      · have whp32 := pm_wd_t hp32
        refine lv_iload_n hx hb dX2_markDecides_80 rfl (lv_at hl 3 rfl) ?_
        refine lv_icmp_eq (tgt := 86) hx hb dX2_markDecides_81 (by decide) (fun _ => ?_) (fun c33 => (c33 (by decide)).elim)
        refine lv_iinc (v := nI 2) (lv' := [(4, .int (nI 2)), (6, .int (nI (pm_ck (pm_sm (S 4 f) i 1)))), (5, .int (nI (pm_tk (pm_sm (S 4 f) i 1)))), (3, .int (nI 1)), (0, .ref (q 0)), (1, .int (nI i)), (2, .int (nI f))]) hx hb dX2_markDecides_86 hl (k := 2) rfl (by decide) (by decide) rfl (fun ls hl => ?_)
        refine lv_goto (tgt := 20) hx hb dX2_markDecides_89 (by decide) ?_
        refine lv_iload hx hb dX2_markDecides_20 (lv_at hl 0 rfl) ?_
        refine lv_iconst (v := nI 2) hx hb dX2_markDecides_22 (by decide) ?_
        refine lv_icmp_gt (tgt := 92) hx hb dX2_markDecides_23 (by decide) (fun c34 => absurd c34 (by decide)) (fun _ => ?_)
        refine lv_aload_n hx hb dX2_markDecides_26 rfl (lv_at hl 4 rfl) ?_
        refine va_get (D := D) (ci := 2) (v := .ref (q 3)) (C := RX2) (T := TX2) (N := 15) hx hb hts hin2 hown hK hP 0 rfl rfl 2 (by decide) (hts (.fieldLink RX2 18 "ProofMarks$Sheet" "ticks" "[I") (List.mem_of_getElem? (i := 1) rfl)) (fun _ h9 => h9) rfl dX2_markDecides_27 ?_
        refine lv_iload_n hx hb dX2_markDecides_30 rfl (lv_at hl 6 rfl) ?_
        refine kx_iald (v := nI (pm_tk ((S 4) f))) hx hb hK hP 3 0 rfl rfl (by omega) (by decide) rfl dX2_markDecides_31 ?_
        have := pm_tk8 ((S 4) f)
        refine lv_iload_n hx hb dX2_markDecides_32 rfl (lv_at hl 5 rfl) ?_
        refine lv_iload hx hb dX2_markDecides_33 (lv_at hl 0 rfl) ?_
        refine lv_iconst (v := nI 1) hx hb dX2_markDecides_35 (by decide) ?_
        refine lv_icmp_ne (tgt := 43) hx hb dX2_markDecides_36 (by decide) (fun _ => ?_) (fun c35 => absurd c35 (by decide))
        refine lv_iconst (v := nI 0) hx hb dX2_markDecides_43 (by decide) ?_
        refine vp_callSi (W.runS (As := [.int (nI (pm_tk ((S 4) f))), .int (nI i), .int (nI 0)]) (rest := []) ⟨hx, hb, hml, hown, hts⟩ (k_X2_withEditor l (nI (pm_tk ((S 4) f))) (nI i) (nI 0)) (va_cwS 3 hts gX2_markDecides_X2_withEditor rfl rfl rfl hd_X2_withEditor ⟨Nat.le_of_ble_eq_true rfl, Nat.le_of_ble_eq_true rfl⟩) ⟨pm_no_blind, pm_no_pre⟩ rfl rfl hl.1 rfl (lv_room (Nat.le_of_ble_eq_true rfl)) dX2_markDecides_44 ⟨Nat.le_of_ble_eq_true rfl, Nat.le_of_ble_eq_true rfl⟩) (fun r36 h37 => ?_)
        obtain rfl : r36 = pm_we (nI (pm_tk ((S 4) f))) (nI i) (nI 0) := h37
        refine lv_topi (fun x38 e39 => ?_)
        obtain rfl : x38 = nI (pm_tk (pm_sm (S 4 f) i 2)) := e39.trans (pm_wet (hI.okm f hf) hi (v := 2) (by decide))
        have := pm_tk8 (pm_sm (S 4 f) i 2)
        refine lv_istore (lv' := [(5, .int (nI (pm_tk (pm_sm (S 4 f) i 2)))), (4, .int (nI 2)), (6, .int (nI (pm_ck (pm_sm (S 4 f) i 1)))), (3, .int (nI 1)), (0, .ref (q 0)), (1, .int (nI i)), (2, .int (nI f))]) hx hb dX2_markDecides_47 hl (by decide) rfl (fun ls hl => ?_)
        refine lv_aload_n hx hb dX2_markDecides_49 rfl (lv_at hl 4 rfl) ?_
        refine va_get (D := D) (ci := 2) (v := .ref (q 4)) (C := RX2) (T := TX2) (N := 15) hx hb hts hin2 hown hK hP 0 rfl rfl 3 (by decide) (hts (.fieldLink RX2 21 "ProofMarks$Sheet" "crosses" "[I") (List.mem_of_getElem? (i := 2) rfl)) (fun _ h9 => h9) rfl dX2_markDecides_50 ?_
        refine lv_iload_n hx hb dX2_markDecides_53 rfl (lv_at hl 6 rfl) ?_
        refine kx_iald (v := nI (pm_ck ((S 4) f))) hx hb hK hP 4 0 rfl rfl (by omega) (by decide) rfl dX2_markDecides_54 ?_
        have := pm_ck8 ((S 4) f)
        refine lv_iload_n hx hb dX2_markDecides_55 rfl (lv_at hl 5 rfl) ?_
        refine lv_iload hx hb dX2_markDecides_56 (lv_at hl 1 rfl) ?_
        refine lv_iconst (v := nI 2) hx hb dX2_markDecides_58 (by decide) ?_
        refine lv_icmp_ne (tgt := 66) hx hb dX2_markDecides_59 (by decide) (fun c40 => (c40 (by decide)).elim) (fun _ => ?_)
        refine lv_iconst (v := nI 1) hx hb dX2_markDecides_62 (by decide) ?_
        refine lv_goto (tgt := 67) hx hb dX2_markDecides_63 (by decide) ?_
        refine vp_callSi (W.runS (As := [.int (nI (pm_ck ((S 4) f))), .int (nI i), .int (nI 1)]) (rest := []) ⟨hx, hb, hml, hown, hts⟩ (k_X2_withEditor l (nI (pm_ck ((S 4) f))) (nI i) (nI 1)) (va_cwS 3 hts gX2_markDecides_X2_withEditor rfl rfl rfl hd_X2_withEditor ⟨Nat.le_of_ble_eq_true rfl, Nat.le_of_ble_eq_true rfl⟩) ⟨pm_no_blind, pm_no_pre⟩ rfl rfl hl.1 rfl (lv_room (Nat.le_of_ble_eq_true rfl)) dX2_markDecides_67 ⟨Nat.le_of_ble_eq_true rfl, Nat.le_of_ble_eq_true rfl⟩) (fun r41 h42 => ?_)
        obtain rfl : r41 = pm_we (nI (pm_ck ((S 4) f))) (nI i) (nI 1) := h42
        refine lv_topi (fun x43 e44 => ?_)
        obtain rfl : x43 = nI (pm_ck (pm_sm (S 4 f) i 2)) := e44.trans (pm_wec (hI.okm f hf) hi (v := 2) (by decide))
        have := pm_ck8 (pm_sm (S 4 f) i 2)
        refine lv_istore (lv' := [(6, .int (nI (pm_ck (pm_sm (S 4 f) i 2)))), (5, .int (nI (pm_tk (pm_sm (S 4 f) i 2)))), (4, .int (nI 2)), (3, .int (nI 1)), (0, .ref (q 0)), (1, .int (nI i)), (2, .int (nI f))]) hx hb dX2_markDecides_70 hl (by decide) rfl (fun ls hl => ?_)
        refine lv_aload_n hx hb dX2_markDecides_72 rfl (lv_at hl 4 rfl) ?_
        refine lv_iload hx hb dX2_markDecides_73 (lv_at hl 1 rfl) ?_
        refine lv_iload hx hb dX2_markDecides_75 (lv_at hl 0 rfl) ?_
        refine vp_callSi (W.runV (As := [.int (nI (pm_tk (pm_sm (S 4 f) i 2))), .int (nI (pm_ck (pm_sm (S 4 f) i 2)))]) (rest := []) ⟨hx, hb, hml, hown, hts⟩ (k_X2_isWanted l D y q S (pm_tk (pm_sm (S 4 f) i 2)) (pm_ck (pm_sm (S 4 f) i 2)) (hI.set9 0 (by decide)) (by omega) (by omega)) (cwV 2 hts gX2_markDecides_X2_isWanted rfl rfl rfl hd_X2_isWanted ⟨Nat.le_of_ble_eq_true rfl, Nat.le_of_ble_eq_true rfl⟩) ⟨pm_ro_blind, va_recv hK hP (ci := 2) (q0 := 0) rfl rfl, pm_ro_pre hP hK⟩ rfl rfl hl.1 rfl (lv_room (Nat.le_of_ble_eq_true rfl)) dX2_markDecides_77 ⟨Nat.le_of_ble_eq_true rfl, Nat.le_of_ble_eq_true rfl⟩) (fun r45 h46 => ?_)
        rcases (show (((pm_ck (pm_sm (S 4 f) i 2)) = 0 ∧ S 9 0 ≤ pm_pc (pm_tk (pm_sm (S 4 f) i 2))) ∧ r45 = nI 1) ∨ (¬ ((pm_ck (pm_sm (S 4 f) i 2)) = 0 ∧ S 9 0 ≤ pm_pc (pm_tk (pm_sm (S 4 f) i 2))) ∧ r45 = nI 0) from h46) with ⟨hp47, rfl⟩ | ⟨hp47, rfl⟩
        · have whp47 := pm_wd_t hp47
          refine lv_iload_n hx hb dX2_markDecides_80 rfl (lv_at hl 3 rfl) ?_
          refine lv_icmp_eq (tgt := 86) hx hb dX2_markDecides_81 (by decide) (fun _ => ?_) (fun c48 => (c48 (by decide)).elim)
          refine lv_iinc (v := nI 3) (lv' := [(4, .int (nI 3)), (6, .int (nI (pm_ck (pm_sm (S 4 f) i 2)))), (5, .int (nI (pm_tk (pm_sm (S 4 f) i 2)))), (3, .int (nI 1)), (0, .ref (q 0)), (1, .int (nI i)), (2, .int (nI f))]) hx hb dX2_markDecides_86 hl (k := 2) rfl (by decide) (by decide) rfl (fun ls hl => ?_)
          refine lv_goto (tgt := 20) hx hb dX2_markDecides_89 (by decide) ?_
          refine lv_iload hx hb dX2_markDecides_20 (lv_at hl 0 rfl) ?_
          refine lv_iconst (v := nI 2) hx hb dX2_markDecides_22 (by decide) ?_
          refine lv_icmp_gt (tgt := 92) hx hb dX2_markDecides_23 (by decide) (fun _ => ?_) (fun c49 => (c49 (by decide)).elim)
          refine lv_iconst (v := nI 0) hx hb dX2_markDecides_92 (by decide) ?_
          exact W.zret (ty := .boolean) hx hb hr rfl (fun t ht _ => ⟨_, rfl, (Or.inr ⟨by simp [pm_mc, whp3, whp17, whp32, whp47], rfl⟩), ht⟩) (fun _ h => absurd h List.not_mem_nil) dX2_markDecides_93
        · have whp47 := pm_wd_f hp47
          refine lv_iload_n hx hb dX2_markDecides_80 rfl (lv_at hl 3 rfl) ?_
          refine lv_icmp_eq (tgt := 86) hx hb dX2_markDecides_81 (by decide) (fun c50 => absurd c50 (by decide)) (fun _ => ?_)
          refine lv_iconst (v := nI 1) hx hb dX2_markDecides_84 (by decide) ?_
          exact W.zret (ty := .boolean) hx hb hr rfl (fun t ht _ => ⟨_, rfl, (Or.inl ⟨by simp [pm_mc, whp3, whp17, whp32, whp47], rfl⟩), ht⟩) (fun _ h => absurd h List.not_mem_nil) dX2_markDecides_85
      · have whp32 := pm_wd_f hp32
        refine lv_iload_n hx hb dX2_markDecides_80 rfl (lv_at hl 3 rfl) ?_
        refine lv_icmp_eq (tgt := 86) hx hb dX2_markDecides_81 (by decide) (fun c51 => absurd c51 (by decide)) (fun _ => ?_)
        refine lv_iconst (v := nI 1) hx hb dX2_markDecides_84 (by decide) ?_
        exact W.zret (ty := .boolean) hx hb hr rfl (fun t ht _ => ⟨_, rfl, (Or.inl ⟨by simp [pm_mc, whp3, whp17, whp32], rfl⟩), ht⟩) (fun _ h => absurd h List.not_mem_nil) dX2_markDecides_85
    · have whp17 := pm_wd_f hp17
      refine lv_iload_n hx hb dX2_markDecides_80 rfl (lv_at hl 3 rfl) ?_
      refine lv_icmp_eq (tgt := 86) hx hb dX2_markDecides_81 (by decide) (fun c52 => absurd c52 (by decide)) (fun _ => ?_)
      refine lv_iconst (v := nI 1) hx hb dX2_markDecides_84 (by decide) ?_
      exact W.zret (ty := .boolean) hx hb hr rfl (fun t ht _ => ⟨_, rfl, (Or.inl ⟨by simp [pm_mc, whp3, whp17], rfl⟩), ht⟩) (fun _ h => absurd h List.not_mem_nil) dX2_markDecides_85
  · have whp3 := pm_wd_f hp3
    refine lv_istore_n (lv' := [(3, .int (nI 0)), (0, .ref (q 0)), (1, .int (nI i)), (2, .int (nI f))]) hx hb dX2_markDecides_16 rfl hl (by decide) rfl (fun ls hl => ?_)
    refine lv_iconst (v := nI 0) hx hb dX2_markDecides_17 (by decide) ?_
    refine lv_istore (lv' := [(4, .int (nI 0)), (3, .int (nI 0)), (0, .ref (q 0)), (1, .int (nI i)), (2, .int (nI f))]) hx hb dX2_markDecides_18 hl (by decide) rfl (fun ls hl => ?_)
    refine lv_iload hx hb dX2_markDecides_20 (lv_at hl 0 rfl) ?_
    refine lv_iconst (v := nI 2) hx hb dX2_markDecides_22 (by decide) ?_
    refine lv_icmp_gt (tgt := 92) hx hb dX2_markDecides_23 (by decide) (fun c53 => absurd c53 (by decide)) (fun _ => ?_)
    refine lv_aload_n hx hb dX2_markDecides_26 rfl (lv_at hl 2 rfl) ?_
    refine va_get (D := D) (ci := 2) (v := .ref (q 3)) (C := RX2) (T := TX2) (N := 15) hx hb hts hin2 hown hK hP 0 rfl rfl 2 (by decide) (hts (.fieldLink RX2 18 "ProofMarks$Sheet" "ticks" "[I") (List.mem_of_getElem? (i := 1) rfl)) (fun _ h9 => h9) rfl dX2_markDecides_27 ?_
    refine lv_iload_n hx hb dX2_markDecides_30 rfl (lv_at hl 4 rfl) ?_
    refine kx_iald (v := nI (pm_tk ((S 4) f))) hx hb hK hP 3 0 rfl rfl (by omega) (by decide) rfl dX2_markDecides_31 ?_
    have := pm_tk8 ((S 4) f)
    refine lv_iload_n hx hb dX2_markDecides_32 rfl (lv_at hl 3 rfl) ?_
    refine lv_iload hx hb dX2_markDecides_33 (lv_at hl 0 rfl) ?_
    refine lv_iconst (v := nI 1) hx hb dX2_markDecides_35 (by decide) ?_
    refine lv_icmp_ne (tgt := 43) hx hb dX2_markDecides_36 (by decide) (fun _ => ?_) (fun c54 => absurd c54 (by decide))
    refine lv_iconst (v := nI 0) hx hb dX2_markDecides_43 (by decide) ?_
    refine vp_callSi (W.runS (As := [.int (nI (pm_tk ((S 4) f))), .int (nI i), .int (nI 0)]) (rest := []) ⟨hx, hb, hml, hown, hts⟩ (k_X2_withEditor l (nI (pm_tk ((S 4) f))) (nI i) (nI 0)) (va_cwS 3 hts gX2_markDecides_X2_withEditor rfl rfl rfl hd_X2_withEditor ⟨Nat.le_of_ble_eq_true rfl, Nat.le_of_ble_eq_true rfl⟩) ⟨pm_no_blind, pm_no_pre⟩ rfl rfl hl.1 rfl (lv_room (Nat.le_of_ble_eq_true rfl)) dX2_markDecides_44 ⟨Nat.le_of_ble_eq_true rfl, Nat.le_of_ble_eq_true rfl⟩) (fun r55 h56 => ?_)
    obtain rfl : r55 = pm_we (nI (pm_tk ((S 4) f))) (nI i) (nI 0) := h56
    refine lv_topi (fun x57 e58 => ?_)
    obtain rfl : x57 = nI (pm_tk (pm_sm (S 4 f) i 0)) := e58.trans (pm_wet (hI.okm f hf) hi (v := 0) (by decide))
    have := pm_tk8 (pm_sm (S 4 f) i 0)
    refine lv_istore (lv' := [(5, .int (nI (pm_tk (pm_sm (S 4 f) i 0)))), (4, .int (nI 0)), (3, .int (nI 0)), (0, .ref (q 0)), (1, .int (nI i)), (2, .int (nI f))]) hx hb dX2_markDecides_47 hl (by decide) rfl (fun ls hl => ?_)
    refine lv_aload_n hx hb dX2_markDecides_49 rfl (lv_at hl 3 rfl) ?_
    refine va_get (D := D) (ci := 2) (v := .ref (q 4)) (C := RX2) (T := TX2) (N := 15) hx hb hts hin2 hown hK hP 0 rfl rfl 3 (by decide) (hts (.fieldLink RX2 21 "ProofMarks$Sheet" "crosses" "[I") (List.mem_of_getElem? (i := 2) rfl)) (fun _ h9 => h9) rfl dX2_markDecides_50 ?_
    refine lv_iload_n hx hb dX2_markDecides_53 rfl (lv_at hl 5 rfl) ?_
    refine kx_iald (v := nI (pm_ck ((S 4) f))) hx hb hK hP 4 0 rfl rfl (by omega) (by decide) rfl dX2_markDecides_54 ?_
    have := pm_ck8 ((S 4) f)
    refine lv_iload_n hx hb dX2_markDecides_55 rfl (lv_at hl 4 rfl) ?_
    refine lv_iload hx hb dX2_markDecides_56 (lv_at hl 1 rfl) ?_
    refine lv_iconst (v := nI 2) hx hb dX2_markDecides_58 (by decide) ?_
    refine lv_icmp_ne (tgt := 66) hx hb dX2_markDecides_59 (by decide) (fun _ => ?_) (fun c59 => absurd c59 (by decide))
    refine lv_iconst (v := nI 0) hx hb dX2_markDecides_66 (by decide) ?_
    refine vp_callSi (W.runS (As := [.int (nI (pm_ck ((S 4) f))), .int (nI i), .int (nI 0)]) (rest := []) ⟨hx, hb, hml, hown, hts⟩ (k_X2_withEditor l (nI (pm_ck ((S 4) f))) (nI i) (nI 0)) (va_cwS 3 hts gX2_markDecides_X2_withEditor rfl rfl rfl hd_X2_withEditor ⟨Nat.le_of_ble_eq_true rfl, Nat.le_of_ble_eq_true rfl⟩) ⟨pm_no_blind, pm_no_pre⟩ rfl rfl hl.1 rfl (lv_room (Nat.le_of_ble_eq_true rfl)) dX2_markDecides_67 ⟨Nat.le_of_ble_eq_true rfl, Nat.le_of_ble_eq_true rfl⟩) (fun r60 h61 => ?_)
    obtain rfl : r60 = pm_we (nI (pm_ck ((S 4) f))) (nI i) (nI 0) := h61
    refine lv_topi (fun x62 e63 => ?_)
    obtain rfl : x62 = nI (pm_ck (pm_sm (S 4 f) i 0)) := e63.trans (pm_wec (hI.okm f hf) hi (v := 0) (by decide))
    have := pm_ck8 (pm_sm (S 4 f) i 0)
    refine lv_istore (lv' := [(6, .int (nI (pm_ck (pm_sm (S 4 f) i 0)))), (5, .int (nI (pm_tk (pm_sm (S 4 f) i 0)))), (4, .int (nI 0)), (3, .int (nI 0)), (0, .ref (q 0)), (1, .int (nI i)), (2, .int (nI f))]) hx hb dX2_markDecides_70 hl (by decide) rfl (fun ls hl => ?_)
    refine lv_aload_n hx hb dX2_markDecides_72 rfl (lv_at hl 4 rfl) ?_
    refine lv_iload hx hb dX2_markDecides_73 (lv_at hl 1 rfl) ?_
    refine lv_iload hx hb dX2_markDecides_75 (lv_at hl 0 rfl) ?_
    refine vp_callSi (W.runV (As := [.int (nI (pm_tk (pm_sm (S 4 f) i 0))), .int (nI (pm_ck (pm_sm (S 4 f) i 0)))]) (rest := []) ⟨hx, hb, hml, hown, hts⟩ (k_X2_isWanted l D y q S (pm_tk (pm_sm (S 4 f) i 0)) (pm_ck (pm_sm (S 4 f) i 0)) (hI.set9 0 (by decide)) (by omega) (by omega)) (cwV 2 hts gX2_markDecides_X2_isWanted rfl rfl rfl hd_X2_isWanted ⟨Nat.le_of_ble_eq_true rfl, Nat.le_of_ble_eq_true rfl⟩) ⟨pm_ro_blind, va_recv hK hP (ci := 2) (q0 := 0) rfl rfl, pm_ro_pre hP hK⟩ rfl rfl hl.1 rfl (lv_room (Nat.le_of_ble_eq_true rfl)) dX2_markDecides_77 ⟨Nat.le_of_ble_eq_true rfl, Nat.le_of_ble_eq_true rfl⟩) (fun r64 h65 => ?_)
    rcases (show (((pm_ck (pm_sm (S 4 f) i 0)) = 0 ∧ S 9 0 ≤ pm_pc (pm_tk (pm_sm (S 4 f) i 0))) ∧ r64 = nI 1) ∨ (¬ ((pm_ck (pm_sm (S 4 f) i 0)) = 0 ∧ S 9 0 ≤ pm_pc (pm_tk (pm_sm (S 4 f) i 0))) ∧ r64 = nI 0) from h65) with ⟨hp66, rfl⟩ | ⟨hp66, rfl⟩
    · have whp66 := pm_wd_t hp66
      refine lv_iload_n hx hb dX2_markDecides_80 rfl (lv_at hl 3 rfl) ?_
      refine lv_icmp_eq (tgt := 86) hx hb dX2_markDecides_81 (by decide) (fun c67 => absurd c67 (by decide)) (fun _ => ?_)
      refine lv_iconst (v := nI 1) hx hb dX2_markDecides_84 (by decide) ?_
      exact W.zret (ty := .boolean) hx hb hr rfl (fun t ht _ => ⟨_, rfl, (Or.inl ⟨by simp [pm_mc, whp3, whp66], rfl⟩), ht⟩) (fun _ h => absurd h List.not_mem_nil) dX2_markDecides_85
    · have whp66 := pm_wd_f hp66
      refine lv_iload_n hx hb dX2_markDecides_80 rfl (lv_at hl 3 rfl) ?_
      refine lv_icmp_eq (tgt := 86) hx hb dX2_markDecides_81 (by decide) (fun _ => ?_) (fun c68 => (c68 (by decide)).elim)
      refine lv_iinc (v := nI 1) (lv' := [(4, .int (nI 1)), (6, .int (nI (pm_ck (pm_sm (S 4 f) i 0)))), (5, .int (nI (pm_tk (pm_sm (S 4 f) i 0)))), (3, .int (nI 0)), (0, .ref (q 0)), (1, .int (nI i)), (2, .int (nI f))]) hx hb dX2_markDecides_86 hl (k := 2) rfl (by decide) (by decide) rfl (fun ls hl => ?_)
      refine lv_goto (tgt := 20) hx hb dX2_markDecides_89 (by decide) ?_
      refine lv_iload hx hb dX2_markDecides_20 (lv_at hl 0 rfl) ?_
      refine lv_iconst (v := nI 2) hx hb dX2_markDecides_22 (by decide) ?_
      refine lv_icmp_gt (tgt := 92) hx hb dX2_markDecides_23 (by decide) (fun c69 => absurd c69 (by decide)) (fun _ => ?_)
      refine lv_aload_n hx hb dX2_markDecides_26 rfl (lv_at hl 4 rfl) ?_
      refine va_get (D := D) (ci := 2) (v := .ref (q 3)) (C := RX2) (T := TX2) (N := 15) hx hb hts hin2 hown hK hP 0 rfl rfl 2 (by decide) (hts (.fieldLink RX2 18 "ProofMarks$Sheet" "ticks" "[I") (List.mem_of_getElem? (i := 1) rfl)) (fun _ h9 => h9) rfl dX2_markDecides_27 ?_
      refine lv_iload_n hx hb dX2_markDecides_30 rfl (lv_at hl 6 rfl) ?_
      refine kx_iald (v := nI (pm_tk ((S 4) f))) hx hb hK hP 3 0 rfl rfl (by omega) (by decide) rfl dX2_markDecides_31 ?_
      have := pm_tk8 ((S 4) f)
      refine lv_iload_n hx hb dX2_markDecides_32 rfl (lv_at hl 5 rfl) ?_
      refine lv_iload hx hb dX2_markDecides_33 (lv_at hl 0 rfl) ?_
      refine lv_iconst (v := nI 1) hx hb dX2_markDecides_35 (by decide) ?_
      refine lv_icmp_ne (tgt := 43) hx hb dX2_markDecides_36 (by decide) (fun c70 => (c70 (by decide)).elim) (fun _ => ?_)
      refine lv_iconst (v := nI 1) hx hb dX2_markDecides_39 (by decide) ?_
      refine lv_goto (tgt := 44) hx hb dX2_markDecides_40 (by decide) ?_
      refine vp_callSi (W.runS (As := [.int (nI (pm_tk ((S 4) f))), .int (nI i), .int (nI 1)]) (rest := []) ⟨hx, hb, hml, hown, hts⟩ (k_X2_withEditor l (nI (pm_tk ((S 4) f))) (nI i) (nI 1)) (va_cwS 3 hts gX2_markDecides_X2_withEditor rfl rfl rfl hd_X2_withEditor ⟨Nat.le_of_ble_eq_true rfl, Nat.le_of_ble_eq_true rfl⟩) ⟨pm_no_blind, pm_no_pre⟩ rfl rfl hl.1 rfl (lv_room (Nat.le_of_ble_eq_true rfl)) dX2_markDecides_44 ⟨Nat.le_of_ble_eq_true rfl, Nat.le_of_ble_eq_true rfl⟩) (fun r71 h72 => ?_)
      obtain rfl : r71 = pm_we (nI (pm_tk ((S 4) f))) (nI i) (nI 1) := h72
      refine lv_topi (fun x73 e74 => ?_)
      obtain rfl : x73 = nI (pm_tk (pm_sm (S 4 f) i 1)) := e74.trans (pm_wet (hI.okm f hf) hi (v := 1) (by decide))
      have := pm_tk8 (pm_sm (S 4 f) i 1)
      refine lv_istore (lv' := [(5, .int (nI (pm_tk (pm_sm (S 4 f) i 1)))), (4, .int (nI 1)), (6, .int (nI (pm_ck (pm_sm (S 4 f) i 0)))), (3, .int (nI 0)), (0, .ref (q 0)), (1, .int (nI i)), (2, .int (nI f))]) hx hb dX2_markDecides_47 hl (by decide) rfl (fun ls hl => ?_)
      refine lv_aload_n hx hb dX2_markDecides_49 rfl (lv_at hl 4 rfl) ?_
      refine va_get (D := D) (ci := 2) (v := .ref (q 4)) (C := RX2) (T := TX2) (N := 15) hx hb hts hin2 hown hK hP 0 rfl rfl 3 (by decide) (hts (.fieldLink RX2 21 "ProofMarks$Sheet" "crosses" "[I") (List.mem_of_getElem? (i := 2) rfl)) (fun _ h9 => h9) rfl dX2_markDecides_50 ?_
      refine lv_iload_n hx hb dX2_markDecides_53 rfl (lv_at hl 6 rfl) ?_
      refine kx_iald (v := nI (pm_ck ((S 4) f))) hx hb hK hP 4 0 rfl rfl (by omega) (by decide) rfl dX2_markDecides_54 ?_
      have := pm_ck8 ((S 4) f)
      refine lv_iload_n hx hb dX2_markDecides_55 rfl (lv_at hl 5 rfl) ?_
      refine lv_iload hx hb dX2_markDecides_56 (lv_at hl 1 rfl) ?_
      refine lv_iconst (v := nI 2) hx hb dX2_markDecides_58 (by decide) ?_
      refine lv_icmp_ne (tgt := 66) hx hb dX2_markDecides_59 (by decide) (fun _ => ?_) (fun c75 => absurd c75 (by decide))
      refine lv_iconst (v := nI 0) hx hb dX2_markDecides_66 (by decide) ?_
      refine vp_callSi (W.runS (As := [.int (nI (pm_ck ((S 4) f))), .int (nI i), .int (nI 0)]) (rest := []) ⟨hx, hb, hml, hown, hts⟩ (k_X2_withEditor l (nI (pm_ck ((S 4) f))) (nI i) (nI 0)) (va_cwS 3 hts gX2_markDecides_X2_withEditor rfl rfl rfl hd_X2_withEditor ⟨Nat.le_of_ble_eq_true rfl, Nat.le_of_ble_eq_true rfl⟩) ⟨pm_no_blind, pm_no_pre⟩ rfl rfl hl.1 rfl (lv_room (Nat.le_of_ble_eq_true rfl)) dX2_markDecides_67 ⟨Nat.le_of_ble_eq_true rfl, Nat.le_of_ble_eq_true rfl⟩) (fun r76 h77 => ?_)
      obtain rfl : r76 = pm_we (nI (pm_ck ((S 4) f))) (nI i) (nI 0) := h77
      refine lv_topi (fun x78 e79 => ?_)
      obtain rfl : x78 = nI (pm_ck (pm_sm (S 4 f) i 1)) := e79.trans (pm_wec (hI.okm f hf) hi (v := 1) (by decide))
      have := pm_ck8 (pm_sm (S 4 f) i 1)
      refine lv_istore (lv' := [(6, .int (nI (pm_ck (pm_sm (S 4 f) i 1)))), (5, .int (nI (pm_tk (pm_sm (S 4 f) i 1)))), (4, .int (nI 1)), (3, .int (nI 0)), (0, .ref (q 0)), (1, .int (nI i)), (2, .int (nI f))]) hx hb dX2_markDecides_70 hl (by decide) rfl (fun ls hl => ?_)
      refine lv_aload_n hx hb dX2_markDecides_72 rfl (lv_at hl 4 rfl) ?_
      refine lv_iload hx hb dX2_markDecides_73 (lv_at hl 1 rfl) ?_
      refine lv_iload hx hb dX2_markDecides_75 (lv_at hl 0 rfl) ?_
      refine vp_callSi (W.runV (As := [.int (nI (pm_tk (pm_sm (S 4 f) i 1))), .int (nI (pm_ck (pm_sm (S 4 f) i 1)))]) (rest := []) ⟨hx, hb, hml, hown, hts⟩ (k_X2_isWanted l D y q S (pm_tk (pm_sm (S 4 f) i 1)) (pm_ck (pm_sm (S 4 f) i 1)) (hI.set9 0 (by decide)) (by omega) (by omega)) (cwV 2 hts gX2_markDecides_X2_isWanted rfl rfl rfl hd_X2_isWanted ⟨Nat.le_of_ble_eq_true rfl, Nat.le_of_ble_eq_true rfl⟩) ⟨pm_ro_blind, va_recv hK hP (ci := 2) (q0 := 0) rfl rfl, pm_ro_pre hP hK⟩ rfl rfl hl.1 rfl (lv_room (Nat.le_of_ble_eq_true rfl)) dX2_markDecides_77 ⟨Nat.le_of_ble_eq_true rfl, Nat.le_of_ble_eq_true rfl⟩) (fun r80 h81 => ?_)
      rcases (show (((pm_ck (pm_sm (S 4 f) i 1)) = 0 ∧ S 9 0 ≤ pm_pc (pm_tk (pm_sm (S 4 f) i 1))) ∧ r80 = nI 1) ∨ (¬ ((pm_ck (pm_sm (S 4 f) i 1)) = 0 ∧ S 9 0 ≤ pm_pc (pm_tk (pm_sm (S 4 f) i 1))) ∧ r80 = nI 0) from h81) with ⟨hp82, rfl⟩ | ⟨hp82, rfl⟩
      · have whp82 := pm_wd_t hp82
        refine lv_iload_n hx hb dX2_markDecides_80 rfl (lv_at hl 3 rfl) ?_
        refine lv_icmp_eq (tgt := 86) hx hb dX2_markDecides_81 (by decide) (fun c83 => absurd c83 (by decide)) (fun _ => ?_)
        refine lv_iconst (v := nI 1) hx hb dX2_markDecides_84 (by decide) ?_
        exact W.zret (ty := .boolean) hx hb hr rfl (fun t ht _ => ⟨_, rfl, (Or.inl ⟨by simp [pm_mc, whp3, whp66, whp82], rfl⟩), ht⟩) (fun _ h => absurd h List.not_mem_nil) dX2_markDecides_85
      · have whp82 := pm_wd_f hp82
        refine lv_iload_n hx hb dX2_markDecides_80 rfl (lv_at hl 3 rfl) ?_
        refine lv_icmp_eq (tgt := 86) hx hb dX2_markDecides_81 (by decide) (fun _ => ?_) (fun c84 => (c84 (by decide)).elim)
        refine lv_iinc (v := nI 2) (lv' := [(4, .int (nI 2)), (6, .int (nI (pm_ck (pm_sm (S 4 f) i 1)))), (5, .int (nI (pm_tk (pm_sm (S 4 f) i 1)))), (3, .int (nI 0)), (0, .ref (q 0)), (1, .int (nI i)), (2, .int (nI f))]) hx hb dX2_markDecides_86 hl (k := 2) rfl (by decide) (by decide) rfl (fun ls hl => ?_)
        refine lv_goto (tgt := 20) hx hb dX2_markDecides_89 (by decide) ?_
        refine lv_iload hx hb dX2_markDecides_20 (lv_at hl 0 rfl) ?_
        refine lv_iconst (v := nI 2) hx hb dX2_markDecides_22 (by decide) ?_
        refine lv_icmp_gt (tgt := 92) hx hb dX2_markDecides_23 (by decide) (fun c85 => absurd c85 (by decide)) (fun _ => ?_)
        refine lv_aload_n hx hb dX2_markDecides_26 rfl (lv_at hl 4 rfl) ?_
        refine va_get (D := D) (ci := 2) (v := .ref (q 3)) (C := RX2) (T := TX2) (N := 15) hx hb hts hin2 hown hK hP 0 rfl rfl 2 (by decide) (hts (.fieldLink RX2 18 "ProofMarks$Sheet" "ticks" "[I") (List.mem_of_getElem? (i := 1) rfl)) (fun _ h9 => h9) rfl dX2_markDecides_27 ?_
        refine lv_iload_n hx hb dX2_markDecides_30 rfl (lv_at hl 6 rfl) ?_
        refine kx_iald (v := nI (pm_tk ((S 4) f))) hx hb hK hP 3 0 rfl rfl (by omega) (by decide) rfl dX2_markDecides_31 ?_
        have := pm_tk8 ((S 4) f)
        refine lv_iload_n hx hb dX2_markDecides_32 rfl (lv_at hl 5 rfl) ?_
        refine lv_iload hx hb dX2_markDecides_33 (lv_at hl 0 rfl) ?_
        refine lv_iconst (v := nI 1) hx hb dX2_markDecides_35 (by decide) ?_
        refine lv_icmp_ne (tgt := 43) hx hb dX2_markDecides_36 (by decide) (fun _ => ?_) (fun c86 => absurd c86 (by decide))
        refine lv_iconst (v := nI 0) hx hb dX2_markDecides_43 (by decide) ?_
        refine vp_callSi (W.runS (As := [.int (nI (pm_tk ((S 4) f))), .int (nI i), .int (nI 0)]) (rest := []) ⟨hx, hb, hml, hown, hts⟩ (k_X2_withEditor l (nI (pm_tk ((S 4) f))) (nI i) (nI 0)) (va_cwS 3 hts gX2_markDecides_X2_withEditor rfl rfl rfl hd_X2_withEditor ⟨Nat.le_of_ble_eq_true rfl, Nat.le_of_ble_eq_true rfl⟩) ⟨pm_no_blind, pm_no_pre⟩ rfl rfl hl.1 rfl (lv_room (Nat.le_of_ble_eq_true rfl)) dX2_markDecides_44 ⟨Nat.le_of_ble_eq_true rfl, Nat.le_of_ble_eq_true rfl⟩) (fun r87 h88 => ?_)
        obtain rfl : r87 = pm_we (nI (pm_tk ((S 4) f))) (nI i) (nI 0) := h88
        refine lv_topi (fun x89 e90 => ?_)
        obtain rfl : x89 = nI (pm_tk (pm_sm (S 4 f) i 2)) := e90.trans (pm_wet (hI.okm f hf) hi (v := 2) (by decide))
        have := pm_tk8 (pm_sm (S 4 f) i 2)
        refine lv_istore (lv' := [(5, .int (nI (pm_tk (pm_sm (S 4 f) i 2)))), (4, .int (nI 2)), (6, .int (nI (pm_ck (pm_sm (S 4 f) i 1)))), (3, .int (nI 0)), (0, .ref (q 0)), (1, .int (nI i)), (2, .int (nI f))]) hx hb dX2_markDecides_47 hl (by decide) rfl (fun ls hl => ?_)
        refine lv_aload_n hx hb dX2_markDecides_49 rfl (lv_at hl 4 rfl) ?_
        refine va_get (D := D) (ci := 2) (v := .ref (q 4)) (C := RX2) (T := TX2) (N := 15) hx hb hts hin2 hown hK hP 0 rfl rfl 3 (by decide) (hts (.fieldLink RX2 21 "ProofMarks$Sheet" "crosses" "[I") (List.mem_of_getElem? (i := 2) rfl)) (fun _ h9 => h9) rfl dX2_markDecides_50 ?_
        refine lv_iload_n hx hb dX2_markDecides_53 rfl (lv_at hl 6 rfl) ?_
        refine kx_iald (v := nI (pm_ck ((S 4) f))) hx hb hK hP 4 0 rfl rfl (by omega) (by decide) rfl dX2_markDecides_54 ?_
        have := pm_ck8 ((S 4) f)
        refine lv_iload_n hx hb dX2_markDecides_55 rfl (lv_at hl 5 rfl) ?_
        refine lv_iload hx hb dX2_markDecides_56 (lv_at hl 1 rfl) ?_
        refine lv_iconst (v := nI 2) hx hb dX2_markDecides_58 (by decide) ?_
        refine lv_icmp_ne (tgt := 66) hx hb dX2_markDecides_59 (by decide) (fun c91 => (c91 (by decide)).elim) (fun _ => ?_)
        refine lv_iconst (v := nI 1) hx hb dX2_markDecides_62 (by decide) ?_
        refine lv_goto (tgt := 67) hx hb dX2_markDecides_63 (by decide) ?_
        refine vp_callSi (W.runS (As := [.int (nI (pm_ck ((S 4) f))), .int (nI i), .int (nI 1)]) (rest := []) ⟨hx, hb, hml, hown, hts⟩ (k_X2_withEditor l (nI (pm_ck ((S 4) f))) (nI i) (nI 1)) (va_cwS 3 hts gX2_markDecides_X2_withEditor rfl rfl rfl hd_X2_withEditor ⟨Nat.le_of_ble_eq_true rfl, Nat.le_of_ble_eq_true rfl⟩) ⟨pm_no_blind, pm_no_pre⟩ rfl rfl hl.1 rfl (lv_room (Nat.le_of_ble_eq_true rfl)) dX2_markDecides_67 ⟨Nat.le_of_ble_eq_true rfl, Nat.le_of_ble_eq_true rfl⟩) (fun r92 h93 => ?_)
        obtain rfl : r92 = pm_we (nI (pm_ck ((S 4) f))) (nI i) (nI 1) := h93
        refine lv_topi (fun x94 e95 => ?_)
        obtain rfl : x94 = nI (pm_ck (pm_sm (S 4 f) i 2)) := e95.trans (pm_wec (hI.okm f hf) hi (v := 2) (by decide))
        have := pm_ck8 (pm_sm (S 4 f) i 2)
        refine lv_istore (lv' := [(6, .int (nI (pm_ck (pm_sm (S 4 f) i 2)))), (5, .int (nI (pm_tk (pm_sm (S 4 f) i 2)))), (4, .int (nI 2)), (3, .int (nI 0)), (0, .ref (q 0)), (1, .int (nI i)), (2, .int (nI f))]) hx hb dX2_markDecides_70 hl (by decide) rfl (fun ls hl => ?_)
        refine lv_aload_n hx hb dX2_markDecides_72 rfl (lv_at hl 4 rfl) ?_
        refine lv_iload hx hb dX2_markDecides_73 (lv_at hl 1 rfl) ?_
        refine lv_iload hx hb dX2_markDecides_75 (lv_at hl 0 rfl) ?_
        refine vp_callSi (W.runV (As := [.int (nI (pm_tk (pm_sm (S 4 f) i 2))), .int (nI (pm_ck (pm_sm (S 4 f) i 2)))]) (rest := []) ⟨hx, hb, hml, hown, hts⟩ (k_X2_isWanted l D y q S (pm_tk (pm_sm (S 4 f) i 2)) (pm_ck (pm_sm (S 4 f) i 2)) (hI.set9 0 (by decide)) (by omega) (by omega)) (cwV 2 hts gX2_markDecides_X2_isWanted rfl rfl rfl hd_X2_isWanted ⟨Nat.le_of_ble_eq_true rfl, Nat.le_of_ble_eq_true rfl⟩) ⟨pm_ro_blind, va_recv hK hP (ci := 2) (q0 := 0) rfl rfl, pm_ro_pre hP hK⟩ rfl rfl hl.1 rfl (lv_room (Nat.le_of_ble_eq_true rfl)) dX2_markDecides_77 ⟨Nat.le_of_ble_eq_true rfl, Nat.le_of_ble_eq_true rfl⟩) (fun r96 h97 => ?_)
        rcases (show (((pm_ck (pm_sm (S 4 f) i 2)) = 0 ∧ S 9 0 ≤ pm_pc (pm_tk (pm_sm (S 4 f) i 2))) ∧ r96 = nI 1) ∨ (¬ ((pm_ck (pm_sm (S 4 f) i 2)) = 0 ∧ S 9 0 ≤ pm_pc (pm_tk (pm_sm (S 4 f) i 2))) ∧ r96 = nI 0) from h97) with ⟨hp98, rfl⟩ | ⟨hp98, rfl⟩
        · have whp98 := pm_wd_t hp98
          refine lv_iload_n hx hb dX2_markDecides_80 rfl (lv_at hl 3 rfl) ?_
          refine lv_icmp_eq (tgt := 86) hx hb dX2_markDecides_81 (by decide) (fun c99 => absurd c99 (by decide)) (fun _ => ?_)
          refine lv_iconst (v := nI 1) hx hb dX2_markDecides_84 (by decide) ?_
          exact W.zret (ty := .boolean) hx hb hr rfl (fun t ht _ => ⟨_, rfl, (Or.inl ⟨by simp [pm_mc, whp3, whp66, whp82, whp98], rfl⟩), ht⟩) (fun _ h => absurd h List.not_mem_nil) dX2_markDecides_85
        · have whp98 := pm_wd_f hp98
          refine lv_iload_n hx hb dX2_markDecides_80 rfl (lv_at hl 3 rfl) ?_
          refine lv_icmp_eq (tgt := 86) hx hb dX2_markDecides_81 (by decide) (fun _ => ?_) (fun c100 => (c100 (by decide)).elim)
          refine lv_iinc (v := nI 3) (lv' := [(4, .int (nI 3)), (6, .int (nI (pm_ck (pm_sm (S 4 f) i 2)))), (5, .int (nI (pm_tk (pm_sm (S 4 f) i 2)))), (3, .int (nI 0)), (0, .ref (q 0)), (1, .int (nI i)), (2, .int (nI f))]) hx hb dX2_markDecides_86 hl (k := 2) rfl (by decide) (by decide) rfl (fun ls hl => ?_)
          refine lv_goto (tgt := 20) hx hb dX2_markDecides_89 (by decide) ?_
          refine lv_iload hx hb dX2_markDecides_20 (lv_at hl 0 rfl) ?_
          refine lv_iconst (v := nI 2) hx hb dX2_markDecides_22 (by decide) ?_
          refine lv_icmp_gt (tgt := 92) hx hb dX2_markDecides_23 (by decide) (fun _ => ?_) (fun c101 => (c101 (by decide)).elim)
          refine lv_iconst (v := nI 0) hx hb dX2_markDecides_92 (by decide) ?_
          exact W.zret (ty := .boolean) hx hb hr rfl (fun t ht _ => ⟨_, rfl, (Or.inr ⟨by simp [pm_mc, whp3, whp66, whp82, whp98], rfl⟩), ht⟩) (fun _ h => absurd h List.not_mem_nil) dX2_markDecides_93

set_option maxHeartbeats 4000000 in
set_option maxRecDepth 100000 in
theorem k_X2_deciders (l : Launch) (D : va_G) (y : Nat → ClassId) (q : Nat → Nat) (S : Nat → Nat → Nat) (xf : Int32) (hI : pm_Inv S) : Met l yX2_deciders wsX2_deciders ({ frames := 3, cells := 0, slots := 0, locals := 68 } : Room) (pm_ro D (pm_ty y) [.ref (q 0), .int xf] (pm_shS y q S)) (vp_Si (fun r : Int32 => r = pm_dec S xf)) 0 0 (fun _ => False) := by
  refine Met.ofW (cc := cX2_deciders) (maxL := 4) (ret := (some .int)) (by decide) rfl ?_
  intro p e s m args below meth c s₁ B hml hpre
  obtain ⟨rfl, hP, hK⟩ := hpre
  have hx := B.exec
  have hb := B.bytes
  have hr := B.returns
  have hts := atoms_spec (ws := wsX2_deciders) B.pre
  have hown : s.vm.findClass RX2 = some m.cls := findClass_of_methodNamed B.named
  have hlocks := B.notSynchronized
  have hin2 : ∀ w ∈ u_ws RX2 TX2 15, w ∈ wsX2_deciders := fun w h => List.mem_cons_of_mem _ (List.mem_append_right _ h)
  have hP : va_P D vwCl (pm_shS y q S) s.heap := hP
  have hl := lv_entry ([.ref (q 0), .int xf]) (n := 4) (Nat.le_of_ble_eq_true rfl)
  rw [lg_entry_eq]
  generalize (lg_sl ([.ref (q 0), .int xf]) ++ List.replicate (4 - (lg_sl ([.ref (q 0), .int xf])).length) Slot.unset).toArray = ls at hl ⊢
  have hl : lv_has ls 4 [(0, .ref (q 0)), (1, .int xf)] := hl
  refine lv_iload_n hx hb dX2_deciders_0 rfl (lv_at hl 1 rfl) ?_
  refine vp_callSi (W.runS (As := [.int xf]) (rest := []) ⟨hx, hb, hml, hown, hts⟩ (k_X2_isFrame l xf) (va_cwS 1 hts gX2_deciders_X2_isFrame rfl rfl rfl hd_X2_isFrame ⟨Nat.le_of_ble_eq_true rfl, Nat.le_of_ble_eq_true rfl⟩) ⟨pm_no_blind, pm_no_pre⟩ rfl rfl hl.1 rfl (lv_room (Nat.le_of_ble_eq_true rfl)) dX2_deciders_1 ⟨Nat.le_of_ble_eq_true rfl, Nat.le_of_ble_eq_true rfl⟩) (fun r1 h2 => ?_)
  rcases h2 with ⟨j3, hj3, ej3, rfl⟩ | ⟨hnj3, rfl⟩
  · subst ej3
    refine lv_if_ne (tgt := 9) hx hb dX2_deciders_4 (by decide) (fun _ => ?_) (fun c4 => absurd c4 (by decide))
    refine lv_iconst (v := nI 0) hx hb dX2_deciders_9 (by decide) ?_
    refine lv_topi (fun x5 e6 => ?_)
    obtain rfl : x5 = nI (pm_ds S j3 0) := e6.trans (rfl)
    refine lv_istore_n (lv' := [(2, .int (nI (pm_ds S j3 0))), (0, .ref (q 0)), (1, .int (nI j3))]) hx hb dX2_deciders_10 rfl hl (by decide) rfl (fun ls hl => ?_)
    refine lv_iconst (v := nI 0) hx hb dX2_deciders_11 (by decide) ?_
    refine lv_istore_n (lv' := [(3, .int (nI 0)), (2, .int (nI (pm_ds S j3 0))), (0, .ref (q 0)), (1, .int (nI j3))]) hx hb dX2_deciders_12 rfl hl (by decide) rfl (fun ls hl => ?_)
    refine lv_iload_n hx hb dX2_deciders_13 rfl (lv_at hl 0 rfl) ?_
    refine lv_iconst (v := nI 3) hx hb dX2_deciders_14 (by decide) ?_
    refine lv_icmp_ge (tgt := 53) hx hb dX2_deciders_15 (by decide) (fun c7 => absurd c7 (by decide)) (fun _ => ?_)
    refine lv_iload_n hx hb dX2_deciders_18 rfl (lv_at hl 1 rfl) ?_
    refine lv_iload_n hx hb dX2_deciders_19 rfl (lv_at hl 0 rfl) ?_
    refine lv_aload_n hx hb dX2_deciders_20 rfl (lv_at hl 2 rfl) ?_
    refine va_get (D := D) (ci := 2) (v := .ref (q 2)) (C := RX2) (T := TX2) (N := 15) hx hb hts hin2 hown hK hP 0 rfl rfl 1 (by decide) (hts (.fieldLink RX2 15 "ProofMarks$Sheet" "how" "[I") (List.mem_of_getElem? (i := 1) rfl)) (fun _ h9 => h9) rfl dX2_deciders_21 ?_
    refine lv_iload_n hx hb dX2_deciders_24 rfl (lv_at hl 3 rfl) ?_
    refine kx_iald (v := nI ((S 0) j3)) hx hb hK hP 2 0 rfl rfl (by omega) (by decide) rfl dX2_deciders_25 ?_
    have := hI.how j3 (by omega)
    refine kx_if_ne (tgt := 42) hx hb (by omega) dX2_deciders_26 (by decide) (fun c8 => ?_) (fun c8 => ?_)
    · skip
      refine lv_iconst (v := nI 0) hx hb dX2_deciders_42 (by decide) ?_
      refine vp_callSi (W.runS (As := [.int (nI (pm_ds S j3 0)), .int (nI 0), .int (nI 0)]) (rest := []) ⟨hx, hb, hml, hown, hts⟩ (k_X2_withEditor l (nI (pm_ds S j3 0)) (nI 0) (nI 0)) (va_cwS 3 hts gX2_deciders_X2_withEditor rfl rfl rfl hd_X2_withEditor ⟨Nat.le_of_ble_eq_true rfl, Nat.le_of_ble_eq_true rfl⟩) ⟨pm_no_blind, pm_no_pre⟩ rfl rfl hl.1 rfl (lv_room (Nat.le_of_ble_eq_true rfl)) dX2_deciders_43 ⟨Nat.le_of_ble_eq_true rfl, Nat.le_of_ble_eq_true rfl⟩) (fun r9 h10 => ?_)
      obtain rfl : r9 = pm_we (nI (pm_ds S j3 0)) (nI 0) (nI 0) := h10
      refine lv_topi (fun x11 e12 => ?_)
      obtain rfl : x11 = nI (pm_ds S j3 1) := e12.trans ((by first | exact pm_ds_p (n := 0) (by decide) (by assumption) (by assumption) | exact pm_ds_n (n := 0) (by decide) (fun z => absurd z.1 (by assumption)) | exact pm_ds_n (n := 0) (by decide) (fun z => absurd z.2 (by assumption))))
      refine lv_istore_n (lv' := [(2, .int (nI (pm_ds S j3 1))), (3, .int (nI 0)), (0, .ref (q 0)), (1, .int (nI j3))]) hx hb dX2_deciders_46 rfl hl (by decide) rfl (fun ls hl => ?_)
      refine lv_iinc (v := nI 1) (lv' := [(3, .int (nI 1)), (2, .int (nI (pm_ds S j3 1))), (0, .ref (q 0)), (1, .int (nI j3))]) hx hb dX2_deciders_47 hl (k := 1) rfl (by decide) (by decide) rfl (fun ls hl => ?_)
      refine lv_goto (tgt := 13) hx hb dX2_deciders_50 (by decide) ?_
      refine lv_iload_n hx hb dX2_deciders_13 rfl (lv_at hl 0 rfl) ?_
      refine lv_iconst (v := nI 3) hx hb dX2_deciders_14 (by decide) ?_
      refine lv_icmp_ge (tgt := 53) hx hb dX2_deciders_15 (by decide) (fun c13 => absurd c13 (by decide)) (fun _ => ?_)
      refine lv_iload_n hx hb dX2_deciders_18 rfl (lv_at hl 1 rfl) ?_
      refine lv_iload_n hx hb dX2_deciders_19 rfl (lv_at hl 0 rfl) ?_
      refine lv_aload_n hx hb dX2_deciders_20 rfl (lv_at hl 2 rfl) ?_
      refine va_get (D := D) (ci := 2) (v := .ref (q 2)) (C := RX2) (T := TX2) (N := 15) hx hb hts hin2 hown hK hP 0 rfl rfl 1 (by decide) (hts (.fieldLink RX2 15 "ProofMarks$Sheet" "how" "[I") (List.mem_of_getElem? (i := 1) rfl)) (fun _ h9 => h9) rfl dX2_deciders_21 ?_
      refine lv_iload_n hx hb dX2_deciders_24 rfl (lv_at hl 3 rfl) ?_
      refine kx_iald (v := nI ((S 0) j3)) hx hb hK hP 2 0 rfl rfl (by omega) (by decide) rfl dX2_deciders_25 ?_
      have := hI.how j3 (by omega)
      refine kx_if_ne (tgt := 42) hx hb (by omega) dX2_deciders_26 (by decide) (fun c14 => ?_) (fun c14 => ?_)
      · skip
        refine lv_iconst (v := nI 0) hx hb dX2_deciders_42 (by decide) ?_
        refine vp_callSi (W.runS (As := [.int (nI (pm_ds S j3 1)), .int (nI 1), .int (nI 0)]) (rest := []) ⟨hx, hb, hml, hown, hts⟩ (k_X2_withEditor l (nI (pm_ds S j3 1)) (nI 1) (nI 0)) (va_cwS 3 hts gX2_deciders_X2_withEditor rfl rfl rfl hd_X2_withEditor ⟨Nat.le_of_ble_eq_true rfl, Nat.le_of_ble_eq_true rfl⟩) ⟨pm_no_blind, pm_no_pre⟩ rfl rfl hl.1 rfl (lv_room (Nat.le_of_ble_eq_true rfl)) dX2_deciders_43 ⟨Nat.le_of_ble_eq_true rfl, Nat.le_of_ble_eq_true rfl⟩) (fun r15 h16 => ?_)
        obtain rfl : r15 = pm_we (nI (pm_ds S j3 1)) (nI 1) (nI 0) := h16
        refine lv_topi (fun x17 e18 => ?_)
        obtain rfl : x17 = nI (pm_ds S j3 2) := e18.trans ((by first | exact pm_ds_p (n := 1) (by decide) (by assumption) (by assumption) | exact pm_ds_n (n := 1) (by decide) (fun z => absurd z.1 (by assumption)) | exact pm_ds_n (n := 1) (by decide) (fun z => absurd z.2 (by assumption))))
        refine lv_istore_n (lv' := [(2, .int (nI (pm_ds S j3 2))), (3, .int (nI 1)), (0, .ref (q 0)), (1, .int (nI j3))]) hx hb dX2_deciders_46 rfl hl (by decide) rfl (fun ls hl => ?_)
        refine lv_iinc (v := nI 2) (lv' := [(3, .int (nI 2)), (2, .int (nI (pm_ds S j3 2))), (0, .ref (q 0)), (1, .int (nI j3))]) hx hb dX2_deciders_47 hl (k := 1) rfl (by decide) (by decide) rfl (fun ls hl => ?_)
        refine lv_goto (tgt := 13) hx hb dX2_deciders_50 (by decide) ?_
        refine lv_iload_n hx hb dX2_deciders_13 rfl (lv_at hl 0 rfl) ?_
        refine lv_iconst (v := nI 3) hx hb dX2_deciders_14 (by decide) ?_
        refine lv_icmp_ge (tgt := 53) hx hb dX2_deciders_15 (by decide) (fun c19 => absurd c19 (by decide)) (fun _ => ?_)
        refine lv_iload_n hx hb dX2_deciders_18 rfl (lv_at hl 1 rfl) ?_
        refine lv_iload_n hx hb dX2_deciders_19 rfl (lv_at hl 0 rfl) ?_
        refine lv_aload_n hx hb dX2_deciders_20 rfl (lv_at hl 2 rfl) ?_
        refine va_get (D := D) (ci := 2) (v := .ref (q 2)) (C := RX2) (T := TX2) (N := 15) hx hb hts hin2 hown hK hP 0 rfl rfl 1 (by decide) (hts (.fieldLink RX2 15 "ProofMarks$Sheet" "how" "[I") (List.mem_of_getElem? (i := 1) rfl)) (fun _ h9 => h9) rfl dX2_deciders_21 ?_
        refine lv_iload_n hx hb dX2_deciders_24 rfl (lv_at hl 3 rfl) ?_
        refine kx_iald (v := nI ((S 0) j3)) hx hb hK hP 2 0 rfl rfl (by omega) (by decide) rfl dX2_deciders_25 ?_
        have := hI.how j3 (by omega)
        refine kx_if_ne (tgt := 42) hx hb (by omega) dX2_deciders_26 (by decide) (fun c20 => ?_) (fun c20 => ?_)
        · skip
          refine lv_iconst (v := nI 0) hx hb dX2_deciders_42 (by decide) ?_
          refine vp_callSi (W.runS (As := [.int (nI (pm_ds S j3 2)), .int (nI 2), .int (nI 0)]) (rest := []) ⟨hx, hb, hml, hown, hts⟩ (k_X2_withEditor l (nI (pm_ds S j3 2)) (nI 2) (nI 0)) (va_cwS 3 hts gX2_deciders_X2_withEditor rfl rfl rfl hd_X2_withEditor ⟨Nat.le_of_ble_eq_true rfl, Nat.le_of_ble_eq_true rfl⟩) ⟨pm_no_blind, pm_no_pre⟩ rfl rfl hl.1 rfl (lv_room (Nat.le_of_ble_eq_true rfl)) dX2_deciders_43 ⟨Nat.le_of_ble_eq_true rfl, Nat.le_of_ble_eq_true rfl⟩) (fun r21 h22 => ?_)
          obtain rfl : r21 = pm_we (nI (pm_ds S j3 2)) (nI 2) (nI 0) := h22
          refine lv_topi (fun x23 e24 => ?_)
          obtain rfl : x23 = nI (pm_ds S j3 3) := e24.trans ((by first | exact pm_ds_p (n := 2) (by decide) (by assumption) (by assumption) | exact pm_ds_n (n := 2) (by decide) (fun z => absurd z.1 (by assumption)) | exact pm_ds_n (n := 2) (by decide) (fun z => absurd z.2 (by assumption))))
          refine lv_istore_n (lv' := [(2, .int (nI (pm_ds S j3 3))), (3, .int (nI 2)), (0, .ref (q 0)), (1, .int (nI j3))]) hx hb dX2_deciders_46 rfl hl (by decide) rfl (fun ls hl => ?_)
          refine lv_iinc (v := nI 3) (lv' := [(3, .int (nI 3)), (2, .int (nI (pm_ds S j3 3))), (0, .ref (q 0)), (1, .int (nI j3))]) hx hb dX2_deciders_47 hl (k := 1) rfl (by decide) (by decide) rfl (fun ls hl => ?_)
          refine lv_goto (tgt := 13) hx hb dX2_deciders_50 (by decide) ?_
          refine lv_iload_n hx hb dX2_deciders_13 rfl (lv_at hl 0 rfl) ?_
          refine lv_iconst (v := nI 3) hx hb dX2_deciders_14 (by decide) ?_
          refine lv_icmp_ge (tgt := 53) hx hb dX2_deciders_15 (by decide) (fun _ => ?_) (fun c25 => (c25 (by decide)).elim)
          refine lv_iload_n hx hb dX2_deciders_53 rfl (lv_at hl 1 rfl) ?_
          exact W.iret hx hb hr (fun t ht _ => ⟨_, rfl, (by simp only [pm_dec, pm_ix_in hj3 (show (30 : Nat) < 2 ^ 31 by decide)]), ht⟩) (fun _ h => absurd h List.not_mem_nil) dX2_deciders_54
        · skip
          refine lv_aload_n hx hb dX2_deciders_29 rfl (lv_at hl 2 rfl) ?_
          refine lv_iload_n hx hb dX2_deciders_30 rfl (lv_at hl 0 rfl) ?_
          refine lv_iload_n hx hb dX2_deciders_31 rfl (lv_at hl 3 rfl) ?_
          refine vp_callSi (W.runV (As := [.int (nI 2), .int (nI j3)]) (rest := [.int (nI 2), .int (nI (pm_ds S j3 2))]) ⟨hx, hb, hml, hown, hts⟩ (k_X2_markDecides l D y q S 2 j3 hI (by omega) (by omega)) (cwV 2 hts gX2_deciders_X2_markDecides rfl rfl rfl hd_X2_markDecides ⟨Nat.le_of_ble_eq_true rfl, Nat.le_of_ble_eq_true rfl⟩) ⟨pm_ro_blind, va_recv hK hP (ci := 2) (q0 := 0) rfl rfl, pm_ro_pre hP hK⟩ rfl rfl hl.1 rfl (lv_room (Nat.le_of_ble_eq_true rfl)) dX2_deciders_32 ⟨Nat.le_of_ble_eq_true rfl, Nat.le_of_ble_eq_true rfl⟩) (fun r26 h27 => ?_)
          rcases (show ((pm_mc (S 9 0) (S 4 j3) 2 3 = true) ∧ r26 = nI 1) ∨ (¬ (pm_mc (S 9 0) (S 4 j3) 2 3 = true) ∧ r26 = nI 0) from h27) with ⟨hp28, rfl⟩ | ⟨hp28, rfl⟩
          · skip
            refine lv_if_eq (tgt := 42) hx hb dX2_deciders_35 (by decide) (fun c29 => absurd c29 (by decide)) (fun _ => ?_)
            refine lv_iconst (v := nI 1) hx hb dX2_deciders_38 (by decide) ?_
            refine lv_goto (tgt := 43) hx hb dX2_deciders_39 (by decide) ?_
            refine vp_callSi (W.runS (As := [.int (nI (pm_ds S j3 2)), .int (nI 2), .int (nI 1)]) (rest := []) ⟨hx, hb, hml, hown, hts⟩ (k_X2_withEditor l (nI (pm_ds S j3 2)) (nI 2) (nI 1)) (va_cwS 3 hts gX2_deciders_X2_withEditor rfl rfl rfl hd_X2_withEditor ⟨Nat.le_of_ble_eq_true rfl, Nat.le_of_ble_eq_true rfl⟩) ⟨pm_no_blind, pm_no_pre⟩ rfl rfl hl.1 rfl (lv_room (Nat.le_of_ble_eq_true rfl)) dX2_deciders_43 ⟨Nat.le_of_ble_eq_true rfl, Nat.le_of_ble_eq_true rfl⟩) (fun r30 h31 => ?_)
            obtain rfl : r30 = pm_we (nI (pm_ds S j3 2)) (nI 2) (nI 1) := h31
            refine lv_topi (fun x32 e33 => ?_)
            obtain rfl : x32 = nI (pm_ds S j3 3) := e33.trans ((by first | exact pm_ds_p (n := 2) (by decide) (by assumption) (by assumption) | exact pm_ds_n (n := 2) (by decide) (fun z => absurd z.1 (by assumption)) | exact pm_ds_n (n := 2) (by decide) (fun z => absurd z.2 (by assumption))))
            refine lv_istore_n (lv' := [(2, .int (nI (pm_ds S j3 3))), (3, .int (nI 2)), (0, .ref (q 0)), (1, .int (nI j3))]) hx hb dX2_deciders_46 rfl hl (by decide) rfl (fun ls hl => ?_)
            refine lv_iinc (v := nI 3) (lv' := [(3, .int (nI 3)), (2, .int (nI (pm_ds S j3 3))), (0, .ref (q 0)), (1, .int (nI j3))]) hx hb dX2_deciders_47 hl (k := 1) rfl (by decide) (by decide) rfl (fun ls hl => ?_)
            refine lv_goto (tgt := 13) hx hb dX2_deciders_50 (by decide) ?_
            refine lv_iload_n hx hb dX2_deciders_13 rfl (lv_at hl 0 rfl) ?_
            refine lv_iconst (v := nI 3) hx hb dX2_deciders_14 (by decide) ?_
            refine lv_icmp_ge (tgt := 53) hx hb dX2_deciders_15 (by decide) (fun _ => ?_) (fun c34 => (c34 (by decide)).elim)
            refine lv_iload_n hx hb dX2_deciders_53 rfl (lv_at hl 1 rfl) ?_
            exact W.iret hx hb hr (fun t ht _ => ⟨_, rfl, (by simp only [pm_dec, pm_ix_in hj3 (show (30 : Nat) < 2 ^ 31 by decide)]), ht⟩) (fun _ h => absurd h List.not_mem_nil) dX2_deciders_54
          · skip
            refine lv_if_eq (tgt := 42) hx hb dX2_deciders_35 (by decide) (fun _ => ?_) (fun c35 => (c35 (by decide)).elim)
            refine lv_iconst (v := nI 0) hx hb dX2_deciders_42 (by decide) ?_
            refine vp_callSi (W.runS (As := [.int (nI (pm_ds S j3 2)), .int (nI 2), .int (nI 0)]) (rest := []) ⟨hx, hb, hml, hown, hts⟩ (k_X2_withEditor l (nI (pm_ds S j3 2)) (nI 2) (nI 0)) (va_cwS 3 hts gX2_deciders_X2_withEditor rfl rfl rfl hd_X2_withEditor ⟨Nat.le_of_ble_eq_true rfl, Nat.le_of_ble_eq_true rfl⟩) ⟨pm_no_blind, pm_no_pre⟩ rfl rfl hl.1 rfl (lv_room (Nat.le_of_ble_eq_true rfl)) dX2_deciders_43 ⟨Nat.le_of_ble_eq_true rfl, Nat.le_of_ble_eq_true rfl⟩) (fun r36 h37 => ?_)
            obtain rfl : r36 = pm_we (nI (pm_ds S j3 2)) (nI 2) (nI 0) := h37
            refine lv_topi (fun x38 e39 => ?_)
            obtain rfl : x38 = nI (pm_ds S j3 3) := e39.trans ((by first | exact pm_ds_p (n := 2) (by decide) (by assumption) (by assumption) | exact pm_ds_n (n := 2) (by decide) (fun z => absurd z.1 (by assumption)) | exact pm_ds_n (n := 2) (by decide) (fun z => absurd z.2 (by assumption))))
            refine lv_istore_n (lv' := [(2, .int (nI (pm_ds S j3 3))), (3, .int (nI 2)), (0, .ref (q 0)), (1, .int (nI j3))]) hx hb dX2_deciders_46 rfl hl (by decide) rfl (fun ls hl => ?_)
            refine lv_iinc (v := nI 3) (lv' := [(3, .int (nI 3)), (2, .int (nI (pm_ds S j3 3))), (0, .ref (q 0)), (1, .int (nI j3))]) hx hb dX2_deciders_47 hl (k := 1) rfl (by decide) (by decide) rfl (fun ls hl => ?_)
            refine lv_goto (tgt := 13) hx hb dX2_deciders_50 (by decide) ?_
            refine lv_iload_n hx hb dX2_deciders_13 rfl (lv_at hl 0 rfl) ?_
            refine lv_iconst (v := nI 3) hx hb dX2_deciders_14 (by decide) ?_
            refine lv_icmp_ge (tgt := 53) hx hb dX2_deciders_15 (by decide) (fun _ => ?_) (fun c40 => (c40 (by decide)).elim)
            refine lv_iload_n hx hb dX2_deciders_53 rfl (lv_at hl 1 rfl) ?_
            exact W.iret hx hb hr (fun t ht _ => ⟨_, rfl, (by simp only [pm_dec, pm_ix_in hj3 (show (30 : Nat) < 2 ^ 31 by decide)]), ht⟩) (fun _ h => absurd h List.not_mem_nil) dX2_deciders_54
      · skip
        refine lv_aload_n hx hb dX2_deciders_29 rfl (lv_at hl 2 rfl) ?_
        refine lv_iload_n hx hb dX2_deciders_30 rfl (lv_at hl 0 rfl) ?_
        refine lv_iload_n hx hb dX2_deciders_31 rfl (lv_at hl 3 rfl) ?_
        refine vp_callSi (W.runV (As := [.int (nI 1), .int (nI j3)]) (rest := [.int (nI 1), .int (nI (pm_ds S j3 1))]) ⟨hx, hb, hml, hown, hts⟩ (k_X2_markDecides l D y q S 1 j3 hI (by omega) (by omega)) (cwV 2 hts gX2_deciders_X2_markDecides rfl rfl rfl hd_X2_markDecides ⟨Nat.le_of_ble_eq_true rfl, Nat.le_of_ble_eq_true rfl⟩) ⟨pm_ro_blind, va_recv hK hP (ci := 2) (q0 := 0) rfl rfl, pm_ro_pre hP hK⟩ rfl rfl hl.1 rfl (lv_room (Nat.le_of_ble_eq_true rfl)) dX2_deciders_32 ⟨Nat.le_of_ble_eq_true rfl, Nat.le_of_ble_eq_true rfl⟩) (fun r41 h42 => ?_)
        rcases (show ((pm_mc (S 9 0) (S 4 j3) 1 3 = true) ∧ r41 = nI 1) ∨ (¬ (pm_mc (S 9 0) (S 4 j3) 1 3 = true) ∧ r41 = nI 0) from h42) with ⟨hp43, rfl⟩ | ⟨hp43, rfl⟩
        · skip
          refine lv_if_eq (tgt := 42) hx hb dX2_deciders_35 (by decide) (fun c44 => absurd c44 (by decide)) (fun _ => ?_)
          refine lv_iconst (v := nI 1) hx hb dX2_deciders_38 (by decide) ?_
          refine lv_goto (tgt := 43) hx hb dX2_deciders_39 (by decide) ?_
          refine vp_callSi (W.runS (As := [.int (nI (pm_ds S j3 1)), .int (nI 1), .int (nI 1)]) (rest := []) ⟨hx, hb, hml, hown, hts⟩ (k_X2_withEditor l (nI (pm_ds S j3 1)) (nI 1) (nI 1)) (va_cwS 3 hts gX2_deciders_X2_withEditor rfl rfl rfl hd_X2_withEditor ⟨Nat.le_of_ble_eq_true rfl, Nat.le_of_ble_eq_true rfl⟩) ⟨pm_no_blind, pm_no_pre⟩ rfl rfl hl.1 rfl (lv_room (Nat.le_of_ble_eq_true rfl)) dX2_deciders_43 ⟨Nat.le_of_ble_eq_true rfl, Nat.le_of_ble_eq_true rfl⟩) (fun r45 h46 => ?_)
          obtain rfl : r45 = pm_we (nI (pm_ds S j3 1)) (nI 1) (nI 1) := h46
          refine lv_topi (fun x47 e48 => ?_)
          obtain rfl : x47 = nI (pm_ds S j3 2) := e48.trans ((by first | exact pm_ds_p (n := 1) (by decide) (by assumption) (by assumption) | exact pm_ds_n (n := 1) (by decide) (fun z => absurd z.1 (by assumption)) | exact pm_ds_n (n := 1) (by decide) (fun z => absurd z.2 (by assumption))))
          refine lv_istore_n (lv' := [(2, .int (nI (pm_ds S j3 2))), (3, .int (nI 1)), (0, .ref (q 0)), (1, .int (nI j3))]) hx hb dX2_deciders_46 rfl hl (by decide) rfl (fun ls hl => ?_)
          refine lv_iinc (v := nI 2) (lv' := [(3, .int (nI 2)), (2, .int (nI (pm_ds S j3 2))), (0, .ref (q 0)), (1, .int (nI j3))]) hx hb dX2_deciders_47 hl (k := 1) rfl (by decide) (by decide) rfl (fun ls hl => ?_)
          refine lv_goto (tgt := 13) hx hb dX2_deciders_50 (by decide) ?_
          refine lv_iload_n hx hb dX2_deciders_13 rfl (lv_at hl 0 rfl) ?_
          refine lv_iconst (v := nI 3) hx hb dX2_deciders_14 (by decide) ?_
          refine lv_icmp_ge (tgt := 53) hx hb dX2_deciders_15 (by decide) (fun c49 => absurd c49 (by decide)) (fun _ => ?_)
          refine lv_iload_n hx hb dX2_deciders_18 rfl (lv_at hl 1 rfl) ?_
          refine lv_iload_n hx hb dX2_deciders_19 rfl (lv_at hl 0 rfl) ?_
          refine lv_aload_n hx hb dX2_deciders_20 rfl (lv_at hl 2 rfl) ?_
          refine va_get (D := D) (ci := 2) (v := .ref (q 2)) (C := RX2) (T := TX2) (N := 15) hx hb hts hin2 hown hK hP 0 rfl rfl 1 (by decide) (hts (.fieldLink RX2 15 "ProofMarks$Sheet" "how" "[I") (List.mem_of_getElem? (i := 1) rfl)) (fun _ h9 => h9) rfl dX2_deciders_21 ?_
          refine lv_iload_n hx hb dX2_deciders_24 rfl (lv_at hl 3 rfl) ?_
          refine kx_iald (v := nI ((S 0) j3)) hx hb hK hP 2 0 rfl rfl (by omega) (by decide) rfl dX2_deciders_25 ?_
          have := hI.how j3 (by omega)
          refine kx_if_ne (tgt := 42) hx hb (by omega) dX2_deciders_26 (by decide) (fun c50 => ?_) (fun c50 => ?_)
          · skip
            refine lv_iconst (v := nI 0) hx hb dX2_deciders_42 (by decide) ?_
            refine vp_callSi (W.runS (As := [.int (nI (pm_ds S j3 2)), .int (nI 2), .int (nI 0)]) (rest := []) ⟨hx, hb, hml, hown, hts⟩ (k_X2_withEditor l (nI (pm_ds S j3 2)) (nI 2) (nI 0)) (va_cwS 3 hts gX2_deciders_X2_withEditor rfl rfl rfl hd_X2_withEditor ⟨Nat.le_of_ble_eq_true rfl, Nat.le_of_ble_eq_true rfl⟩) ⟨pm_no_blind, pm_no_pre⟩ rfl rfl hl.1 rfl (lv_room (Nat.le_of_ble_eq_true rfl)) dX2_deciders_43 ⟨Nat.le_of_ble_eq_true rfl, Nat.le_of_ble_eq_true rfl⟩) (fun r51 h52 => ?_)
            obtain rfl : r51 = pm_we (nI (pm_ds S j3 2)) (nI 2) (nI 0) := h52
            refine lv_topi (fun x53 e54 => ?_)
            obtain rfl : x53 = nI (pm_ds S j3 3) := e54.trans ((by first | exact pm_ds_p (n := 2) (by decide) (by assumption) (by assumption) | exact pm_ds_n (n := 2) (by decide) (fun z => absurd z.1 (by assumption)) | exact pm_ds_n (n := 2) (by decide) (fun z => absurd z.2 (by assumption))))
            refine lv_istore_n (lv' := [(2, .int (nI (pm_ds S j3 3))), (3, .int (nI 2)), (0, .ref (q 0)), (1, .int (nI j3))]) hx hb dX2_deciders_46 rfl hl (by decide) rfl (fun ls hl => ?_)
            refine lv_iinc (v := nI 3) (lv' := [(3, .int (nI 3)), (2, .int (nI (pm_ds S j3 3))), (0, .ref (q 0)), (1, .int (nI j3))]) hx hb dX2_deciders_47 hl (k := 1) rfl (by decide) (by decide) rfl (fun ls hl => ?_)
            refine lv_goto (tgt := 13) hx hb dX2_deciders_50 (by decide) ?_
            refine lv_iload_n hx hb dX2_deciders_13 rfl (lv_at hl 0 rfl) ?_
            refine lv_iconst (v := nI 3) hx hb dX2_deciders_14 (by decide) ?_
            refine lv_icmp_ge (tgt := 53) hx hb dX2_deciders_15 (by decide) (fun _ => ?_) (fun c55 => (c55 (by decide)).elim)
            refine lv_iload_n hx hb dX2_deciders_53 rfl (lv_at hl 1 rfl) ?_
            exact W.iret hx hb hr (fun t ht _ => ⟨_, rfl, (by simp only [pm_dec, pm_ix_in hj3 (show (30 : Nat) < 2 ^ 31 by decide)]), ht⟩) (fun _ h => absurd h List.not_mem_nil) dX2_deciders_54
          · skip
            refine lv_aload_n hx hb dX2_deciders_29 rfl (lv_at hl 2 rfl) ?_
            refine lv_iload_n hx hb dX2_deciders_30 rfl (lv_at hl 0 rfl) ?_
            refine lv_iload_n hx hb dX2_deciders_31 rfl (lv_at hl 3 rfl) ?_
            refine vp_callSi (W.runV (As := [.int (nI 2), .int (nI j3)]) (rest := [.int (nI 2), .int (nI (pm_ds S j3 2))]) ⟨hx, hb, hml, hown, hts⟩ (k_X2_markDecides l D y q S 2 j3 hI (by omega) (by omega)) (cwV 2 hts gX2_deciders_X2_markDecides rfl rfl rfl hd_X2_markDecides ⟨Nat.le_of_ble_eq_true rfl, Nat.le_of_ble_eq_true rfl⟩) ⟨pm_ro_blind, va_recv hK hP (ci := 2) (q0 := 0) rfl rfl, pm_ro_pre hP hK⟩ rfl rfl hl.1 rfl (lv_room (Nat.le_of_ble_eq_true rfl)) dX2_deciders_32 ⟨Nat.le_of_ble_eq_true rfl, Nat.le_of_ble_eq_true rfl⟩) (fun r56 h57 => ?_)
            rcases (show ((pm_mc (S 9 0) (S 4 j3) 2 3 = true) ∧ r56 = nI 1) ∨ (¬ (pm_mc (S 9 0) (S 4 j3) 2 3 = true) ∧ r56 = nI 0) from h57) with ⟨hp58, rfl⟩ | ⟨hp58, rfl⟩
            · skip
              refine lv_if_eq (tgt := 42) hx hb dX2_deciders_35 (by decide) (fun c59 => absurd c59 (by decide)) (fun _ => ?_)
              refine lv_iconst (v := nI 1) hx hb dX2_deciders_38 (by decide) ?_
              refine lv_goto (tgt := 43) hx hb dX2_deciders_39 (by decide) ?_
              refine vp_callSi (W.runS (As := [.int (nI (pm_ds S j3 2)), .int (nI 2), .int (nI 1)]) (rest := []) ⟨hx, hb, hml, hown, hts⟩ (k_X2_withEditor l (nI (pm_ds S j3 2)) (nI 2) (nI 1)) (va_cwS 3 hts gX2_deciders_X2_withEditor rfl rfl rfl hd_X2_withEditor ⟨Nat.le_of_ble_eq_true rfl, Nat.le_of_ble_eq_true rfl⟩) ⟨pm_no_blind, pm_no_pre⟩ rfl rfl hl.1 rfl (lv_room (Nat.le_of_ble_eq_true rfl)) dX2_deciders_43 ⟨Nat.le_of_ble_eq_true rfl, Nat.le_of_ble_eq_true rfl⟩) (fun r60 h61 => ?_)
              obtain rfl : r60 = pm_we (nI (pm_ds S j3 2)) (nI 2) (nI 1) := h61
              refine lv_topi (fun x62 e63 => ?_)
              obtain rfl : x62 = nI (pm_ds S j3 3) := e63.trans ((by first | exact pm_ds_p (n := 2) (by decide) (by assumption) (by assumption) | exact pm_ds_n (n := 2) (by decide) (fun z => absurd z.1 (by assumption)) | exact pm_ds_n (n := 2) (by decide) (fun z => absurd z.2 (by assumption))))
              refine lv_istore_n (lv' := [(2, .int (nI (pm_ds S j3 3))), (3, .int (nI 2)), (0, .ref (q 0)), (1, .int (nI j3))]) hx hb dX2_deciders_46 rfl hl (by decide) rfl (fun ls hl => ?_)
              refine lv_iinc (v := nI 3) (lv' := [(3, .int (nI 3)), (2, .int (nI (pm_ds S j3 3))), (0, .ref (q 0)), (1, .int (nI j3))]) hx hb dX2_deciders_47 hl (k := 1) rfl (by decide) (by decide) rfl (fun ls hl => ?_)
              refine lv_goto (tgt := 13) hx hb dX2_deciders_50 (by decide) ?_
              refine lv_iload_n hx hb dX2_deciders_13 rfl (lv_at hl 0 rfl) ?_
              refine lv_iconst (v := nI 3) hx hb dX2_deciders_14 (by decide) ?_
              refine lv_icmp_ge (tgt := 53) hx hb dX2_deciders_15 (by decide) (fun _ => ?_) (fun c64 => (c64 (by decide)).elim)
              refine lv_iload_n hx hb dX2_deciders_53 rfl (lv_at hl 1 rfl) ?_
              exact W.iret hx hb hr (fun t ht _ => ⟨_, rfl, (by simp only [pm_dec, pm_ix_in hj3 (show (30 : Nat) < 2 ^ 31 by decide)]), ht⟩) (fun _ h => absurd h List.not_mem_nil) dX2_deciders_54
            · skip
              refine lv_if_eq (tgt := 42) hx hb dX2_deciders_35 (by decide) (fun _ => ?_) (fun c65 => (c65 (by decide)).elim)
              refine lv_iconst (v := nI 0) hx hb dX2_deciders_42 (by decide) ?_
              refine vp_callSi (W.runS (As := [.int (nI (pm_ds S j3 2)), .int (nI 2), .int (nI 0)]) (rest := []) ⟨hx, hb, hml, hown, hts⟩ (k_X2_withEditor l (nI (pm_ds S j3 2)) (nI 2) (nI 0)) (va_cwS 3 hts gX2_deciders_X2_withEditor rfl rfl rfl hd_X2_withEditor ⟨Nat.le_of_ble_eq_true rfl, Nat.le_of_ble_eq_true rfl⟩) ⟨pm_no_blind, pm_no_pre⟩ rfl rfl hl.1 rfl (lv_room (Nat.le_of_ble_eq_true rfl)) dX2_deciders_43 ⟨Nat.le_of_ble_eq_true rfl, Nat.le_of_ble_eq_true rfl⟩) (fun r66 h67 => ?_)
              obtain rfl : r66 = pm_we (nI (pm_ds S j3 2)) (nI 2) (nI 0) := h67
              refine lv_topi (fun x68 e69 => ?_)
              obtain rfl : x68 = nI (pm_ds S j3 3) := e69.trans ((by first | exact pm_ds_p (n := 2) (by decide) (by assumption) (by assumption) | exact pm_ds_n (n := 2) (by decide) (fun z => absurd z.1 (by assumption)) | exact pm_ds_n (n := 2) (by decide) (fun z => absurd z.2 (by assumption))))
              refine lv_istore_n (lv' := [(2, .int (nI (pm_ds S j3 3))), (3, .int (nI 2)), (0, .ref (q 0)), (1, .int (nI j3))]) hx hb dX2_deciders_46 rfl hl (by decide) rfl (fun ls hl => ?_)
              refine lv_iinc (v := nI 3) (lv' := [(3, .int (nI 3)), (2, .int (nI (pm_ds S j3 3))), (0, .ref (q 0)), (1, .int (nI j3))]) hx hb dX2_deciders_47 hl (k := 1) rfl (by decide) (by decide) rfl (fun ls hl => ?_)
              refine lv_goto (tgt := 13) hx hb dX2_deciders_50 (by decide) ?_
              refine lv_iload_n hx hb dX2_deciders_13 rfl (lv_at hl 0 rfl) ?_
              refine lv_iconst (v := nI 3) hx hb dX2_deciders_14 (by decide) ?_
              refine lv_icmp_ge (tgt := 53) hx hb dX2_deciders_15 (by decide) (fun _ => ?_) (fun c70 => (c70 (by decide)).elim)
              refine lv_iload_n hx hb dX2_deciders_53 rfl (lv_at hl 1 rfl) ?_
              exact W.iret hx hb hr (fun t ht _ => ⟨_, rfl, (by simp only [pm_dec, pm_ix_in hj3 (show (30 : Nat) < 2 ^ 31 by decide)]), ht⟩) (fun _ h => absurd h List.not_mem_nil) dX2_deciders_54
        · skip
          refine lv_if_eq (tgt := 42) hx hb dX2_deciders_35 (by decide) (fun _ => ?_) (fun c71 => (c71 (by decide)).elim)
          refine lv_iconst (v := nI 0) hx hb dX2_deciders_42 (by decide) ?_
          refine vp_callSi (W.runS (As := [.int (nI (pm_ds S j3 1)), .int (nI 1), .int (nI 0)]) (rest := []) ⟨hx, hb, hml, hown, hts⟩ (k_X2_withEditor l (nI (pm_ds S j3 1)) (nI 1) (nI 0)) (va_cwS 3 hts gX2_deciders_X2_withEditor rfl rfl rfl hd_X2_withEditor ⟨Nat.le_of_ble_eq_true rfl, Nat.le_of_ble_eq_true rfl⟩) ⟨pm_no_blind, pm_no_pre⟩ rfl rfl hl.1 rfl (lv_room (Nat.le_of_ble_eq_true rfl)) dX2_deciders_43 ⟨Nat.le_of_ble_eq_true rfl, Nat.le_of_ble_eq_true rfl⟩) (fun r72 h73 => ?_)
          obtain rfl : r72 = pm_we (nI (pm_ds S j3 1)) (nI 1) (nI 0) := h73
          refine lv_topi (fun x74 e75 => ?_)
          obtain rfl : x74 = nI (pm_ds S j3 2) := e75.trans ((by first | exact pm_ds_p (n := 1) (by decide) (by assumption) (by assumption) | exact pm_ds_n (n := 1) (by decide) (fun z => absurd z.1 (by assumption)) | exact pm_ds_n (n := 1) (by decide) (fun z => absurd z.2 (by assumption))))
          refine lv_istore_n (lv' := [(2, .int (nI (pm_ds S j3 2))), (3, .int (nI 1)), (0, .ref (q 0)), (1, .int (nI j3))]) hx hb dX2_deciders_46 rfl hl (by decide) rfl (fun ls hl => ?_)
          refine lv_iinc (v := nI 2) (lv' := [(3, .int (nI 2)), (2, .int (nI (pm_ds S j3 2))), (0, .ref (q 0)), (1, .int (nI j3))]) hx hb dX2_deciders_47 hl (k := 1) rfl (by decide) (by decide) rfl (fun ls hl => ?_)
          refine lv_goto (tgt := 13) hx hb dX2_deciders_50 (by decide) ?_
          refine lv_iload_n hx hb dX2_deciders_13 rfl (lv_at hl 0 rfl) ?_
          refine lv_iconst (v := nI 3) hx hb dX2_deciders_14 (by decide) ?_
          refine lv_icmp_ge (tgt := 53) hx hb dX2_deciders_15 (by decide) (fun c76 => absurd c76 (by decide)) (fun _ => ?_)
          refine lv_iload_n hx hb dX2_deciders_18 rfl (lv_at hl 1 rfl) ?_
          refine lv_iload_n hx hb dX2_deciders_19 rfl (lv_at hl 0 rfl) ?_
          refine lv_aload_n hx hb dX2_deciders_20 rfl (lv_at hl 2 rfl) ?_
          refine va_get (D := D) (ci := 2) (v := .ref (q 2)) (C := RX2) (T := TX2) (N := 15) hx hb hts hin2 hown hK hP 0 rfl rfl 1 (by decide) (hts (.fieldLink RX2 15 "ProofMarks$Sheet" "how" "[I") (List.mem_of_getElem? (i := 1) rfl)) (fun _ h9 => h9) rfl dX2_deciders_21 ?_
          refine lv_iload_n hx hb dX2_deciders_24 rfl (lv_at hl 3 rfl) ?_
          refine kx_iald (v := nI ((S 0) j3)) hx hb hK hP 2 0 rfl rfl (by omega) (by decide) rfl dX2_deciders_25 ?_
          have := hI.how j3 (by omega)
          refine kx_if_ne (tgt := 42) hx hb (by omega) dX2_deciders_26 (by decide) (fun c77 => ?_) (fun c77 => ?_)
          · skip
            refine lv_iconst (v := nI 0) hx hb dX2_deciders_42 (by decide) ?_
            refine vp_callSi (W.runS (As := [.int (nI (pm_ds S j3 2)), .int (nI 2), .int (nI 0)]) (rest := []) ⟨hx, hb, hml, hown, hts⟩ (k_X2_withEditor l (nI (pm_ds S j3 2)) (nI 2) (nI 0)) (va_cwS 3 hts gX2_deciders_X2_withEditor rfl rfl rfl hd_X2_withEditor ⟨Nat.le_of_ble_eq_true rfl, Nat.le_of_ble_eq_true rfl⟩) ⟨pm_no_blind, pm_no_pre⟩ rfl rfl hl.1 rfl (lv_room (Nat.le_of_ble_eq_true rfl)) dX2_deciders_43 ⟨Nat.le_of_ble_eq_true rfl, Nat.le_of_ble_eq_true rfl⟩) (fun r78 h79 => ?_)
            obtain rfl : r78 = pm_we (nI (pm_ds S j3 2)) (nI 2) (nI 0) := h79
            refine lv_topi (fun x80 e81 => ?_)
            obtain rfl : x80 = nI (pm_ds S j3 3) := e81.trans ((by first | exact pm_ds_p (n := 2) (by decide) (by assumption) (by assumption) | exact pm_ds_n (n := 2) (by decide) (fun z => absurd z.1 (by assumption)) | exact pm_ds_n (n := 2) (by decide) (fun z => absurd z.2 (by assumption))))
            refine lv_istore_n (lv' := [(2, .int (nI (pm_ds S j3 3))), (3, .int (nI 2)), (0, .ref (q 0)), (1, .int (nI j3))]) hx hb dX2_deciders_46 rfl hl (by decide) rfl (fun ls hl => ?_)
            refine lv_iinc (v := nI 3) (lv' := [(3, .int (nI 3)), (2, .int (nI (pm_ds S j3 3))), (0, .ref (q 0)), (1, .int (nI j3))]) hx hb dX2_deciders_47 hl (k := 1) rfl (by decide) (by decide) rfl (fun ls hl => ?_)
            refine lv_goto (tgt := 13) hx hb dX2_deciders_50 (by decide) ?_
            refine lv_iload_n hx hb dX2_deciders_13 rfl (lv_at hl 0 rfl) ?_
            refine lv_iconst (v := nI 3) hx hb dX2_deciders_14 (by decide) ?_
            refine lv_icmp_ge (tgt := 53) hx hb dX2_deciders_15 (by decide) (fun _ => ?_) (fun c82 => (c82 (by decide)).elim)
            refine lv_iload_n hx hb dX2_deciders_53 rfl (lv_at hl 1 rfl) ?_
            exact W.iret hx hb hr (fun t ht _ => ⟨_, rfl, (by simp only [pm_dec, pm_ix_in hj3 (show (30 : Nat) < 2 ^ 31 by decide)]), ht⟩) (fun _ h => absurd h List.not_mem_nil) dX2_deciders_54
          · skip
            refine lv_aload_n hx hb dX2_deciders_29 rfl (lv_at hl 2 rfl) ?_
            refine lv_iload_n hx hb dX2_deciders_30 rfl (lv_at hl 0 rfl) ?_
            refine lv_iload_n hx hb dX2_deciders_31 rfl (lv_at hl 3 rfl) ?_
            refine vp_callSi (W.runV (As := [.int (nI 2), .int (nI j3)]) (rest := [.int (nI 2), .int (nI (pm_ds S j3 2))]) ⟨hx, hb, hml, hown, hts⟩ (k_X2_markDecides l D y q S 2 j3 hI (by omega) (by omega)) (cwV 2 hts gX2_deciders_X2_markDecides rfl rfl rfl hd_X2_markDecides ⟨Nat.le_of_ble_eq_true rfl, Nat.le_of_ble_eq_true rfl⟩) ⟨pm_ro_blind, va_recv hK hP (ci := 2) (q0 := 0) rfl rfl, pm_ro_pre hP hK⟩ rfl rfl hl.1 rfl (lv_room (Nat.le_of_ble_eq_true rfl)) dX2_deciders_32 ⟨Nat.le_of_ble_eq_true rfl, Nat.le_of_ble_eq_true rfl⟩) (fun r83 h84 => ?_)
            rcases (show ((pm_mc (S 9 0) (S 4 j3) 2 3 = true) ∧ r83 = nI 1) ∨ (¬ (pm_mc (S 9 0) (S 4 j3) 2 3 = true) ∧ r83 = nI 0) from h84) with ⟨hp85, rfl⟩ | ⟨hp85, rfl⟩
            · skip
              refine lv_if_eq (tgt := 42) hx hb dX2_deciders_35 (by decide) (fun c86 => absurd c86 (by decide)) (fun _ => ?_)
              refine lv_iconst (v := nI 1) hx hb dX2_deciders_38 (by decide) ?_
              refine lv_goto (tgt := 43) hx hb dX2_deciders_39 (by decide) ?_
              refine vp_callSi (W.runS (As := [.int (nI (pm_ds S j3 2)), .int (nI 2), .int (nI 1)]) (rest := []) ⟨hx, hb, hml, hown, hts⟩ (k_X2_withEditor l (nI (pm_ds S j3 2)) (nI 2) (nI 1)) (va_cwS 3 hts gX2_deciders_X2_withEditor rfl rfl rfl hd_X2_withEditor ⟨Nat.le_of_ble_eq_true rfl, Nat.le_of_ble_eq_true rfl⟩) ⟨pm_no_blind, pm_no_pre⟩ rfl rfl hl.1 rfl (lv_room (Nat.le_of_ble_eq_true rfl)) dX2_deciders_43 ⟨Nat.le_of_ble_eq_true rfl, Nat.le_of_ble_eq_true rfl⟩) (fun r87 h88 => ?_)
              obtain rfl : r87 = pm_we (nI (pm_ds S j3 2)) (nI 2) (nI 1) := h88
              refine lv_topi (fun x89 e90 => ?_)
              obtain rfl : x89 = nI (pm_ds S j3 3) := e90.trans ((by first | exact pm_ds_p (n := 2) (by decide) (by assumption) (by assumption) | exact pm_ds_n (n := 2) (by decide) (fun z => absurd z.1 (by assumption)) | exact pm_ds_n (n := 2) (by decide) (fun z => absurd z.2 (by assumption))))
              refine lv_istore_n (lv' := [(2, .int (nI (pm_ds S j3 3))), (3, .int (nI 2)), (0, .ref (q 0)), (1, .int (nI j3))]) hx hb dX2_deciders_46 rfl hl (by decide) rfl (fun ls hl => ?_)
              refine lv_iinc (v := nI 3) (lv' := [(3, .int (nI 3)), (2, .int (nI (pm_ds S j3 3))), (0, .ref (q 0)), (1, .int (nI j3))]) hx hb dX2_deciders_47 hl (k := 1) rfl (by decide) (by decide) rfl (fun ls hl => ?_)
              refine lv_goto (tgt := 13) hx hb dX2_deciders_50 (by decide) ?_
              refine lv_iload_n hx hb dX2_deciders_13 rfl (lv_at hl 0 rfl) ?_
              refine lv_iconst (v := nI 3) hx hb dX2_deciders_14 (by decide) ?_
              refine lv_icmp_ge (tgt := 53) hx hb dX2_deciders_15 (by decide) (fun _ => ?_) (fun c91 => (c91 (by decide)).elim)
              refine lv_iload_n hx hb dX2_deciders_53 rfl (lv_at hl 1 rfl) ?_
              exact W.iret hx hb hr (fun t ht _ => ⟨_, rfl, (by simp only [pm_dec, pm_ix_in hj3 (show (30 : Nat) < 2 ^ 31 by decide)]), ht⟩) (fun _ h => absurd h List.not_mem_nil) dX2_deciders_54
            · skip
              refine lv_if_eq (tgt := 42) hx hb dX2_deciders_35 (by decide) (fun _ => ?_) (fun c92 => (c92 (by decide)).elim)
              refine lv_iconst (v := nI 0) hx hb dX2_deciders_42 (by decide) ?_
              refine vp_callSi (W.runS (As := [.int (nI (pm_ds S j3 2)), .int (nI 2), .int (nI 0)]) (rest := []) ⟨hx, hb, hml, hown, hts⟩ (k_X2_withEditor l (nI (pm_ds S j3 2)) (nI 2) (nI 0)) (va_cwS 3 hts gX2_deciders_X2_withEditor rfl rfl rfl hd_X2_withEditor ⟨Nat.le_of_ble_eq_true rfl, Nat.le_of_ble_eq_true rfl⟩) ⟨pm_no_blind, pm_no_pre⟩ rfl rfl hl.1 rfl (lv_room (Nat.le_of_ble_eq_true rfl)) dX2_deciders_43 ⟨Nat.le_of_ble_eq_true rfl, Nat.le_of_ble_eq_true rfl⟩) (fun r93 h94 => ?_)
              obtain rfl : r93 = pm_we (nI (pm_ds S j3 2)) (nI 2) (nI 0) := h94
              refine lv_topi (fun x95 e96 => ?_)
              obtain rfl : x95 = nI (pm_ds S j3 3) := e96.trans ((by first | exact pm_ds_p (n := 2) (by decide) (by assumption) (by assumption) | exact pm_ds_n (n := 2) (by decide) (fun z => absurd z.1 (by assumption)) | exact pm_ds_n (n := 2) (by decide) (fun z => absurd z.2 (by assumption))))
              refine lv_istore_n (lv' := [(2, .int (nI (pm_ds S j3 3))), (3, .int (nI 2)), (0, .ref (q 0)), (1, .int (nI j3))]) hx hb dX2_deciders_46 rfl hl (by decide) rfl (fun ls hl => ?_)
              refine lv_iinc (v := nI 3) (lv' := [(3, .int (nI 3)), (2, .int (nI (pm_ds S j3 3))), (0, .ref (q 0)), (1, .int (nI j3))]) hx hb dX2_deciders_47 hl (k := 1) rfl (by decide) (by decide) rfl (fun ls hl => ?_)
              refine lv_goto (tgt := 13) hx hb dX2_deciders_50 (by decide) ?_
              refine lv_iload_n hx hb dX2_deciders_13 rfl (lv_at hl 0 rfl) ?_
              refine lv_iconst (v := nI 3) hx hb dX2_deciders_14 (by decide) ?_
              refine lv_icmp_ge (tgt := 53) hx hb dX2_deciders_15 (by decide) (fun _ => ?_) (fun c97 => (c97 (by decide)).elim)
              refine lv_iload_n hx hb dX2_deciders_53 rfl (lv_at hl 1 rfl) ?_
              exact W.iret hx hb hr (fun t ht _ => ⟨_, rfl, (by simp only [pm_dec, pm_ix_in hj3 (show (30 : Nat) < 2 ^ 31 by decide)]), ht⟩) (fun _ h => absurd h List.not_mem_nil) dX2_deciders_54
    · skip
      refine lv_aload_n hx hb dX2_deciders_29 rfl (lv_at hl 2 rfl) ?_
      refine lv_iload_n hx hb dX2_deciders_30 rfl (lv_at hl 0 rfl) ?_
      refine lv_iload_n hx hb dX2_deciders_31 rfl (lv_at hl 3 rfl) ?_
      refine vp_callSi (W.runV (As := [.int (nI 0), .int (nI j3)]) (rest := [.int (nI 0), .int (nI (pm_ds S j3 0))]) ⟨hx, hb, hml, hown, hts⟩ (k_X2_markDecides l D y q S 0 j3 hI (by omega) (by omega)) (cwV 2 hts gX2_deciders_X2_markDecides rfl rfl rfl hd_X2_markDecides ⟨Nat.le_of_ble_eq_true rfl, Nat.le_of_ble_eq_true rfl⟩) ⟨pm_ro_blind, va_recv hK hP (ci := 2) (q0 := 0) rfl rfl, pm_ro_pre hP hK⟩ rfl rfl hl.1 rfl (lv_room (Nat.le_of_ble_eq_true rfl)) dX2_deciders_32 ⟨Nat.le_of_ble_eq_true rfl, Nat.le_of_ble_eq_true rfl⟩) (fun r98 h99 => ?_)
      rcases (show ((pm_mc (S 9 0) (S 4 j3) 0 3 = true) ∧ r98 = nI 1) ∨ (¬ (pm_mc (S 9 0) (S 4 j3) 0 3 = true) ∧ r98 = nI 0) from h99) with ⟨hp100, rfl⟩ | ⟨hp100, rfl⟩
      · skip
        refine lv_if_eq (tgt := 42) hx hb dX2_deciders_35 (by decide) (fun c101 => absurd c101 (by decide)) (fun _ => ?_)
        refine lv_iconst (v := nI 1) hx hb dX2_deciders_38 (by decide) ?_
        refine lv_goto (tgt := 43) hx hb dX2_deciders_39 (by decide) ?_
        refine vp_callSi (W.runS (As := [.int (nI (pm_ds S j3 0)), .int (nI 0), .int (nI 1)]) (rest := []) ⟨hx, hb, hml, hown, hts⟩ (k_X2_withEditor l (nI (pm_ds S j3 0)) (nI 0) (nI 1)) (va_cwS 3 hts gX2_deciders_X2_withEditor rfl rfl rfl hd_X2_withEditor ⟨Nat.le_of_ble_eq_true rfl, Nat.le_of_ble_eq_true rfl⟩) ⟨pm_no_blind, pm_no_pre⟩ rfl rfl hl.1 rfl (lv_room (Nat.le_of_ble_eq_true rfl)) dX2_deciders_43 ⟨Nat.le_of_ble_eq_true rfl, Nat.le_of_ble_eq_true rfl⟩) (fun r102 h103 => ?_)
        obtain rfl : r102 = pm_we (nI (pm_ds S j3 0)) (nI 0) (nI 1) := h103
        refine lv_topi (fun x104 e105 => ?_)
        obtain rfl : x104 = nI (pm_ds S j3 1) := e105.trans ((by first | exact pm_ds_p (n := 0) (by decide) (by assumption) (by assumption) | exact pm_ds_n (n := 0) (by decide) (fun z => absurd z.1 (by assumption)) | exact pm_ds_n (n := 0) (by decide) (fun z => absurd z.2 (by assumption))))
        refine lv_istore_n (lv' := [(2, .int (nI (pm_ds S j3 1))), (3, .int (nI 0)), (0, .ref (q 0)), (1, .int (nI j3))]) hx hb dX2_deciders_46 rfl hl (by decide) rfl (fun ls hl => ?_)
        refine lv_iinc (v := nI 1) (lv' := [(3, .int (nI 1)), (2, .int (nI (pm_ds S j3 1))), (0, .ref (q 0)), (1, .int (nI j3))]) hx hb dX2_deciders_47 hl (k := 1) rfl (by decide) (by decide) rfl (fun ls hl => ?_)
        refine lv_goto (tgt := 13) hx hb dX2_deciders_50 (by decide) ?_
        refine lv_iload_n hx hb dX2_deciders_13 rfl (lv_at hl 0 rfl) ?_
        refine lv_iconst (v := nI 3) hx hb dX2_deciders_14 (by decide) ?_
        refine lv_icmp_ge (tgt := 53) hx hb dX2_deciders_15 (by decide) (fun c106 => absurd c106 (by decide)) (fun _ => ?_)
        refine lv_iload_n hx hb dX2_deciders_18 rfl (lv_at hl 1 rfl) ?_
        refine lv_iload_n hx hb dX2_deciders_19 rfl (lv_at hl 0 rfl) ?_
        refine lv_aload_n hx hb dX2_deciders_20 rfl (lv_at hl 2 rfl) ?_
        refine va_get (D := D) (ci := 2) (v := .ref (q 2)) (C := RX2) (T := TX2) (N := 15) hx hb hts hin2 hown hK hP 0 rfl rfl 1 (by decide) (hts (.fieldLink RX2 15 "ProofMarks$Sheet" "how" "[I") (List.mem_of_getElem? (i := 1) rfl)) (fun _ h9 => h9) rfl dX2_deciders_21 ?_
        refine lv_iload_n hx hb dX2_deciders_24 rfl (lv_at hl 3 rfl) ?_
        refine kx_iald (v := nI ((S 0) j3)) hx hb hK hP 2 0 rfl rfl (by omega) (by decide) rfl dX2_deciders_25 ?_
        have := hI.how j3 (by omega)
        refine kx_if_ne (tgt := 42) hx hb (by omega) dX2_deciders_26 (by decide) (fun c107 => ?_) (fun c107 => ?_)
        · skip
          refine lv_iconst (v := nI 0) hx hb dX2_deciders_42 (by decide) ?_
          refine vp_callSi (W.runS (As := [.int (nI (pm_ds S j3 1)), .int (nI 1), .int (nI 0)]) (rest := []) ⟨hx, hb, hml, hown, hts⟩ (k_X2_withEditor l (nI (pm_ds S j3 1)) (nI 1) (nI 0)) (va_cwS 3 hts gX2_deciders_X2_withEditor rfl rfl rfl hd_X2_withEditor ⟨Nat.le_of_ble_eq_true rfl, Nat.le_of_ble_eq_true rfl⟩) ⟨pm_no_blind, pm_no_pre⟩ rfl rfl hl.1 rfl (lv_room (Nat.le_of_ble_eq_true rfl)) dX2_deciders_43 ⟨Nat.le_of_ble_eq_true rfl, Nat.le_of_ble_eq_true rfl⟩) (fun r108 h109 => ?_)
          obtain rfl : r108 = pm_we (nI (pm_ds S j3 1)) (nI 1) (nI 0) := h109
          refine lv_topi (fun x110 e111 => ?_)
          obtain rfl : x110 = nI (pm_ds S j3 2) := e111.trans ((by first | exact pm_ds_p (n := 1) (by decide) (by assumption) (by assumption) | exact pm_ds_n (n := 1) (by decide) (fun z => absurd z.1 (by assumption)) | exact pm_ds_n (n := 1) (by decide) (fun z => absurd z.2 (by assumption))))
          refine lv_istore_n (lv' := [(2, .int (nI (pm_ds S j3 2))), (3, .int (nI 1)), (0, .ref (q 0)), (1, .int (nI j3))]) hx hb dX2_deciders_46 rfl hl (by decide) rfl (fun ls hl => ?_)
          refine lv_iinc (v := nI 2) (lv' := [(3, .int (nI 2)), (2, .int (nI (pm_ds S j3 2))), (0, .ref (q 0)), (1, .int (nI j3))]) hx hb dX2_deciders_47 hl (k := 1) rfl (by decide) (by decide) rfl (fun ls hl => ?_)
          refine lv_goto (tgt := 13) hx hb dX2_deciders_50 (by decide) ?_
          refine lv_iload_n hx hb dX2_deciders_13 rfl (lv_at hl 0 rfl) ?_
          refine lv_iconst (v := nI 3) hx hb dX2_deciders_14 (by decide) ?_
          refine lv_icmp_ge (tgt := 53) hx hb dX2_deciders_15 (by decide) (fun c112 => absurd c112 (by decide)) (fun _ => ?_)
          refine lv_iload_n hx hb dX2_deciders_18 rfl (lv_at hl 1 rfl) ?_
          refine lv_iload_n hx hb dX2_deciders_19 rfl (lv_at hl 0 rfl) ?_
          refine lv_aload_n hx hb dX2_deciders_20 rfl (lv_at hl 2 rfl) ?_
          refine va_get (D := D) (ci := 2) (v := .ref (q 2)) (C := RX2) (T := TX2) (N := 15) hx hb hts hin2 hown hK hP 0 rfl rfl 1 (by decide) (hts (.fieldLink RX2 15 "ProofMarks$Sheet" "how" "[I") (List.mem_of_getElem? (i := 1) rfl)) (fun _ h9 => h9) rfl dX2_deciders_21 ?_
          refine lv_iload_n hx hb dX2_deciders_24 rfl (lv_at hl 3 rfl) ?_
          refine kx_iald (v := nI ((S 0) j3)) hx hb hK hP 2 0 rfl rfl (by omega) (by decide) rfl dX2_deciders_25 ?_
          have := hI.how j3 (by omega)
          refine kx_if_ne (tgt := 42) hx hb (by omega) dX2_deciders_26 (by decide) (fun c113 => ?_) (fun c113 => ?_)
          · skip
            refine lv_iconst (v := nI 0) hx hb dX2_deciders_42 (by decide) ?_
            refine vp_callSi (W.runS (As := [.int (nI (pm_ds S j3 2)), .int (nI 2), .int (nI 0)]) (rest := []) ⟨hx, hb, hml, hown, hts⟩ (k_X2_withEditor l (nI (pm_ds S j3 2)) (nI 2) (nI 0)) (va_cwS 3 hts gX2_deciders_X2_withEditor rfl rfl rfl hd_X2_withEditor ⟨Nat.le_of_ble_eq_true rfl, Nat.le_of_ble_eq_true rfl⟩) ⟨pm_no_blind, pm_no_pre⟩ rfl rfl hl.1 rfl (lv_room (Nat.le_of_ble_eq_true rfl)) dX2_deciders_43 ⟨Nat.le_of_ble_eq_true rfl, Nat.le_of_ble_eq_true rfl⟩) (fun r114 h115 => ?_)
            obtain rfl : r114 = pm_we (nI (pm_ds S j3 2)) (nI 2) (nI 0) := h115
            refine lv_topi (fun x116 e117 => ?_)
            obtain rfl : x116 = nI (pm_ds S j3 3) := e117.trans ((by first | exact pm_ds_p (n := 2) (by decide) (by assumption) (by assumption) | exact pm_ds_n (n := 2) (by decide) (fun z => absurd z.1 (by assumption)) | exact pm_ds_n (n := 2) (by decide) (fun z => absurd z.2 (by assumption))))
            refine lv_istore_n (lv' := [(2, .int (nI (pm_ds S j3 3))), (3, .int (nI 2)), (0, .ref (q 0)), (1, .int (nI j3))]) hx hb dX2_deciders_46 rfl hl (by decide) rfl (fun ls hl => ?_)
            refine lv_iinc (v := nI 3) (lv' := [(3, .int (nI 3)), (2, .int (nI (pm_ds S j3 3))), (0, .ref (q 0)), (1, .int (nI j3))]) hx hb dX2_deciders_47 hl (k := 1) rfl (by decide) (by decide) rfl (fun ls hl => ?_)
            refine lv_goto (tgt := 13) hx hb dX2_deciders_50 (by decide) ?_
            refine lv_iload_n hx hb dX2_deciders_13 rfl (lv_at hl 0 rfl) ?_
            refine lv_iconst (v := nI 3) hx hb dX2_deciders_14 (by decide) ?_
            refine lv_icmp_ge (tgt := 53) hx hb dX2_deciders_15 (by decide) (fun _ => ?_) (fun c118 => (c118 (by decide)).elim)
            refine lv_iload_n hx hb dX2_deciders_53 rfl (lv_at hl 1 rfl) ?_
            exact W.iret hx hb hr (fun t ht _ => ⟨_, rfl, (by simp only [pm_dec, pm_ix_in hj3 (show (30 : Nat) < 2 ^ 31 by decide)]), ht⟩) (fun _ h => absurd h List.not_mem_nil) dX2_deciders_54
          · skip
            refine lv_aload_n hx hb dX2_deciders_29 rfl (lv_at hl 2 rfl) ?_
            refine lv_iload_n hx hb dX2_deciders_30 rfl (lv_at hl 0 rfl) ?_
            refine lv_iload_n hx hb dX2_deciders_31 rfl (lv_at hl 3 rfl) ?_
            refine vp_callSi (W.runV (As := [.int (nI 2), .int (nI j3)]) (rest := [.int (nI 2), .int (nI (pm_ds S j3 2))]) ⟨hx, hb, hml, hown, hts⟩ (k_X2_markDecides l D y q S 2 j3 hI (by omega) (by omega)) (cwV 2 hts gX2_deciders_X2_markDecides rfl rfl rfl hd_X2_markDecides ⟨Nat.le_of_ble_eq_true rfl, Nat.le_of_ble_eq_true rfl⟩) ⟨pm_ro_blind, va_recv hK hP (ci := 2) (q0 := 0) rfl rfl, pm_ro_pre hP hK⟩ rfl rfl hl.1 rfl (lv_room (Nat.le_of_ble_eq_true rfl)) dX2_deciders_32 ⟨Nat.le_of_ble_eq_true rfl, Nat.le_of_ble_eq_true rfl⟩) (fun r119 h120 => ?_)
            rcases (show ((pm_mc (S 9 0) (S 4 j3) 2 3 = true) ∧ r119 = nI 1) ∨ (¬ (pm_mc (S 9 0) (S 4 j3) 2 3 = true) ∧ r119 = nI 0) from h120) with ⟨hp121, rfl⟩ | ⟨hp121, rfl⟩
            · skip
              refine lv_if_eq (tgt := 42) hx hb dX2_deciders_35 (by decide) (fun c122 => absurd c122 (by decide)) (fun _ => ?_)
              refine lv_iconst (v := nI 1) hx hb dX2_deciders_38 (by decide) ?_
              refine lv_goto (tgt := 43) hx hb dX2_deciders_39 (by decide) ?_
              refine vp_callSi (W.runS (As := [.int (nI (pm_ds S j3 2)), .int (nI 2), .int (nI 1)]) (rest := []) ⟨hx, hb, hml, hown, hts⟩ (k_X2_withEditor l (nI (pm_ds S j3 2)) (nI 2) (nI 1)) (va_cwS 3 hts gX2_deciders_X2_withEditor rfl rfl rfl hd_X2_withEditor ⟨Nat.le_of_ble_eq_true rfl, Nat.le_of_ble_eq_true rfl⟩) ⟨pm_no_blind, pm_no_pre⟩ rfl rfl hl.1 rfl (lv_room (Nat.le_of_ble_eq_true rfl)) dX2_deciders_43 ⟨Nat.le_of_ble_eq_true rfl, Nat.le_of_ble_eq_true rfl⟩) (fun r123 h124 => ?_)
              obtain rfl : r123 = pm_we (nI (pm_ds S j3 2)) (nI 2) (nI 1) := h124
              refine lv_topi (fun x125 e126 => ?_)
              obtain rfl : x125 = nI (pm_ds S j3 3) := e126.trans ((by first | exact pm_ds_p (n := 2) (by decide) (by assumption) (by assumption) | exact pm_ds_n (n := 2) (by decide) (fun z => absurd z.1 (by assumption)) | exact pm_ds_n (n := 2) (by decide) (fun z => absurd z.2 (by assumption))))
              refine lv_istore_n (lv' := [(2, .int (nI (pm_ds S j3 3))), (3, .int (nI 2)), (0, .ref (q 0)), (1, .int (nI j3))]) hx hb dX2_deciders_46 rfl hl (by decide) rfl (fun ls hl => ?_)
              refine lv_iinc (v := nI 3) (lv' := [(3, .int (nI 3)), (2, .int (nI (pm_ds S j3 3))), (0, .ref (q 0)), (1, .int (nI j3))]) hx hb dX2_deciders_47 hl (k := 1) rfl (by decide) (by decide) rfl (fun ls hl => ?_)
              refine lv_goto (tgt := 13) hx hb dX2_deciders_50 (by decide) ?_
              refine lv_iload_n hx hb dX2_deciders_13 rfl (lv_at hl 0 rfl) ?_
              refine lv_iconst (v := nI 3) hx hb dX2_deciders_14 (by decide) ?_
              refine lv_icmp_ge (tgt := 53) hx hb dX2_deciders_15 (by decide) (fun _ => ?_) (fun c127 => (c127 (by decide)).elim)
              refine lv_iload_n hx hb dX2_deciders_53 rfl (lv_at hl 1 rfl) ?_
              exact W.iret hx hb hr (fun t ht _ => ⟨_, rfl, (by simp only [pm_dec, pm_ix_in hj3 (show (30 : Nat) < 2 ^ 31 by decide)]), ht⟩) (fun _ h => absurd h List.not_mem_nil) dX2_deciders_54
            · skip
              refine lv_if_eq (tgt := 42) hx hb dX2_deciders_35 (by decide) (fun _ => ?_) (fun c128 => (c128 (by decide)).elim)
              refine lv_iconst (v := nI 0) hx hb dX2_deciders_42 (by decide) ?_
              refine vp_callSi (W.runS (As := [.int (nI (pm_ds S j3 2)), .int (nI 2), .int (nI 0)]) (rest := []) ⟨hx, hb, hml, hown, hts⟩ (k_X2_withEditor l (nI (pm_ds S j3 2)) (nI 2) (nI 0)) (va_cwS 3 hts gX2_deciders_X2_withEditor rfl rfl rfl hd_X2_withEditor ⟨Nat.le_of_ble_eq_true rfl, Nat.le_of_ble_eq_true rfl⟩) ⟨pm_no_blind, pm_no_pre⟩ rfl rfl hl.1 rfl (lv_room (Nat.le_of_ble_eq_true rfl)) dX2_deciders_43 ⟨Nat.le_of_ble_eq_true rfl, Nat.le_of_ble_eq_true rfl⟩) (fun r129 h130 => ?_)
              obtain rfl : r129 = pm_we (nI (pm_ds S j3 2)) (nI 2) (nI 0) := h130
              refine lv_topi (fun x131 e132 => ?_)
              obtain rfl : x131 = nI (pm_ds S j3 3) := e132.trans ((by first | exact pm_ds_p (n := 2) (by decide) (by assumption) (by assumption) | exact pm_ds_n (n := 2) (by decide) (fun z => absurd z.1 (by assumption)) | exact pm_ds_n (n := 2) (by decide) (fun z => absurd z.2 (by assumption))))
              refine lv_istore_n (lv' := [(2, .int (nI (pm_ds S j3 3))), (3, .int (nI 2)), (0, .ref (q 0)), (1, .int (nI j3))]) hx hb dX2_deciders_46 rfl hl (by decide) rfl (fun ls hl => ?_)
              refine lv_iinc (v := nI 3) (lv' := [(3, .int (nI 3)), (2, .int (nI (pm_ds S j3 3))), (0, .ref (q 0)), (1, .int (nI j3))]) hx hb dX2_deciders_47 hl (k := 1) rfl (by decide) (by decide) rfl (fun ls hl => ?_)
              refine lv_goto (tgt := 13) hx hb dX2_deciders_50 (by decide) ?_
              refine lv_iload_n hx hb dX2_deciders_13 rfl (lv_at hl 0 rfl) ?_
              refine lv_iconst (v := nI 3) hx hb dX2_deciders_14 (by decide) ?_
              refine lv_icmp_ge (tgt := 53) hx hb dX2_deciders_15 (by decide) (fun _ => ?_) (fun c133 => (c133 (by decide)).elim)
              refine lv_iload_n hx hb dX2_deciders_53 rfl (lv_at hl 1 rfl) ?_
              exact W.iret hx hb hr (fun t ht _ => ⟨_, rfl, (by simp only [pm_dec, pm_ix_in hj3 (show (30 : Nat) < 2 ^ 31 by decide)]), ht⟩) (fun _ h => absurd h List.not_mem_nil) dX2_deciders_54
        · skip
          refine lv_aload_n hx hb dX2_deciders_29 rfl (lv_at hl 2 rfl) ?_
          refine lv_iload_n hx hb dX2_deciders_30 rfl (lv_at hl 0 rfl) ?_
          refine lv_iload_n hx hb dX2_deciders_31 rfl (lv_at hl 3 rfl) ?_
          refine vp_callSi (W.runV (As := [.int (nI 1), .int (nI j3)]) (rest := [.int (nI 1), .int (nI (pm_ds S j3 1))]) ⟨hx, hb, hml, hown, hts⟩ (k_X2_markDecides l D y q S 1 j3 hI (by omega) (by omega)) (cwV 2 hts gX2_deciders_X2_markDecides rfl rfl rfl hd_X2_markDecides ⟨Nat.le_of_ble_eq_true rfl, Nat.le_of_ble_eq_true rfl⟩) ⟨pm_ro_blind, va_recv hK hP (ci := 2) (q0 := 0) rfl rfl, pm_ro_pre hP hK⟩ rfl rfl hl.1 rfl (lv_room (Nat.le_of_ble_eq_true rfl)) dX2_deciders_32 ⟨Nat.le_of_ble_eq_true rfl, Nat.le_of_ble_eq_true rfl⟩) (fun r134 h135 => ?_)
          rcases (show ((pm_mc (S 9 0) (S 4 j3) 1 3 = true) ∧ r134 = nI 1) ∨ (¬ (pm_mc (S 9 0) (S 4 j3) 1 3 = true) ∧ r134 = nI 0) from h135) with ⟨hp136, rfl⟩ | ⟨hp136, rfl⟩
          · skip
            refine lv_if_eq (tgt := 42) hx hb dX2_deciders_35 (by decide) (fun c137 => absurd c137 (by decide)) (fun _ => ?_)
            refine lv_iconst (v := nI 1) hx hb dX2_deciders_38 (by decide) ?_
            refine lv_goto (tgt := 43) hx hb dX2_deciders_39 (by decide) ?_
            refine vp_callSi (W.runS (As := [.int (nI (pm_ds S j3 1)), .int (nI 1), .int (nI 1)]) (rest := []) ⟨hx, hb, hml, hown, hts⟩ (k_X2_withEditor l (nI (pm_ds S j3 1)) (nI 1) (nI 1)) (va_cwS 3 hts gX2_deciders_X2_withEditor rfl rfl rfl hd_X2_withEditor ⟨Nat.le_of_ble_eq_true rfl, Nat.le_of_ble_eq_true rfl⟩) ⟨pm_no_blind, pm_no_pre⟩ rfl rfl hl.1 rfl (lv_room (Nat.le_of_ble_eq_true rfl)) dX2_deciders_43 ⟨Nat.le_of_ble_eq_true rfl, Nat.le_of_ble_eq_true rfl⟩) (fun r138 h139 => ?_)
            obtain rfl : r138 = pm_we (nI (pm_ds S j3 1)) (nI 1) (nI 1) := h139
            refine lv_topi (fun x140 e141 => ?_)
            obtain rfl : x140 = nI (pm_ds S j3 2) := e141.trans ((by first | exact pm_ds_p (n := 1) (by decide) (by assumption) (by assumption) | exact pm_ds_n (n := 1) (by decide) (fun z => absurd z.1 (by assumption)) | exact pm_ds_n (n := 1) (by decide) (fun z => absurd z.2 (by assumption))))
            refine lv_istore_n (lv' := [(2, .int (nI (pm_ds S j3 2))), (3, .int (nI 1)), (0, .ref (q 0)), (1, .int (nI j3))]) hx hb dX2_deciders_46 rfl hl (by decide) rfl (fun ls hl => ?_)
            refine lv_iinc (v := nI 2) (lv' := [(3, .int (nI 2)), (2, .int (nI (pm_ds S j3 2))), (0, .ref (q 0)), (1, .int (nI j3))]) hx hb dX2_deciders_47 hl (k := 1) rfl (by decide) (by decide) rfl (fun ls hl => ?_)
            refine lv_goto (tgt := 13) hx hb dX2_deciders_50 (by decide) ?_
            refine lv_iload_n hx hb dX2_deciders_13 rfl (lv_at hl 0 rfl) ?_
            refine lv_iconst (v := nI 3) hx hb dX2_deciders_14 (by decide) ?_
            refine lv_icmp_ge (tgt := 53) hx hb dX2_deciders_15 (by decide) (fun c142 => absurd c142 (by decide)) (fun _ => ?_)
            refine lv_iload_n hx hb dX2_deciders_18 rfl (lv_at hl 1 rfl) ?_
            refine lv_iload_n hx hb dX2_deciders_19 rfl (lv_at hl 0 rfl) ?_
            refine lv_aload_n hx hb dX2_deciders_20 rfl (lv_at hl 2 rfl) ?_
            refine va_get (D := D) (ci := 2) (v := .ref (q 2)) (C := RX2) (T := TX2) (N := 15) hx hb hts hin2 hown hK hP 0 rfl rfl 1 (by decide) (hts (.fieldLink RX2 15 "ProofMarks$Sheet" "how" "[I") (List.mem_of_getElem? (i := 1) rfl)) (fun _ h9 => h9) rfl dX2_deciders_21 ?_
            refine lv_iload_n hx hb dX2_deciders_24 rfl (lv_at hl 3 rfl) ?_
            refine kx_iald (v := nI ((S 0) j3)) hx hb hK hP 2 0 rfl rfl (by omega) (by decide) rfl dX2_deciders_25 ?_
            have := hI.how j3 (by omega)
            refine kx_if_ne (tgt := 42) hx hb (by omega) dX2_deciders_26 (by decide) (fun c143 => ?_) (fun c143 => ?_)
            · skip
              refine lv_iconst (v := nI 0) hx hb dX2_deciders_42 (by decide) ?_
              refine vp_callSi (W.runS (As := [.int (nI (pm_ds S j3 2)), .int (nI 2), .int (nI 0)]) (rest := []) ⟨hx, hb, hml, hown, hts⟩ (k_X2_withEditor l (nI (pm_ds S j3 2)) (nI 2) (nI 0)) (va_cwS 3 hts gX2_deciders_X2_withEditor rfl rfl rfl hd_X2_withEditor ⟨Nat.le_of_ble_eq_true rfl, Nat.le_of_ble_eq_true rfl⟩) ⟨pm_no_blind, pm_no_pre⟩ rfl rfl hl.1 rfl (lv_room (Nat.le_of_ble_eq_true rfl)) dX2_deciders_43 ⟨Nat.le_of_ble_eq_true rfl, Nat.le_of_ble_eq_true rfl⟩) (fun r144 h145 => ?_)
              obtain rfl : r144 = pm_we (nI (pm_ds S j3 2)) (nI 2) (nI 0) := h145
              refine lv_topi (fun x146 e147 => ?_)
              obtain rfl : x146 = nI (pm_ds S j3 3) := e147.trans ((by first | exact pm_ds_p (n := 2) (by decide) (by assumption) (by assumption) | exact pm_ds_n (n := 2) (by decide) (fun z => absurd z.1 (by assumption)) | exact pm_ds_n (n := 2) (by decide) (fun z => absurd z.2 (by assumption))))
              refine lv_istore_n (lv' := [(2, .int (nI (pm_ds S j3 3))), (3, .int (nI 2)), (0, .ref (q 0)), (1, .int (nI j3))]) hx hb dX2_deciders_46 rfl hl (by decide) rfl (fun ls hl => ?_)
              refine lv_iinc (v := nI 3) (lv' := [(3, .int (nI 3)), (2, .int (nI (pm_ds S j3 3))), (0, .ref (q 0)), (1, .int (nI j3))]) hx hb dX2_deciders_47 hl (k := 1) rfl (by decide) (by decide) rfl (fun ls hl => ?_)
              refine lv_goto (tgt := 13) hx hb dX2_deciders_50 (by decide) ?_
              refine lv_iload_n hx hb dX2_deciders_13 rfl (lv_at hl 0 rfl) ?_
              refine lv_iconst (v := nI 3) hx hb dX2_deciders_14 (by decide) ?_
              refine lv_icmp_ge (tgt := 53) hx hb dX2_deciders_15 (by decide) (fun _ => ?_) (fun c148 => (c148 (by decide)).elim)
              refine lv_iload_n hx hb dX2_deciders_53 rfl (lv_at hl 1 rfl) ?_
              exact W.iret hx hb hr (fun t ht _ => ⟨_, rfl, (by simp only [pm_dec, pm_ix_in hj3 (show (30 : Nat) < 2 ^ 31 by decide)]), ht⟩) (fun _ h => absurd h List.not_mem_nil) dX2_deciders_54
            · skip
              refine lv_aload_n hx hb dX2_deciders_29 rfl (lv_at hl 2 rfl) ?_
              refine lv_iload_n hx hb dX2_deciders_30 rfl (lv_at hl 0 rfl) ?_
              refine lv_iload_n hx hb dX2_deciders_31 rfl (lv_at hl 3 rfl) ?_
              refine vp_callSi (W.runV (As := [.int (nI 2), .int (nI j3)]) (rest := [.int (nI 2), .int (nI (pm_ds S j3 2))]) ⟨hx, hb, hml, hown, hts⟩ (k_X2_markDecides l D y q S 2 j3 hI (by omega) (by omega)) (cwV 2 hts gX2_deciders_X2_markDecides rfl rfl rfl hd_X2_markDecides ⟨Nat.le_of_ble_eq_true rfl, Nat.le_of_ble_eq_true rfl⟩) ⟨pm_ro_blind, va_recv hK hP (ci := 2) (q0 := 0) rfl rfl, pm_ro_pre hP hK⟩ rfl rfl hl.1 rfl (lv_room (Nat.le_of_ble_eq_true rfl)) dX2_deciders_32 ⟨Nat.le_of_ble_eq_true rfl, Nat.le_of_ble_eq_true rfl⟩) (fun r149 h150 => ?_)
              rcases (show ((pm_mc (S 9 0) (S 4 j3) 2 3 = true) ∧ r149 = nI 1) ∨ (¬ (pm_mc (S 9 0) (S 4 j3) 2 3 = true) ∧ r149 = nI 0) from h150) with ⟨hp151, rfl⟩ | ⟨hp151, rfl⟩
              · skip
                refine lv_if_eq (tgt := 42) hx hb dX2_deciders_35 (by decide) (fun c152 => absurd c152 (by decide)) (fun _ => ?_)
                refine lv_iconst (v := nI 1) hx hb dX2_deciders_38 (by decide) ?_
                refine lv_goto (tgt := 43) hx hb dX2_deciders_39 (by decide) ?_
                refine vp_callSi (W.runS (As := [.int (nI (pm_ds S j3 2)), .int (nI 2), .int (nI 1)]) (rest := []) ⟨hx, hb, hml, hown, hts⟩ (k_X2_withEditor l (nI (pm_ds S j3 2)) (nI 2) (nI 1)) (va_cwS 3 hts gX2_deciders_X2_withEditor rfl rfl rfl hd_X2_withEditor ⟨Nat.le_of_ble_eq_true rfl, Nat.le_of_ble_eq_true rfl⟩) ⟨pm_no_blind, pm_no_pre⟩ rfl rfl hl.1 rfl (lv_room (Nat.le_of_ble_eq_true rfl)) dX2_deciders_43 ⟨Nat.le_of_ble_eq_true rfl, Nat.le_of_ble_eq_true rfl⟩) (fun r153 h154 => ?_)
                obtain rfl : r153 = pm_we (nI (pm_ds S j3 2)) (nI 2) (nI 1) := h154
                refine lv_topi (fun x155 e156 => ?_)
                obtain rfl : x155 = nI (pm_ds S j3 3) := e156.trans ((by first | exact pm_ds_p (n := 2) (by decide) (by assumption) (by assumption) | exact pm_ds_n (n := 2) (by decide) (fun z => absurd z.1 (by assumption)) | exact pm_ds_n (n := 2) (by decide) (fun z => absurd z.2 (by assumption))))
                refine lv_istore_n (lv' := [(2, .int (nI (pm_ds S j3 3))), (3, .int (nI 2)), (0, .ref (q 0)), (1, .int (nI j3))]) hx hb dX2_deciders_46 rfl hl (by decide) rfl (fun ls hl => ?_)
                refine lv_iinc (v := nI 3) (lv' := [(3, .int (nI 3)), (2, .int (nI (pm_ds S j3 3))), (0, .ref (q 0)), (1, .int (nI j3))]) hx hb dX2_deciders_47 hl (k := 1) rfl (by decide) (by decide) rfl (fun ls hl => ?_)
                refine lv_goto (tgt := 13) hx hb dX2_deciders_50 (by decide) ?_
                refine lv_iload_n hx hb dX2_deciders_13 rfl (lv_at hl 0 rfl) ?_
                refine lv_iconst (v := nI 3) hx hb dX2_deciders_14 (by decide) ?_
                refine lv_icmp_ge (tgt := 53) hx hb dX2_deciders_15 (by decide) (fun _ => ?_) (fun c157 => (c157 (by decide)).elim)
                refine lv_iload_n hx hb dX2_deciders_53 rfl (lv_at hl 1 rfl) ?_
                exact W.iret hx hb hr (fun t ht _ => ⟨_, rfl, (by simp only [pm_dec, pm_ix_in hj3 (show (30 : Nat) < 2 ^ 31 by decide)]), ht⟩) (fun _ h => absurd h List.not_mem_nil) dX2_deciders_54
              · skip
                refine lv_if_eq (tgt := 42) hx hb dX2_deciders_35 (by decide) (fun _ => ?_) (fun c158 => (c158 (by decide)).elim)
                refine lv_iconst (v := nI 0) hx hb dX2_deciders_42 (by decide) ?_
                refine vp_callSi (W.runS (As := [.int (nI (pm_ds S j3 2)), .int (nI 2), .int (nI 0)]) (rest := []) ⟨hx, hb, hml, hown, hts⟩ (k_X2_withEditor l (nI (pm_ds S j3 2)) (nI 2) (nI 0)) (va_cwS 3 hts gX2_deciders_X2_withEditor rfl rfl rfl hd_X2_withEditor ⟨Nat.le_of_ble_eq_true rfl, Nat.le_of_ble_eq_true rfl⟩) ⟨pm_no_blind, pm_no_pre⟩ rfl rfl hl.1 rfl (lv_room (Nat.le_of_ble_eq_true rfl)) dX2_deciders_43 ⟨Nat.le_of_ble_eq_true rfl, Nat.le_of_ble_eq_true rfl⟩) (fun r159 h160 => ?_)
                obtain rfl : r159 = pm_we (nI (pm_ds S j3 2)) (nI 2) (nI 0) := h160
                refine lv_topi (fun x161 e162 => ?_)
                obtain rfl : x161 = nI (pm_ds S j3 3) := e162.trans ((by first | exact pm_ds_p (n := 2) (by decide) (by assumption) (by assumption) | exact pm_ds_n (n := 2) (by decide) (fun z => absurd z.1 (by assumption)) | exact pm_ds_n (n := 2) (by decide) (fun z => absurd z.2 (by assumption))))
                refine lv_istore_n (lv' := [(2, .int (nI (pm_ds S j3 3))), (3, .int (nI 2)), (0, .ref (q 0)), (1, .int (nI j3))]) hx hb dX2_deciders_46 rfl hl (by decide) rfl (fun ls hl => ?_)
                refine lv_iinc (v := nI 3) (lv' := [(3, .int (nI 3)), (2, .int (nI (pm_ds S j3 3))), (0, .ref (q 0)), (1, .int (nI j3))]) hx hb dX2_deciders_47 hl (k := 1) rfl (by decide) (by decide) rfl (fun ls hl => ?_)
                refine lv_goto (tgt := 13) hx hb dX2_deciders_50 (by decide) ?_
                refine lv_iload_n hx hb dX2_deciders_13 rfl (lv_at hl 0 rfl) ?_
                refine lv_iconst (v := nI 3) hx hb dX2_deciders_14 (by decide) ?_
                refine lv_icmp_ge (tgt := 53) hx hb dX2_deciders_15 (by decide) (fun _ => ?_) (fun c163 => (c163 (by decide)).elim)
                refine lv_iload_n hx hb dX2_deciders_53 rfl (lv_at hl 1 rfl) ?_
                exact W.iret hx hb hr (fun t ht _ => ⟨_, rfl, (by simp only [pm_dec, pm_ix_in hj3 (show (30 : Nat) < 2 ^ 31 by decide)]), ht⟩) (fun _ h => absurd h List.not_mem_nil) dX2_deciders_54
          · skip
            refine lv_if_eq (tgt := 42) hx hb dX2_deciders_35 (by decide) (fun _ => ?_) (fun c164 => (c164 (by decide)).elim)
            refine lv_iconst (v := nI 0) hx hb dX2_deciders_42 (by decide) ?_
            refine vp_callSi (W.runS (As := [.int (nI (pm_ds S j3 1)), .int (nI 1), .int (nI 0)]) (rest := []) ⟨hx, hb, hml, hown, hts⟩ (k_X2_withEditor l (nI (pm_ds S j3 1)) (nI 1) (nI 0)) (va_cwS 3 hts gX2_deciders_X2_withEditor rfl rfl rfl hd_X2_withEditor ⟨Nat.le_of_ble_eq_true rfl, Nat.le_of_ble_eq_true rfl⟩) ⟨pm_no_blind, pm_no_pre⟩ rfl rfl hl.1 rfl (lv_room (Nat.le_of_ble_eq_true rfl)) dX2_deciders_43 ⟨Nat.le_of_ble_eq_true rfl, Nat.le_of_ble_eq_true rfl⟩) (fun r165 h166 => ?_)
            obtain rfl : r165 = pm_we (nI (pm_ds S j3 1)) (nI 1) (nI 0) := h166
            refine lv_topi (fun x167 e168 => ?_)
            obtain rfl : x167 = nI (pm_ds S j3 2) := e168.trans ((by first | exact pm_ds_p (n := 1) (by decide) (by assumption) (by assumption) | exact pm_ds_n (n := 1) (by decide) (fun z => absurd z.1 (by assumption)) | exact pm_ds_n (n := 1) (by decide) (fun z => absurd z.2 (by assumption))))
            refine lv_istore_n (lv' := [(2, .int (nI (pm_ds S j3 2))), (3, .int (nI 1)), (0, .ref (q 0)), (1, .int (nI j3))]) hx hb dX2_deciders_46 rfl hl (by decide) rfl (fun ls hl => ?_)
            refine lv_iinc (v := nI 2) (lv' := [(3, .int (nI 2)), (2, .int (nI (pm_ds S j3 2))), (0, .ref (q 0)), (1, .int (nI j3))]) hx hb dX2_deciders_47 hl (k := 1) rfl (by decide) (by decide) rfl (fun ls hl => ?_)
            refine lv_goto (tgt := 13) hx hb dX2_deciders_50 (by decide) ?_
            refine lv_iload_n hx hb dX2_deciders_13 rfl (lv_at hl 0 rfl) ?_
            refine lv_iconst (v := nI 3) hx hb dX2_deciders_14 (by decide) ?_
            refine lv_icmp_ge (tgt := 53) hx hb dX2_deciders_15 (by decide) (fun c169 => absurd c169 (by decide)) (fun _ => ?_)
            refine lv_iload_n hx hb dX2_deciders_18 rfl (lv_at hl 1 rfl) ?_
            refine lv_iload_n hx hb dX2_deciders_19 rfl (lv_at hl 0 rfl) ?_
            refine lv_aload_n hx hb dX2_deciders_20 rfl (lv_at hl 2 rfl) ?_
            refine va_get (D := D) (ci := 2) (v := .ref (q 2)) (C := RX2) (T := TX2) (N := 15) hx hb hts hin2 hown hK hP 0 rfl rfl 1 (by decide) (hts (.fieldLink RX2 15 "ProofMarks$Sheet" "how" "[I") (List.mem_of_getElem? (i := 1) rfl)) (fun _ h9 => h9) rfl dX2_deciders_21 ?_
            refine lv_iload_n hx hb dX2_deciders_24 rfl (lv_at hl 3 rfl) ?_
            refine kx_iald (v := nI ((S 0) j3)) hx hb hK hP 2 0 rfl rfl (by omega) (by decide) rfl dX2_deciders_25 ?_
            have := hI.how j3 (by omega)
            refine kx_if_ne (tgt := 42) hx hb (by omega) dX2_deciders_26 (by decide) (fun c170 => ?_) (fun c170 => ?_)
            · skip
              refine lv_iconst (v := nI 0) hx hb dX2_deciders_42 (by decide) ?_
              refine vp_callSi (W.runS (As := [.int (nI (pm_ds S j3 2)), .int (nI 2), .int (nI 0)]) (rest := []) ⟨hx, hb, hml, hown, hts⟩ (k_X2_withEditor l (nI (pm_ds S j3 2)) (nI 2) (nI 0)) (va_cwS 3 hts gX2_deciders_X2_withEditor rfl rfl rfl hd_X2_withEditor ⟨Nat.le_of_ble_eq_true rfl, Nat.le_of_ble_eq_true rfl⟩) ⟨pm_no_blind, pm_no_pre⟩ rfl rfl hl.1 rfl (lv_room (Nat.le_of_ble_eq_true rfl)) dX2_deciders_43 ⟨Nat.le_of_ble_eq_true rfl, Nat.le_of_ble_eq_true rfl⟩) (fun r171 h172 => ?_)
              obtain rfl : r171 = pm_we (nI (pm_ds S j3 2)) (nI 2) (nI 0) := h172
              refine lv_topi (fun x173 e174 => ?_)
              obtain rfl : x173 = nI (pm_ds S j3 3) := e174.trans ((by first | exact pm_ds_p (n := 2) (by decide) (by assumption) (by assumption) | exact pm_ds_n (n := 2) (by decide) (fun z => absurd z.1 (by assumption)) | exact pm_ds_n (n := 2) (by decide) (fun z => absurd z.2 (by assumption))))
              refine lv_istore_n (lv' := [(2, .int (nI (pm_ds S j3 3))), (3, .int (nI 2)), (0, .ref (q 0)), (1, .int (nI j3))]) hx hb dX2_deciders_46 rfl hl (by decide) rfl (fun ls hl => ?_)
              refine lv_iinc (v := nI 3) (lv' := [(3, .int (nI 3)), (2, .int (nI (pm_ds S j3 3))), (0, .ref (q 0)), (1, .int (nI j3))]) hx hb dX2_deciders_47 hl (k := 1) rfl (by decide) (by decide) rfl (fun ls hl => ?_)
              refine lv_goto (tgt := 13) hx hb dX2_deciders_50 (by decide) ?_
              refine lv_iload_n hx hb dX2_deciders_13 rfl (lv_at hl 0 rfl) ?_
              refine lv_iconst (v := nI 3) hx hb dX2_deciders_14 (by decide) ?_
              refine lv_icmp_ge (tgt := 53) hx hb dX2_deciders_15 (by decide) (fun _ => ?_) (fun c175 => (c175 (by decide)).elim)
              refine lv_iload_n hx hb dX2_deciders_53 rfl (lv_at hl 1 rfl) ?_
              exact W.iret hx hb hr (fun t ht _ => ⟨_, rfl, (by simp only [pm_dec, pm_ix_in hj3 (show (30 : Nat) < 2 ^ 31 by decide)]), ht⟩) (fun _ h => absurd h List.not_mem_nil) dX2_deciders_54
            · skip
              refine lv_aload_n hx hb dX2_deciders_29 rfl (lv_at hl 2 rfl) ?_
              refine lv_iload_n hx hb dX2_deciders_30 rfl (lv_at hl 0 rfl) ?_
              refine lv_iload_n hx hb dX2_deciders_31 rfl (lv_at hl 3 rfl) ?_
              refine vp_callSi (W.runV (As := [.int (nI 2), .int (nI j3)]) (rest := [.int (nI 2), .int (nI (pm_ds S j3 2))]) ⟨hx, hb, hml, hown, hts⟩ (k_X2_markDecides l D y q S 2 j3 hI (by omega) (by omega)) (cwV 2 hts gX2_deciders_X2_markDecides rfl rfl rfl hd_X2_markDecides ⟨Nat.le_of_ble_eq_true rfl, Nat.le_of_ble_eq_true rfl⟩) ⟨pm_ro_blind, va_recv hK hP (ci := 2) (q0 := 0) rfl rfl, pm_ro_pre hP hK⟩ rfl rfl hl.1 rfl (lv_room (Nat.le_of_ble_eq_true rfl)) dX2_deciders_32 ⟨Nat.le_of_ble_eq_true rfl, Nat.le_of_ble_eq_true rfl⟩) (fun r176 h177 => ?_)
              rcases (show ((pm_mc (S 9 0) (S 4 j3) 2 3 = true) ∧ r176 = nI 1) ∨ (¬ (pm_mc (S 9 0) (S 4 j3) 2 3 = true) ∧ r176 = nI 0) from h177) with ⟨hp178, rfl⟩ | ⟨hp178, rfl⟩
              · skip
                refine lv_if_eq (tgt := 42) hx hb dX2_deciders_35 (by decide) (fun c179 => absurd c179 (by decide)) (fun _ => ?_)
                refine lv_iconst (v := nI 1) hx hb dX2_deciders_38 (by decide) ?_
                refine lv_goto (tgt := 43) hx hb dX2_deciders_39 (by decide) ?_
                refine vp_callSi (W.runS (As := [.int (nI (pm_ds S j3 2)), .int (nI 2), .int (nI 1)]) (rest := []) ⟨hx, hb, hml, hown, hts⟩ (k_X2_withEditor l (nI (pm_ds S j3 2)) (nI 2) (nI 1)) (va_cwS 3 hts gX2_deciders_X2_withEditor rfl rfl rfl hd_X2_withEditor ⟨Nat.le_of_ble_eq_true rfl, Nat.le_of_ble_eq_true rfl⟩) ⟨pm_no_blind, pm_no_pre⟩ rfl rfl hl.1 rfl (lv_room (Nat.le_of_ble_eq_true rfl)) dX2_deciders_43 ⟨Nat.le_of_ble_eq_true rfl, Nat.le_of_ble_eq_true rfl⟩) (fun r180 h181 => ?_)
                obtain rfl : r180 = pm_we (nI (pm_ds S j3 2)) (nI 2) (nI 1) := h181
                refine lv_topi (fun x182 e183 => ?_)
                obtain rfl : x182 = nI (pm_ds S j3 3) := e183.trans ((by first | exact pm_ds_p (n := 2) (by decide) (by assumption) (by assumption) | exact pm_ds_n (n := 2) (by decide) (fun z => absurd z.1 (by assumption)) | exact pm_ds_n (n := 2) (by decide) (fun z => absurd z.2 (by assumption))))
                refine lv_istore_n (lv' := [(2, .int (nI (pm_ds S j3 3))), (3, .int (nI 2)), (0, .ref (q 0)), (1, .int (nI j3))]) hx hb dX2_deciders_46 rfl hl (by decide) rfl (fun ls hl => ?_)
                refine lv_iinc (v := nI 3) (lv' := [(3, .int (nI 3)), (2, .int (nI (pm_ds S j3 3))), (0, .ref (q 0)), (1, .int (nI j3))]) hx hb dX2_deciders_47 hl (k := 1) rfl (by decide) (by decide) rfl (fun ls hl => ?_)
                refine lv_goto (tgt := 13) hx hb dX2_deciders_50 (by decide) ?_
                refine lv_iload_n hx hb dX2_deciders_13 rfl (lv_at hl 0 rfl) ?_
                refine lv_iconst (v := nI 3) hx hb dX2_deciders_14 (by decide) ?_
                refine lv_icmp_ge (tgt := 53) hx hb dX2_deciders_15 (by decide) (fun _ => ?_) (fun c184 => (c184 (by decide)).elim)
                refine lv_iload_n hx hb dX2_deciders_53 rfl (lv_at hl 1 rfl) ?_
                exact W.iret hx hb hr (fun t ht _ => ⟨_, rfl, (by simp only [pm_dec, pm_ix_in hj3 (show (30 : Nat) < 2 ^ 31 by decide)]), ht⟩) (fun _ h => absurd h List.not_mem_nil) dX2_deciders_54
              · skip
                refine lv_if_eq (tgt := 42) hx hb dX2_deciders_35 (by decide) (fun _ => ?_) (fun c185 => (c185 (by decide)).elim)
                refine lv_iconst (v := nI 0) hx hb dX2_deciders_42 (by decide) ?_
                refine vp_callSi (W.runS (As := [.int (nI (pm_ds S j3 2)), .int (nI 2), .int (nI 0)]) (rest := []) ⟨hx, hb, hml, hown, hts⟩ (k_X2_withEditor l (nI (pm_ds S j3 2)) (nI 2) (nI 0)) (va_cwS 3 hts gX2_deciders_X2_withEditor rfl rfl rfl hd_X2_withEditor ⟨Nat.le_of_ble_eq_true rfl, Nat.le_of_ble_eq_true rfl⟩) ⟨pm_no_blind, pm_no_pre⟩ rfl rfl hl.1 rfl (lv_room (Nat.le_of_ble_eq_true rfl)) dX2_deciders_43 ⟨Nat.le_of_ble_eq_true rfl, Nat.le_of_ble_eq_true rfl⟩) (fun r186 h187 => ?_)
                obtain rfl : r186 = pm_we (nI (pm_ds S j3 2)) (nI 2) (nI 0) := h187
                refine lv_topi (fun x188 e189 => ?_)
                obtain rfl : x188 = nI (pm_ds S j3 3) := e189.trans ((by first | exact pm_ds_p (n := 2) (by decide) (by assumption) (by assumption) | exact pm_ds_n (n := 2) (by decide) (fun z => absurd z.1 (by assumption)) | exact pm_ds_n (n := 2) (by decide) (fun z => absurd z.2 (by assumption))))
                refine lv_istore_n (lv' := [(2, .int (nI (pm_ds S j3 3))), (3, .int (nI 2)), (0, .ref (q 0)), (1, .int (nI j3))]) hx hb dX2_deciders_46 rfl hl (by decide) rfl (fun ls hl => ?_)
                refine lv_iinc (v := nI 3) (lv' := [(3, .int (nI 3)), (2, .int (nI (pm_ds S j3 3))), (0, .ref (q 0)), (1, .int (nI j3))]) hx hb dX2_deciders_47 hl (k := 1) rfl (by decide) (by decide) rfl (fun ls hl => ?_)
                refine lv_goto (tgt := 13) hx hb dX2_deciders_50 (by decide) ?_
                refine lv_iload_n hx hb dX2_deciders_13 rfl (lv_at hl 0 rfl) ?_
                refine lv_iconst (v := nI 3) hx hb dX2_deciders_14 (by decide) ?_
                refine lv_icmp_ge (tgt := 53) hx hb dX2_deciders_15 (by decide) (fun _ => ?_) (fun c190 => (c190 (by decide)).elim)
                refine lv_iload_n hx hb dX2_deciders_53 rfl (lv_at hl 1 rfl) ?_
                exact W.iret hx hb hr (fun t ht _ => ⟨_, rfl, (by simp only [pm_dec, pm_ix_in hj3 (show (30 : Nat) < 2 ^ 31 by decide)]), ht⟩) (fun _ h => absurd h List.not_mem_nil) dX2_deciders_54
      · skip
        refine lv_if_eq (tgt := 42) hx hb dX2_deciders_35 (by decide) (fun _ => ?_) (fun c191 => (c191 (by decide)).elim)
        refine lv_iconst (v := nI 0) hx hb dX2_deciders_42 (by decide) ?_
        refine vp_callSi (W.runS (As := [.int (nI (pm_ds S j3 0)), .int (nI 0), .int (nI 0)]) (rest := []) ⟨hx, hb, hml, hown, hts⟩ (k_X2_withEditor l (nI (pm_ds S j3 0)) (nI 0) (nI 0)) (va_cwS 3 hts gX2_deciders_X2_withEditor rfl rfl rfl hd_X2_withEditor ⟨Nat.le_of_ble_eq_true rfl, Nat.le_of_ble_eq_true rfl⟩) ⟨pm_no_blind, pm_no_pre⟩ rfl rfl hl.1 rfl (lv_room (Nat.le_of_ble_eq_true rfl)) dX2_deciders_43 ⟨Nat.le_of_ble_eq_true rfl, Nat.le_of_ble_eq_true rfl⟩) (fun r192 h193 => ?_)
        obtain rfl : r192 = pm_we (nI (pm_ds S j3 0)) (nI 0) (nI 0) := h193
        refine lv_topi (fun x194 e195 => ?_)
        obtain rfl : x194 = nI (pm_ds S j3 1) := e195.trans ((by first | exact pm_ds_p (n := 0) (by decide) (by assumption) (by assumption) | exact pm_ds_n (n := 0) (by decide) (fun z => absurd z.1 (by assumption)) | exact pm_ds_n (n := 0) (by decide) (fun z => absurd z.2 (by assumption))))
        refine lv_istore_n (lv' := [(2, .int (nI (pm_ds S j3 1))), (3, .int (nI 0)), (0, .ref (q 0)), (1, .int (nI j3))]) hx hb dX2_deciders_46 rfl hl (by decide) rfl (fun ls hl => ?_)
        refine lv_iinc (v := nI 1) (lv' := [(3, .int (nI 1)), (2, .int (nI (pm_ds S j3 1))), (0, .ref (q 0)), (1, .int (nI j3))]) hx hb dX2_deciders_47 hl (k := 1) rfl (by decide) (by decide) rfl (fun ls hl => ?_)
        refine lv_goto (tgt := 13) hx hb dX2_deciders_50 (by decide) ?_
        refine lv_iload_n hx hb dX2_deciders_13 rfl (lv_at hl 0 rfl) ?_
        refine lv_iconst (v := nI 3) hx hb dX2_deciders_14 (by decide) ?_
        refine lv_icmp_ge (tgt := 53) hx hb dX2_deciders_15 (by decide) (fun c196 => absurd c196 (by decide)) (fun _ => ?_)
        refine lv_iload_n hx hb dX2_deciders_18 rfl (lv_at hl 1 rfl) ?_
        refine lv_iload_n hx hb dX2_deciders_19 rfl (lv_at hl 0 rfl) ?_
        refine lv_aload_n hx hb dX2_deciders_20 rfl (lv_at hl 2 rfl) ?_
        refine va_get (D := D) (ci := 2) (v := .ref (q 2)) (C := RX2) (T := TX2) (N := 15) hx hb hts hin2 hown hK hP 0 rfl rfl 1 (by decide) (hts (.fieldLink RX2 15 "ProofMarks$Sheet" "how" "[I") (List.mem_of_getElem? (i := 1) rfl)) (fun _ h9 => h9) rfl dX2_deciders_21 ?_
        refine lv_iload_n hx hb dX2_deciders_24 rfl (lv_at hl 3 rfl) ?_
        refine kx_iald (v := nI ((S 0) j3)) hx hb hK hP 2 0 rfl rfl (by omega) (by decide) rfl dX2_deciders_25 ?_
        have := hI.how j3 (by omega)
        refine kx_if_ne (tgt := 42) hx hb (by omega) dX2_deciders_26 (by decide) (fun c197 => ?_) (fun c197 => ?_)
        · skip
          refine lv_iconst (v := nI 0) hx hb dX2_deciders_42 (by decide) ?_
          refine vp_callSi (W.runS (As := [.int (nI (pm_ds S j3 1)), .int (nI 1), .int (nI 0)]) (rest := []) ⟨hx, hb, hml, hown, hts⟩ (k_X2_withEditor l (nI (pm_ds S j3 1)) (nI 1) (nI 0)) (va_cwS 3 hts gX2_deciders_X2_withEditor rfl rfl rfl hd_X2_withEditor ⟨Nat.le_of_ble_eq_true rfl, Nat.le_of_ble_eq_true rfl⟩) ⟨pm_no_blind, pm_no_pre⟩ rfl rfl hl.1 rfl (lv_room (Nat.le_of_ble_eq_true rfl)) dX2_deciders_43 ⟨Nat.le_of_ble_eq_true rfl, Nat.le_of_ble_eq_true rfl⟩) (fun r198 h199 => ?_)
          obtain rfl : r198 = pm_we (nI (pm_ds S j3 1)) (nI 1) (nI 0) := h199
          refine lv_topi (fun x200 e201 => ?_)
          obtain rfl : x200 = nI (pm_ds S j3 2) := e201.trans ((by first | exact pm_ds_p (n := 1) (by decide) (by assumption) (by assumption) | exact pm_ds_n (n := 1) (by decide) (fun z => absurd z.1 (by assumption)) | exact pm_ds_n (n := 1) (by decide) (fun z => absurd z.2 (by assumption))))
          refine lv_istore_n (lv' := [(2, .int (nI (pm_ds S j3 2))), (3, .int (nI 1)), (0, .ref (q 0)), (1, .int (nI j3))]) hx hb dX2_deciders_46 rfl hl (by decide) rfl (fun ls hl => ?_)
          refine lv_iinc (v := nI 2) (lv' := [(3, .int (nI 2)), (2, .int (nI (pm_ds S j3 2))), (0, .ref (q 0)), (1, .int (nI j3))]) hx hb dX2_deciders_47 hl (k := 1) rfl (by decide) (by decide) rfl (fun ls hl => ?_)
          refine lv_goto (tgt := 13) hx hb dX2_deciders_50 (by decide) ?_
          refine lv_iload_n hx hb dX2_deciders_13 rfl (lv_at hl 0 rfl) ?_
          refine lv_iconst (v := nI 3) hx hb dX2_deciders_14 (by decide) ?_
          refine lv_icmp_ge (tgt := 53) hx hb dX2_deciders_15 (by decide) (fun c202 => absurd c202 (by decide)) (fun _ => ?_)
          refine lv_iload_n hx hb dX2_deciders_18 rfl (lv_at hl 1 rfl) ?_
          refine lv_iload_n hx hb dX2_deciders_19 rfl (lv_at hl 0 rfl) ?_
          refine lv_aload_n hx hb dX2_deciders_20 rfl (lv_at hl 2 rfl) ?_
          refine va_get (D := D) (ci := 2) (v := .ref (q 2)) (C := RX2) (T := TX2) (N := 15) hx hb hts hin2 hown hK hP 0 rfl rfl 1 (by decide) (hts (.fieldLink RX2 15 "ProofMarks$Sheet" "how" "[I") (List.mem_of_getElem? (i := 1) rfl)) (fun _ h9 => h9) rfl dX2_deciders_21 ?_
          refine lv_iload_n hx hb dX2_deciders_24 rfl (lv_at hl 3 rfl) ?_
          refine kx_iald (v := nI ((S 0) j3)) hx hb hK hP 2 0 rfl rfl (by omega) (by decide) rfl dX2_deciders_25 ?_
          have := hI.how j3 (by omega)
          refine kx_if_ne (tgt := 42) hx hb (by omega) dX2_deciders_26 (by decide) (fun c203 => ?_) (fun c203 => ?_)
          · skip
            refine lv_iconst (v := nI 0) hx hb dX2_deciders_42 (by decide) ?_
            refine vp_callSi (W.runS (As := [.int (nI (pm_ds S j3 2)), .int (nI 2), .int (nI 0)]) (rest := []) ⟨hx, hb, hml, hown, hts⟩ (k_X2_withEditor l (nI (pm_ds S j3 2)) (nI 2) (nI 0)) (va_cwS 3 hts gX2_deciders_X2_withEditor rfl rfl rfl hd_X2_withEditor ⟨Nat.le_of_ble_eq_true rfl, Nat.le_of_ble_eq_true rfl⟩) ⟨pm_no_blind, pm_no_pre⟩ rfl rfl hl.1 rfl (lv_room (Nat.le_of_ble_eq_true rfl)) dX2_deciders_43 ⟨Nat.le_of_ble_eq_true rfl, Nat.le_of_ble_eq_true rfl⟩) (fun r204 h205 => ?_)
            obtain rfl : r204 = pm_we (nI (pm_ds S j3 2)) (nI 2) (nI 0) := h205
            refine lv_topi (fun x206 e207 => ?_)
            obtain rfl : x206 = nI (pm_ds S j3 3) := e207.trans ((by first | exact pm_ds_p (n := 2) (by decide) (by assumption) (by assumption) | exact pm_ds_n (n := 2) (by decide) (fun z => absurd z.1 (by assumption)) | exact pm_ds_n (n := 2) (by decide) (fun z => absurd z.2 (by assumption))))
            refine lv_istore_n (lv' := [(2, .int (nI (pm_ds S j3 3))), (3, .int (nI 2)), (0, .ref (q 0)), (1, .int (nI j3))]) hx hb dX2_deciders_46 rfl hl (by decide) rfl (fun ls hl => ?_)
            refine lv_iinc (v := nI 3) (lv' := [(3, .int (nI 3)), (2, .int (nI (pm_ds S j3 3))), (0, .ref (q 0)), (1, .int (nI j3))]) hx hb dX2_deciders_47 hl (k := 1) rfl (by decide) (by decide) rfl (fun ls hl => ?_)
            refine lv_goto (tgt := 13) hx hb dX2_deciders_50 (by decide) ?_
            refine lv_iload_n hx hb dX2_deciders_13 rfl (lv_at hl 0 rfl) ?_
            refine lv_iconst (v := nI 3) hx hb dX2_deciders_14 (by decide) ?_
            refine lv_icmp_ge (tgt := 53) hx hb dX2_deciders_15 (by decide) (fun _ => ?_) (fun c208 => (c208 (by decide)).elim)
            refine lv_iload_n hx hb dX2_deciders_53 rfl (lv_at hl 1 rfl) ?_
            exact W.iret hx hb hr (fun t ht _ => ⟨_, rfl, (by simp only [pm_dec, pm_ix_in hj3 (show (30 : Nat) < 2 ^ 31 by decide)]), ht⟩) (fun _ h => absurd h List.not_mem_nil) dX2_deciders_54
          · skip
            refine lv_aload_n hx hb dX2_deciders_29 rfl (lv_at hl 2 rfl) ?_
            refine lv_iload_n hx hb dX2_deciders_30 rfl (lv_at hl 0 rfl) ?_
            refine lv_iload_n hx hb dX2_deciders_31 rfl (lv_at hl 3 rfl) ?_
            refine vp_callSi (W.runV (As := [.int (nI 2), .int (nI j3)]) (rest := [.int (nI 2), .int (nI (pm_ds S j3 2))]) ⟨hx, hb, hml, hown, hts⟩ (k_X2_markDecides l D y q S 2 j3 hI (by omega) (by omega)) (cwV 2 hts gX2_deciders_X2_markDecides rfl rfl rfl hd_X2_markDecides ⟨Nat.le_of_ble_eq_true rfl, Nat.le_of_ble_eq_true rfl⟩) ⟨pm_ro_blind, va_recv hK hP (ci := 2) (q0 := 0) rfl rfl, pm_ro_pre hP hK⟩ rfl rfl hl.1 rfl (lv_room (Nat.le_of_ble_eq_true rfl)) dX2_deciders_32 ⟨Nat.le_of_ble_eq_true rfl, Nat.le_of_ble_eq_true rfl⟩) (fun r209 h210 => ?_)
            rcases (show ((pm_mc (S 9 0) (S 4 j3) 2 3 = true) ∧ r209 = nI 1) ∨ (¬ (pm_mc (S 9 0) (S 4 j3) 2 3 = true) ∧ r209 = nI 0) from h210) with ⟨hp211, rfl⟩ | ⟨hp211, rfl⟩
            · skip
              refine lv_if_eq (tgt := 42) hx hb dX2_deciders_35 (by decide) (fun c212 => absurd c212 (by decide)) (fun _ => ?_)
              refine lv_iconst (v := nI 1) hx hb dX2_deciders_38 (by decide) ?_
              refine lv_goto (tgt := 43) hx hb dX2_deciders_39 (by decide) ?_
              refine vp_callSi (W.runS (As := [.int (nI (pm_ds S j3 2)), .int (nI 2), .int (nI 1)]) (rest := []) ⟨hx, hb, hml, hown, hts⟩ (k_X2_withEditor l (nI (pm_ds S j3 2)) (nI 2) (nI 1)) (va_cwS 3 hts gX2_deciders_X2_withEditor rfl rfl rfl hd_X2_withEditor ⟨Nat.le_of_ble_eq_true rfl, Nat.le_of_ble_eq_true rfl⟩) ⟨pm_no_blind, pm_no_pre⟩ rfl rfl hl.1 rfl (lv_room (Nat.le_of_ble_eq_true rfl)) dX2_deciders_43 ⟨Nat.le_of_ble_eq_true rfl, Nat.le_of_ble_eq_true rfl⟩) (fun r213 h214 => ?_)
              obtain rfl : r213 = pm_we (nI (pm_ds S j3 2)) (nI 2) (nI 1) := h214
              refine lv_topi (fun x215 e216 => ?_)
              obtain rfl : x215 = nI (pm_ds S j3 3) := e216.trans ((by first | exact pm_ds_p (n := 2) (by decide) (by assumption) (by assumption) | exact pm_ds_n (n := 2) (by decide) (fun z => absurd z.1 (by assumption)) | exact pm_ds_n (n := 2) (by decide) (fun z => absurd z.2 (by assumption))))
              refine lv_istore_n (lv' := [(2, .int (nI (pm_ds S j3 3))), (3, .int (nI 2)), (0, .ref (q 0)), (1, .int (nI j3))]) hx hb dX2_deciders_46 rfl hl (by decide) rfl (fun ls hl => ?_)
              refine lv_iinc (v := nI 3) (lv' := [(3, .int (nI 3)), (2, .int (nI (pm_ds S j3 3))), (0, .ref (q 0)), (1, .int (nI j3))]) hx hb dX2_deciders_47 hl (k := 1) rfl (by decide) (by decide) rfl (fun ls hl => ?_)
              refine lv_goto (tgt := 13) hx hb dX2_deciders_50 (by decide) ?_
              refine lv_iload_n hx hb dX2_deciders_13 rfl (lv_at hl 0 rfl) ?_
              refine lv_iconst (v := nI 3) hx hb dX2_deciders_14 (by decide) ?_
              refine lv_icmp_ge (tgt := 53) hx hb dX2_deciders_15 (by decide) (fun _ => ?_) (fun c217 => (c217 (by decide)).elim)
              refine lv_iload_n hx hb dX2_deciders_53 rfl (lv_at hl 1 rfl) ?_
              exact W.iret hx hb hr (fun t ht _ => ⟨_, rfl, (by simp only [pm_dec, pm_ix_in hj3 (show (30 : Nat) < 2 ^ 31 by decide)]), ht⟩) (fun _ h => absurd h List.not_mem_nil) dX2_deciders_54
            · skip
              refine lv_if_eq (tgt := 42) hx hb dX2_deciders_35 (by decide) (fun _ => ?_) (fun c218 => (c218 (by decide)).elim)
              refine lv_iconst (v := nI 0) hx hb dX2_deciders_42 (by decide) ?_
              refine vp_callSi (W.runS (As := [.int (nI (pm_ds S j3 2)), .int (nI 2), .int (nI 0)]) (rest := []) ⟨hx, hb, hml, hown, hts⟩ (k_X2_withEditor l (nI (pm_ds S j3 2)) (nI 2) (nI 0)) (va_cwS 3 hts gX2_deciders_X2_withEditor rfl rfl rfl hd_X2_withEditor ⟨Nat.le_of_ble_eq_true rfl, Nat.le_of_ble_eq_true rfl⟩) ⟨pm_no_blind, pm_no_pre⟩ rfl rfl hl.1 rfl (lv_room (Nat.le_of_ble_eq_true rfl)) dX2_deciders_43 ⟨Nat.le_of_ble_eq_true rfl, Nat.le_of_ble_eq_true rfl⟩) (fun r219 h220 => ?_)
              obtain rfl : r219 = pm_we (nI (pm_ds S j3 2)) (nI 2) (nI 0) := h220
              refine lv_topi (fun x221 e222 => ?_)
              obtain rfl : x221 = nI (pm_ds S j3 3) := e222.trans ((by first | exact pm_ds_p (n := 2) (by decide) (by assumption) (by assumption) | exact pm_ds_n (n := 2) (by decide) (fun z => absurd z.1 (by assumption)) | exact pm_ds_n (n := 2) (by decide) (fun z => absurd z.2 (by assumption))))
              refine lv_istore_n (lv' := [(2, .int (nI (pm_ds S j3 3))), (3, .int (nI 2)), (0, .ref (q 0)), (1, .int (nI j3))]) hx hb dX2_deciders_46 rfl hl (by decide) rfl (fun ls hl => ?_)
              refine lv_iinc (v := nI 3) (lv' := [(3, .int (nI 3)), (2, .int (nI (pm_ds S j3 3))), (0, .ref (q 0)), (1, .int (nI j3))]) hx hb dX2_deciders_47 hl (k := 1) rfl (by decide) (by decide) rfl (fun ls hl => ?_)
              refine lv_goto (tgt := 13) hx hb dX2_deciders_50 (by decide) ?_
              refine lv_iload_n hx hb dX2_deciders_13 rfl (lv_at hl 0 rfl) ?_
              refine lv_iconst (v := nI 3) hx hb dX2_deciders_14 (by decide) ?_
              refine lv_icmp_ge (tgt := 53) hx hb dX2_deciders_15 (by decide) (fun _ => ?_) (fun c223 => (c223 (by decide)).elim)
              refine lv_iload_n hx hb dX2_deciders_53 rfl (lv_at hl 1 rfl) ?_
              exact W.iret hx hb hr (fun t ht _ => ⟨_, rfl, (by simp only [pm_dec, pm_ix_in hj3 (show (30 : Nat) < 2 ^ 31 by decide)]), ht⟩) (fun _ h => absurd h List.not_mem_nil) dX2_deciders_54
        · skip
          refine lv_aload_n hx hb dX2_deciders_29 rfl (lv_at hl 2 rfl) ?_
          refine lv_iload_n hx hb dX2_deciders_30 rfl (lv_at hl 0 rfl) ?_
          refine lv_iload_n hx hb dX2_deciders_31 rfl (lv_at hl 3 rfl) ?_
          refine vp_callSi (W.runV (As := [.int (nI 1), .int (nI j3)]) (rest := [.int (nI 1), .int (nI (pm_ds S j3 1))]) ⟨hx, hb, hml, hown, hts⟩ (k_X2_markDecides l D y q S 1 j3 hI (by omega) (by omega)) (cwV 2 hts gX2_deciders_X2_markDecides rfl rfl rfl hd_X2_markDecides ⟨Nat.le_of_ble_eq_true rfl, Nat.le_of_ble_eq_true rfl⟩) ⟨pm_ro_blind, va_recv hK hP (ci := 2) (q0 := 0) rfl rfl, pm_ro_pre hP hK⟩ rfl rfl hl.1 rfl (lv_room (Nat.le_of_ble_eq_true rfl)) dX2_deciders_32 ⟨Nat.le_of_ble_eq_true rfl, Nat.le_of_ble_eq_true rfl⟩) (fun r224 h225 => ?_)
          rcases (show ((pm_mc (S 9 0) (S 4 j3) 1 3 = true) ∧ r224 = nI 1) ∨ (¬ (pm_mc (S 9 0) (S 4 j3) 1 3 = true) ∧ r224 = nI 0) from h225) with ⟨hp226, rfl⟩ | ⟨hp226, rfl⟩
          · skip
            refine lv_if_eq (tgt := 42) hx hb dX2_deciders_35 (by decide) (fun c227 => absurd c227 (by decide)) (fun _ => ?_)
            refine lv_iconst (v := nI 1) hx hb dX2_deciders_38 (by decide) ?_
            refine lv_goto (tgt := 43) hx hb dX2_deciders_39 (by decide) ?_
            refine vp_callSi (W.runS (As := [.int (nI (pm_ds S j3 1)), .int (nI 1), .int (nI 1)]) (rest := []) ⟨hx, hb, hml, hown, hts⟩ (k_X2_withEditor l (nI (pm_ds S j3 1)) (nI 1) (nI 1)) (va_cwS 3 hts gX2_deciders_X2_withEditor rfl rfl rfl hd_X2_withEditor ⟨Nat.le_of_ble_eq_true rfl, Nat.le_of_ble_eq_true rfl⟩) ⟨pm_no_blind, pm_no_pre⟩ rfl rfl hl.1 rfl (lv_room (Nat.le_of_ble_eq_true rfl)) dX2_deciders_43 ⟨Nat.le_of_ble_eq_true rfl, Nat.le_of_ble_eq_true rfl⟩) (fun r228 h229 => ?_)
            obtain rfl : r228 = pm_we (nI (pm_ds S j3 1)) (nI 1) (nI 1) := h229
            refine lv_topi (fun x230 e231 => ?_)
            obtain rfl : x230 = nI (pm_ds S j3 2) := e231.trans ((by first | exact pm_ds_p (n := 1) (by decide) (by assumption) (by assumption) | exact pm_ds_n (n := 1) (by decide) (fun z => absurd z.1 (by assumption)) | exact pm_ds_n (n := 1) (by decide) (fun z => absurd z.2 (by assumption))))
            refine lv_istore_n (lv' := [(2, .int (nI (pm_ds S j3 2))), (3, .int (nI 1)), (0, .ref (q 0)), (1, .int (nI j3))]) hx hb dX2_deciders_46 rfl hl (by decide) rfl (fun ls hl => ?_)
            refine lv_iinc (v := nI 2) (lv' := [(3, .int (nI 2)), (2, .int (nI (pm_ds S j3 2))), (0, .ref (q 0)), (1, .int (nI j3))]) hx hb dX2_deciders_47 hl (k := 1) rfl (by decide) (by decide) rfl (fun ls hl => ?_)
            refine lv_goto (tgt := 13) hx hb dX2_deciders_50 (by decide) ?_
            refine lv_iload_n hx hb dX2_deciders_13 rfl (lv_at hl 0 rfl) ?_
            refine lv_iconst (v := nI 3) hx hb dX2_deciders_14 (by decide) ?_
            refine lv_icmp_ge (tgt := 53) hx hb dX2_deciders_15 (by decide) (fun c232 => absurd c232 (by decide)) (fun _ => ?_)
            refine lv_iload_n hx hb dX2_deciders_18 rfl (lv_at hl 1 rfl) ?_
            refine lv_iload_n hx hb dX2_deciders_19 rfl (lv_at hl 0 rfl) ?_
            refine lv_aload_n hx hb dX2_deciders_20 rfl (lv_at hl 2 rfl) ?_
            refine va_get (D := D) (ci := 2) (v := .ref (q 2)) (C := RX2) (T := TX2) (N := 15) hx hb hts hin2 hown hK hP 0 rfl rfl 1 (by decide) (hts (.fieldLink RX2 15 "ProofMarks$Sheet" "how" "[I") (List.mem_of_getElem? (i := 1) rfl)) (fun _ h9 => h9) rfl dX2_deciders_21 ?_
            refine lv_iload_n hx hb dX2_deciders_24 rfl (lv_at hl 3 rfl) ?_
            refine kx_iald (v := nI ((S 0) j3)) hx hb hK hP 2 0 rfl rfl (by omega) (by decide) rfl dX2_deciders_25 ?_
            have := hI.how j3 (by omega)
            refine kx_if_ne (tgt := 42) hx hb (by omega) dX2_deciders_26 (by decide) (fun c233 => ?_) (fun c233 => ?_)
            · skip
              refine lv_iconst (v := nI 0) hx hb dX2_deciders_42 (by decide) ?_
              refine vp_callSi (W.runS (As := [.int (nI (pm_ds S j3 2)), .int (nI 2), .int (nI 0)]) (rest := []) ⟨hx, hb, hml, hown, hts⟩ (k_X2_withEditor l (nI (pm_ds S j3 2)) (nI 2) (nI 0)) (va_cwS 3 hts gX2_deciders_X2_withEditor rfl rfl rfl hd_X2_withEditor ⟨Nat.le_of_ble_eq_true rfl, Nat.le_of_ble_eq_true rfl⟩) ⟨pm_no_blind, pm_no_pre⟩ rfl rfl hl.1 rfl (lv_room (Nat.le_of_ble_eq_true rfl)) dX2_deciders_43 ⟨Nat.le_of_ble_eq_true rfl, Nat.le_of_ble_eq_true rfl⟩) (fun r234 h235 => ?_)
              obtain rfl : r234 = pm_we (nI (pm_ds S j3 2)) (nI 2) (nI 0) := h235
              refine lv_topi (fun x236 e237 => ?_)
              obtain rfl : x236 = nI (pm_ds S j3 3) := e237.trans ((by first | exact pm_ds_p (n := 2) (by decide) (by assumption) (by assumption) | exact pm_ds_n (n := 2) (by decide) (fun z => absurd z.1 (by assumption)) | exact pm_ds_n (n := 2) (by decide) (fun z => absurd z.2 (by assumption))))
              refine lv_istore_n (lv' := [(2, .int (nI (pm_ds S j3 3))), (3, .int (nI 2)), (0, .ref (q 0)), (1, .int (nI j3))]) hx hb dX2_deciders_46 rfl hl (by decide) rfl (fun ls hl => ?_)
              refine lv_iinc (v := nI 3) (lv' := [(3, .int (nI 3)), (2, .int (nI (pm_ds S j3 3))), (0, .ref (q 0)), (1, .int (nI j3))]) hx hb dX2_deciders_47 hl (k := 1) rfl (by decide) (by decide) rfl (fun ls hl => ?_)
              refine lv_goto (tgt := 13) hx hb dX2_deciders_50 (by decide) ?_
              refine lv_iload_n hx hb dX2_deciders_13 rfl (lv_at hl 0 rfl) ?_
              refine lv_iconst (v := nI 3) hx hb dX2_deciders_14 (by decide) ?_
              refine lv_icmp_ge (tgt := 53) hx hb dX2_deciders_15 (by decide) (fun _ => ?_) (fun c238 => (c238 (by decide)).elim)
              refine lv_iload_n hx hb dX2_deciders_53 rfl (lv_at hl 1 rfl) ?_
              exact W.iret hx hb hr (fun t ht _ => ⟨_, rfl, (by simp only [pm_dec, pm_ix_in hj3 (show (30 : Nat) < 2 ^ 31 by decide)]), ht⟩) (fun _ h => absurd h List.not_mem_nil) dX2_deciders_54
            · skip
              refine lv_aload_n hx hb dX2_deciders_29 rfl (lv_at hl 2 rfl) ?_
              refine lv_iload_n hx hb dX2_deciders_30 rfl (lv_at hl 0 rfl) ?_
              refine lv_iload_n hx hb dX2_deciders_31 rfl (lv_at hl 3 rfl) ?_
              refine vp_callSi (W.runV (As := [.int (nI 2), .int (nI j3)]) (rest := [.int (nI 2), .int (nI (pm_ds S j3 2))]) ⟨hx, hb, hml, hown, hts⟩ (k_X2_markDecides l D y q S 2 j3 hI (by omega) (by omega)) (cwV 2 hts gX2_deciders_X2_markDecides rfl rfl rfl hd_X2_markDecides ⟨Nat.le_of_ble_eq_true rfl, Nat.le_of_ble_eq_true rfl⟩) ⟨pm_ro_blind, va_recv hK hP (ci := 2) (q0 := 0) rfl rfl, pm_ro_pre hP hK⟩ rfl rfl hl.1 rfl (lv_room (Nat.le_of_ble_eq_true rfl)) dX2_deciders_32 ⟨Nat.le_of_ble_eq_true rfl, Nat.le_of_ble_eq_true rfl⟩) (fun r239 h240 => ?_)
              rcases (show ((pm_mc (S 9 0) (S 4 j3) 2 3 = true) ∧ r239 = nI 1) ∨ (¬ (pm_mc (S 9 0) (S 4 j3) 2 3 = true) ∧ r239 = nI 0) from h240) with ⟨hp241, rfl⟩ | ⟨hp241, rfl⟩
              · skip
                refine lv_if_eq (tgt := 42) hx hb dX2_deciders_35 (by decide) (fun c242 => absurd c242 (by decide)) (fun _ => ?_)
                refine lv_iconst (v := nI 1) hx hb dX2_deciders_38 (by decide) ?_
                refine lv_goto (tgt := 43) hx hb dX2_deciders_39 (by decide) ?_
                refine vp_callSi (W.runS (As := [.int (nI (pm_ds S j3 2)), .int (nI 2), .int (nI 1)]) (rest := []) ⟨hx, hb, hml, hown, hts⟩ (k_X2_withEditor l (nI (pm_ds S j3 2)) (nI 2) (nI 1)) (va_cwS 3 hts gX2_deciders_X2_withEditor rfl rfl rfl hd_X2_withEditor ⟨Nat.le_of_ble_eq_true rfl, Nat.le_of_ble_eq_true rfl⟩) ⟨pm_no_blind, pm_no_pre⟩ rfl rfl hl.1 rfl (lv_room (Nat.le_of_ble_eq_true rfl)) dX2_deciders_43 ⟨Nat.le_of_ble_eq_true rfl, Nat.le_of_ble_eq_true rfl⟩) (fun r243 h244 => ?_)
                obtain rfl : r243 = pm_we (nI (pm_ds S j3 2)) (nI 2) (nI 1) := h244
                refine lv_topi (fun x245 e246 => ?_)
                obtain rfl : x245 = nI (pm_ds S j3 3) := e246.trans ((by first | exact pm_ds_p (n := 2) (by decide) (by assumption) (by assumption) | exact pm_ds_n (n := 2) (by decide) (fun z => absurd z.1 (by assumption)) | exact pm_ds_n (n := 2) (by decide) (fun z => absurd z.2 (by assumption))))
                refine lv_istore_n (lv' := [(2, .int (nI (pm_ds S j3 3))), (3, .int (nI 2)), (0, .ref (q 0)), (1, .int (nI j3))]) hx hb dX2_deciders_46 rfl hl (by decide) rfl (fun ls hl => ?_)
                refine lv_iinc (v := nI 3) (lv' := [(3, .int (nI 3)), (2, .int (nI (pm_ds S j3 3))), (0, .ref (q 0)), (1, .int (nI j3))]) hx hb dX2_deciders_47 hl (k := 1) rfl (by decide) (by decide) rfl (fun ls hl => ?_)
                refine lv_goto (tgt := 13) hx hb dX2_deciders_50 (by decide) ?_
                refine lv_iload_n hx hb dX2_deciders_13 rfl (lv_at hl 0 rfl) ?_
                refine lv_iconst (v := nI 3) hx hb dX2_deciders_14 (by decide) ?_
                refine lv_icmp_ge (tgt := 53) hx hb dX2_deciders_15 (by decide) (fun _ => ?_) (fun c247 => (c247 (by decide)).elim)
                refine lv_iload_n hx hb dX2_deciders_53 rfl (lv_at hl 1 rfl) ?_
                exact W.iret hx hb hr (fun t ht _ => ⟨_, rfl, (by simp only [pm_dec, pm_ix_in hj3 (show (30 : Nat) < 2 ^ 31 by decide)]), ht⟩) (fun _ h => absurd h List.not_mem_nil) dX2_deciders_54
              · skip
                refine lv_if_eq (tgt := 42) hx hb dX2_deciders_35 (by decide) (fun _ => ?_) (fun c248 => (c248 (by decide)).elim)
                refine lv_iconst (v := nI 0) hx hb dX2_deciders_42 (by decide) ?_
                refine vp_callSi (W.runS (As := [.int (nI (pm_ds S j3 2)), .int (nI 2), .int (nI 0)]) (rest := []) ⟨hx, hb, hml, hown, hts⟩ (k_X2_withEditor l (nI (pm_ds S j3 2)) (nI 2) (nI 0)) (va_cwS 3 hts gX2_deciders_X2_withEditor rfl rfl rfl hd_X2_withEditor ⟨Nat.le_of_ble_eq_true rfl, Nat.le_of_ble_eq_true rfl⟩) ⟨pm_no_blind, pm_no_pre⟩ rfl rfl hl.1 rfl (lv_room (Nat.le_of_ble_eq_true rfl)) dX2_deciders_43 ⟨Nat.le_of_ble_eq_true rfl, Nat.le_of_ble_eq_true rfl⟩) (fun r249 h250 => ?_)
                obtain rfl : r249 = pm_we (nI (pm_ds S j3 2)) (nI 2) (nI 0) := h250
                refine lv_topi (fun x251 e252 => ?_)
                obtain rfl : x251 = nI (pm_ds S j3 3) := e252.trans ((by first | exact pm_ds_p (n := 2) (by decide) (by assumption) (by assumption) | exact pm_ds_n (n := 2) (by decide) (fun z => absurd z.1 (by assumption)) | exact pm_ds_n (n := 2) (by decide) (fun z => absurd z.2 (by assumption))))
                refine lv_istore_n (lv' := [(2, .int (nI (pm_ds S j3 3))), (3, .int (nI 2)), (0, .ref (q 0)), (1, .int (nI j3))]) hx hb dX2_deciders_46 rfl hl (by decide) rfl (fun ls hl => ?_)
                refine lv_iinc (v := nI 3) (lv' := [(3, .int (nI 3)), (2, .int (nI (pm_ds S j3 3))), (0, .ref (q 0)), (1, .int (nI j3))]) hx hb dX2_deciders_47 hl (k := 1) rfl (by decide) (by decide) rfl (fun ls hl => ?_)
                refine lv_goto (tgt := 13) hx hb dX2_deciders_50 (by decide) ?_
                refine lv_iload_n hx hb dX2_deciders_13 rfl (lv_at hl 0 rfl) ?_
                refine lv_iconst (v := nI 3) hx hb dX2_deciders_14 (by decide) ?_
                refine lv_icmp_ge (tgt := 53) hx hb dX2_deciders_15 (by decide) (fun _ => ?_) (fun c253 => (c253 (by decide)).elim)
                refine lv_iload_n hx hb dX2_deciders_53 rfl (lv_at hl 1 rfl) ?_
                exact W.iret hx hb hr (fun t ht _ => ⟨_, rfl, (by simp only [pm_dec, pm_ix_in hj3 (show (30 : Nat) < 2 ^ 31 by decide)]), ht⟩) (fun _ h => absurd h List.not_mem_nil) dX2_deciders_54
          · skip
            refine lv_if_eq (tgt := 42) hx hb dX2_deciders_35 (by decide) (fun _ => ?_) (fun c254 => (c254 (by decide)).elim)
            refine lv_iconst (v := nI 0) hx hb dX2_deciders_42 (by decide) ?_
            refine vp_callSi (W.runS (As := [.int (nI (pm_ds S j3 1)), .int (nI 1), .int (nI 0)]) (rest := []) ⟨hx, hb, hml, hown, hts⟩ (k_X2_withEditor l (nI (pm_ds S j3 1)) (nI 1) (nI 0)) (va_cwS 3 hts gX2_deciders_X2_withEditor rfl rfl rfl hd_X2_withEditor ⟨Nat.le_of_ble_eq_true rfl, Nat.le_of_ble_eq_true rfl⟩) ⟨pm_no_blind, pm_no_pre⟩ rfl rfl hl.1 rfl (lv_room (Nat.le_of_ble_eq_true rfl)) dX2_deciders_43 ⟨Nat.le_of_ble_eq_true rfl, Nat.le_of_ble_eq_true rfl⟩) (fun r255 h256 => ?_)
            obtain rfl : r255 = pm_we (nI (pm_ds S j3 1)) (nI 1) (nI 0) := h256
            refine lv_topi (fun x257 e258 => ?_)
            obtain rfl : x257 = nI (pm_ds S j3 2) := e258.trans ((by first | exact pm_ds_p (n := 1) (by decide) (by assumption) (by assumption) | exact pm_ds_n (n := 1) (by decide) (fun z => absurd z.1 (by assumption)) | exact pm_ds_n (n := 1) (by decide) (fun z => absurd z.2 (by assumption))))
            refine lv_istore_n (lv' := [(2, .int (nI (pm_ds S j3 2))), (3, .int (nI 1)), (0, .ref (q 0)), (1, .int (nI j3))]) hx hb dX2_deciders_46 rfl hl (by decide) rfl (fun ls hl => ?_)
            refine lv_iinc (v := nI 2) (lv' := [(3, .int (nI 2)), (2, .int (nI (pm_ds S j3 2))), (0, .ref (q 0)), (1, .int (nI j3))]) hx hb dX2_deciders_47 hl (k := 1) rfl (by decide) (by decide) rfl (fun ls hl => ?_)
            refine lv_goto (tgt := 13) hx hb dX2_deciders_50 (by decide) ?_
            refine lv_iload_n hx hb dX2_deciders_13 rfl (lv_at hl 0 rfl) ?_
            refine lv_iconst (v := nI 3) hx hb dX2_deciders_14 (by decide) ?_
            refine lv_icmp_ge (tgt := 53) hx hb dX2_deciders_15 (by decide) (fun c259 => absurd c259 (by decide)) (fun _ => ?_)
            refine lv_iload_n hx hb dX2_deciders_18 rfl (lv_at hl 1 rfl) ?_
            refine lv_iload_n hx hb dX2_deciders_19 rfl (lv_at hl 0 rfl) ?_
            refine lv_aload_n hx hb dX2_deciders_20 rfl (lv_at hl 2 rfl) ?_
            refine va_get (D := D) (ci := 2) (v := .ref (q 2)) (C := RX2) (T := TX2) (N := 15) hx hb hts hin2 hown hK hP 0 rfl rfl 1 (by decide) (hts (.fieldLink RX2 15 "ProofMarks$Sheet" "how" "[I") (List.mem_of_getElem? (i := 1) rfl)) (fun _ h9 => h9) rfl dX2_deciders_21 ?_
            refine lv_iload_n hx hb dX2_deciders_24 rfl (lv_at hl 3 rfl) ?_
            refine kx_iald (v := nI ((S 0) j3)) hx hb hK hP 2 0 rfl rfl (by omega) (by decide) rfl dX2_deciders_25 ?_
            have := hI.how j3 (by omega)
            refine kx_if_ne (tgt := 42) hx hb (by omega) dX2_deciders_26 (by decide) (fun c260 => ?_) (fun c260 => ?_)
            · skip
              refine lv_iconst (v := nI 0) hx hb dX2_deciders_42 (by decide) ?_
              refine vp_callSi (W.runS (As := [.int (nI (pm_ds S j3 2)), .int (nI 2), .int (nI 0)]) (rest := []) ⟨hx, hb, hml, hown, hts⟩ (k_X2_withEditor l (nI (pm_ds S j3 2)) (nI 2) (nI 0)) (va_cwS 3 hts gX2_deciders_X2_withEditor rfl rfl rfl hd_X2_withEditor ⟨Nat.le_of_ble_eq_true rfl, Nat.le_of_ble_eq_true rfl⟩) ⟨pm_no_blind, pm_no_pre⟩ rfl rfl hl.1 rfl (lv_room (Nat.le_of_ble_eq_true rfl)) dX2_deciders_43 ⟨Nat.le_of_ble_eq_true rfl, Nat.le_of_ble_eq_true rfl⟩) (fun r261 h262 => ?_)
              obtain rfl : r261 = pm_we (nI (pm_ds S j3 2)) (nI 2) (nI 0) := h262
              refine lv_topi (fun x263 e264 => ?_)
              obtain rfl : x263 = nI (pm_ds S j3 3) := e264.trans ((by first | exact pm_ds_p (n := 2) (by decide) (by assumption) (by assumption) | exact pm_ds_n (n := 2) (by decide) (fun z => absurd z.1 (by assumption)) | exact pm_ds_n (n := 2) (by decide) (fun z => absurd z.2 (by assumption))))
              refine lv_istore_n (lv' := [(2, .int (nI (pm_ds S j3 3))), (3, .int (nI 2)), (0, .ref (q 0)), (1, .int (nI j3))]) hx hb dX2_deciders_46 rfl hl (by decide) rfl (fun ls hl => ?_)
              refine lv_iinc (v := nI 3) (lv' := [(3, .int (nI 3)), (2, .int (nI (pm_ds S j3 3))), (0, .ref (q 0)), (1, .int (nI j3))]) hx hb dX2_deciders_47 hl (k := 1) rfl (by decide) (by decide) rfl (fun ls hl => ?_)
              refine lv_goto (tgt := 13) hx hb dX2_deciders_50 (by decide) ?_
              refine lv_iload_n hx hb dX2_deciders_13 rfl (lv_at hl 0 rfl) ?_
              refine lv_iconst (v := nI 3) hx hb dX2_deciders_14 (by decide) ?_
              refine lv_icmp_ge (tgt := 53) hx hb dX2_deciders_15 (by decide) (fun _ => ?_) (fun c265 => (c265 (by decide)).elim)
              refine lv_iload_n hx hb dX2_deciders_53 rfl (lv_at hl 1 rfl) ?_
              exact W.iret hx hb hr (fun t ht _ => ⟨_, rfl, (by simp only [pm_dec, pm_ix_in hj3 (show (30 : Nat) < 2 ^ 31 by decide)]), ht⟩) (fun _ h => absurd h List.not_mem_nil) dX2_deciders_54
            · skip
              refine lv_aload_n hx hb dX2_deciders_29 rfl (lv_at hl 2 rfl) ?_
              refine lv_iload_n hx hb dX2_deciders_30 rfl (lv_at hl 0 rfl) ?_
              refine lv_iload_n hx hb dX2_deciders_31 rfl (lv_at hl 3 rfl) ?_
              refine vp_callSi (W.runV (As := [.int (nI 2), .int (nI j3)]) (rest := [.int (nI 2), .int (nI (pm_ds S j3 2))]) ⟨hx, hb, hml, hown, hts⟩ (k_X2_markDecides l D y q S 2 j3 hI (by omega) (by omega)) (cwV 2 hts gX2_deciders_X2_markDecides rfl rfl rfl hd_X2_markDecides ⟨Nat.le_of_ble_eq_true rfl, Nat.le_of_ble_eq_true rfl⟩) ⟨pm_ro_blind, va_recv hK hP (ci := 2) (q0 := 0) rfl rfl, pm_ro_pre hP hK⟩ rfl rfl hl.1 rfl (lv_room (Nat.le_of_ble_eq_true rfl)) dX2_deciders_32 ⟨Nat.le_of_ble_eq_true rfl, Nat.le_of_ble_eq_true rfl⟩) (fun r266 h267 => ?_)
              rcases (show ((pm_mc (S 9 0) (S 4 j3) 2 3 = true) ∧ r266 = nI 1) ∨ (¬ (pm_mc (S 9 0) (S 4 j3) 2 3 = true) ∧ r266 = nI 0) from h267) with ⟨hp268, rfl⟩ | ⟨hp268, rfl⟩
              · skip
                refine lv_if_eq (tgt := 42) hx hb dX2_deciders_35 (by decide) (fun c269 => absurd c269 (by decide)) (fun _ => ?_)
                refine lv_iconst (v := nI 1) hx hb dX2_deciders_38 (by decide) ?_
                refine lv_goto (tgt := 43) hx hb dX2_deciders_39 (by decide) ?_
                refine vp_callSi (W.runS (As := [.int (nI (pm_ds S j3 2)), .int (nI 2), .int (nI 1)]) (rest := []) ⟨hx, hb, hml, hown, hts⟩ (k_X2_withEditor l (nI (pm_ds S j3 2)) (nI 2) (nI 1)) (va_cwS 3 hts gX2_deciders_X2_withEditor rfl rfl rfl hd_X2_withEditor ⟨Nat.le_of_ble_eq_true rfl, Nat.le_of_ble_eq_true rfl⟩) ⟨pm_no_blind, pm_no_pre⟩ rfl rfl hl.1 rfl (lv_room (Nat.le_of_ble_eq_true rfl)) dX2_deciders_43 ⟨Nat.le_of_ble_eq_true rfl, Nat.le_of_ble_eq_true rfl⟩) (fun r270 h271 => ?_)
                obtain rfl : r270 = pm_we (nI (pm_ds S j3 2)) (nI 2) (nI 1) := h271
                refine lv_topi (fun x272 e273 => ?_)
                obtain rfl : x272 = nI (pm_ds S j3 3) := e273.trans ((by first | exact pm_ds_p (n := 2) (by decide) (by assumption) (by assumption) | exact pm_ds_n (n := 2) (by decide) (fun z => absurd z.1 (by assumption)) | exact pm_ds_n (n := 2) (by decide) (fun z => absurd z.2 (by assumption))))
                refine lv_istore_n (lv' := [(2, .int (nI (pm_ds S j3 3))), (3, .int (nI 2)), (0, .ref (q 0)), (1, .int (nI j3))]) hx hb dX2_deciders_46 rfl hl (by decide) rfl (fun ls hl => ?_)
                refine lv_iinc (v := nI 3) (lv' := [(3, .int (nI 3)), (2, .int (nI (pm_ds S j3 3))), (0, .ref (q 0)), (1, .int (nI j3))]) hx hb dX2_deciders_47 hl (k := 1) rfl (by decide) (by decide) rfl (fun ls hl => ?_)
                refine lv_goto (tgt := 13) hx hb dX2_deciders_50 (by decide) ?_
                refine lv_iload_n hx hb dX2_deciders_13 rfl (lv_at hl 0 rfl) ?_
                refine lv_iconst (v := nI 3) hx hb dX2_deciders_14 (by decide) ?_
                refine lv_icmp_ge (tgt := 53) hx hb dX2_deciders_15 (by decide) (fun _ => ?_) (fun c274 => (c274 (by decide)).elim)
                refine lv_iload_n hx hb dX2_deciders_53 rfl (lv_at hl 1 rfl) ?_
                exact W.iret hx hb hr (fun t ht _ => ⟨_, rfl, (by simp only [pm_dec, pm_ix_in hj3 (show (30 : Nat) < 2 ^ 31 by decide)]), ht⟩) (fun _ h => absurd h List.not_mem_nil) dX2_deciders_54
              · skip
                refine lv_if_eq (tgt := 42) hx hb dX2_deciders_35 (by decide) (fun _ => ?_) (fun c275 => (c275 (by decide)).elim)
                refine lv_iconst (v := nI 0) hx hb dX2_deciders_42 (by decide) ?_
                refine vp_callSi (W.runS (As := [.int (nI (pm_ds S j3 2)), .int (nI 2), .int (nI 0)]) (rest := []) ⟨hx, hb, hml, hown, hts⟩ (k_X2_withEditor l (nI (pm_ds S j3 2)) (nI 2) (nI 0)) (va_cwS 3 hts gX2_deciders_X2_withEditor rfl rfl rfl hd_X2_withEditor ⟨Nat.le_of_ble_eq_true rfl, Nat.le_of_ble_eq_true rfl⟩) ⟨pm_no_blind, pm_no_pre⟩ rfl rfl hl.1 rfl (lv_room (Nat.le_of_ble_eq_true rfl)) dX2_deciders_43 ⟨Nat.le_of_ble_eq_true rfl, Nat.le_of_ble_eq_true rfl⟩) (fun r276 h277 => ?_)
                obtain rfl : r276 = pm_we (nI (pm_ds S j3 2)) (nI 2) (nI 0) := h277
                refine lv_topi (fun x278 e279 => ?_)
                obtain rfl : x278 = nI (pm_ds S j3 3) := e279.trans ((by first | exact pm_ds_p (n := 2) (by decide) (by assumption) (by assumption) | exact pm_ds_n (n := 2) (by decide) (fun z => absurd z.1 (by assumption)) | exact pm_ds_n (n := 2) (by decide) (fun z => absurd z.2 (by assumption))))
                refine lv_istore_n (lv' := [(2, .int (nI (pm_ds S j3 3))), (3, .int (nI 2)), (0, .ref (q 0)), (1, .int (nI j3))]) hx hb dX2_deciders_46 rfl hl (by decide) rfl (fun ls hl => ?_)
                refine lv_iinc (v := nI 3) (lv' := [(3, .int (nI 3)), (2, .int (nI (pm_ds S j3 3))), (0, .ref (q 0)), (1, .int (nI j3))]) hx hb dX2_deciders_47 hl (k := 1) rfl (by decide) (by decide) rfl (fun ls hl => ?_)
                refine lv_goto (tgt := 13) hx hb dX2_deciders_50 (by decide) ?_
                refine lv_iload_n hx hb dX2_deciders_13 rfl (lv_at hl 0 rfl) ?_
                refine lv_iconst (v := nI 3) hx hb dX2_deciders_14 (by decide) ?_
                refine lv_icmp_ge (tgt := 53) hx hb dX2_deciders_15 (by decide) (fun _ => ?_) (fun c280 => (c280 (by decide)).elim)
                refine lv_iload_n hx hb dX2_deciders_53 rfl (lv_at hl 1 rfl) ?_
                exact W.iret hx hb hr (fun t ht _ => ⟨_, rfl, (by simp only [pm_dec, pm_ix_in hj3 (show (30 : Nat) < 2 ^ 31 by decide)]), ht⟩) (fun _ h => absurd h List.not_mem_nil) dX2_deciders_54
  · skip
    refine lv_if_ne (tgt := 9) hx hb dX2_deciders_4 (by decide) (fun c281 => (c281 (by decide)).elim) (fun _ => ?_)
    refine lv_iconst (v := -1) hx hb dX2_deciders_7 (by decide) ?_
    exact W.iret hx hb hr (fun t ht _ => ⟨_, rfl, (by simp only [pm_dec, pm_ix_out hnj3]), ht⟩) (fun _ h => absurd h List.not_mem_nil) dX2_deciders_8

set_option maxHeartbeats 4000000 in
set_option maxRecDepth 100000 in
theorem k_X2_agreement (l : Launch) (D : va_G) (y : Nat → ClassId) (q : Nat → Nat) (S : Nat → Nat → Nat) (xe xo : Int32) (hI : pm_Inv S) : Met l yX2_agreement wsX2_agreement ({ frames := 1, cells := 0, slots := 0, locals := 23 } : Room) (pm_ro D (pm_ty y) [.ref (q 0), .int xe, .int xo] (pm_shS y q S)) (vp_Si (fun r : Int32 => r = pm_agr S xe xo)) 0 0 (fun _ => False) := by
  refine Met.ofW (cc := cX2_agreement) (maxL := 8) (ret := (some .int)) (by decide) rfl ?_
  intro p e s m args below meth c s₁ B hml hpre
  obtain ⟨rfl, hP, hK⟩ := hpre
  have hx := B.exec
  have hb := B.bytes
  have hr := B.returns
  have hts := atoms_spec (ws := wsX2_agreement) B.pre
  have hown : s.vm.findClass RX2 = some m.cls := findClass_of_methodNamed B.named
  have hlocks := B.notSynchronized
  have hin2 : ∀ w ∈ u_ws RX2 TX2 15, w ∈ wsX2_agreement := fun w h => List.mem_cons_of_mem _ (List.mem_append_right _ h)
  have hP : va_P D vwCl (pm_shS y q S) s.heap := hP
  have hl := lv_entry ([.ref (q 0), .int xe, .int xo]) (n := 8) (Nat.le_of_ble_eq_true rfl)
  rw [lg_entry_eq]
  generalize (lg_sl ([.ref (q 0), .int xe, .int xo]) ++ List.replicate (8 - (lg_sl ([.ref (q 0), .int xe, .int xo])).length) Slot.unset).toArray = ls at hl ⊢
  have hl : lv_has ls 8 [(0, .ref (q 0)), (1, .int xe), (2, .int xo)] := hl
  refine lv_iload_n hx hb dX2_agreement_0 rfl (lv_at hl 1 rfl) ?_
  refine vp_callSi (W.runS (As := [.int xe]) (rest := []) ⟨hx, hb, hml, hown, hts⟩ (k_X2_isEditor l xe) (va_cwS 1 hts gX2_agreement_X2_isEditor rfl rfl rfl hd_X2_isEditor ⟨Nat.le_of_ble_eq_true rfl, Nat.le_of_ble_eq_true rfl⟩) ⟨pm_no_blind, pm_no_pre⟩ rfl rfl hl.1 rfl (lv_room (Nat.le_of_ble_eq_true rfl)) dX2_agreement_1 ⟨Nat.le_of_ble_eq_true rfl, Nat.le_of_ble_eq_true rfl⟩) (fun r1 h2 => ?_)
  rcases h2 with ⟨j3, hj3, ej3, rfl⟩ | ⟨hnj3, rfl⟩
  · subst ej3
    refine lv_if_eq (tgt := 14) hx hb dX2_agreement_4 (by decide) (fun c4 => absurd c4 (by decide)) (fun _ => ?_)
    refine lv_iload_n hx hb dX2_agreement_7 rfl (lv_at hl 2 rfl) ?_
    refine vp_callSi (W.runS (As := [.int xo]) (rest := []) ⟨hx, hb, hml, hown, hts⟩ (k_X2_isEditor l xo) (va_cwS 1 hts gX2_agreement_X2_isEditor rfl rfl rfl hd_X2_isEditor ⟨Nat.le_of_ble_eq_true rfl, Nat.le_of_ble_eq_true rfl⟩) ⟨pm_no_blind, pm_no_pre⟩ rfl rfl hl.1 rfl (lv_room (Nat.le_of_ble_eq_true rfl)) dX2_agreement_8 ⟨Nat.le_of_ble_eq_true rfl, Nat.le_of_ble_eq_true rfl⟩) (fun r5 h6 => ?_)
    rcases h6 with ⟨j7, hj7, ej7, rfl⟩ | ⟨hnj7, rfl⟩
    · subst ej7
      refine lv_if_ne (tgt := 16) hx hb dX2_agreement_11 (by decide) (fun _ => ?_) (fun c8 => absurd c8 (by decide))
      refine lv_iconst (v := nI 0) hx hb dX2_agreement_16 (by decide) ?_
      refine lv_istore_n (lv' := [(3, .int (nI 0)), (0, .ref (q 0)), (1, .int (nI j3)), (2, .int (nI j7))]) hx hb dX2_agreement_17 rfl hl (by decide) rfl (fun ls hl => ?_)
      refine lv_iconst (v := nI 0) hx hb dX2_agreement_18 (by decide) ?_
      refine lv_istore (lv' := [(4, .int (nI 0)), (3, .int (nI 0)), (0, .ref (q 0)), (1, .int (nI j3)), (2, .int (nI j7))]) hx hb dX2_agreement_19 hl (by decide) rfl (fun ls hl => ?_)
      refine lv_iconst (v := nI 0) hx hb dX2_agreement_21 (by decide) ?_
      refine lv_istore (lv' := [(5, .int (nI 0)), (4, .int (nI 0)), (3, .int (nI 0)), (0, .ref (q 0)), (1, .int (nI j3)), (2, .int (nI j7))]) hx hb dX2_agreement_22 hl (by decide) rfl (fun ls hl => ?_)
      have LOOP24 : ∀ (n k : Nat) (ls : Array Slot), k ≤ 30 → 30 - k < n → lv_has ls 8 [(0, .ref (q 0)), (1, .int (nI j3)), (2, .int (nI j7)), (3, .int (nI (pm_bo S j3 j7 k))), (4, .int (nI (pm_sa S j3 j7 k))), (5, .int (nI k))] → W p l e (headSpec wsX2_agreement ({ frames := 1, cells := 0, slots := 0, locals := 23 } : Room)).room s m ([.ref (q 0), .int (nI j3), .int (nI j7)] : List Value).toArray below meth c s.heap [] 0 0 (MQ below (vp_Si (fun r : Int32 => r = pm_agr S (nI j3) (nI j7))) ([.ref (q 0), .int (nI j3), .int (nI j7)] : List Value).toArray s 0 0 (fun _ => False)) (F0 m 24 ls []) := by
        intro n
        induction n with
        | zero => intro k _ hi hn; omega
        | succ n ih9 =>
          intro k ls hi_k hn_k hl 
          have := pm_num_le (fun k => decide (¬ pm_mk (S 4 k) j3 = 0 ∧ ¬ pm_mk (S 4 k) j7 = 0)) k
          have hbo : pm_bo S j3 j7 k ≤ k := this
          have := pm_num_le (fun k => decide ((¬ pm_mk (S 4 k) j3 = 0 ∧ ¬ pm_mk (S 4 k) j7 = 0) ∧ pm_mk (S 4 k) j3 = pm_mk (S 4 k) j7)) k
          have hsa : pm_sa S j3 j7 k ≤ k := this
          refine lv_iload hx hb dX2_agreement_24 (lv_at hl 5 rfl) ?_
          refine lv_bipush (v := nI 30) hx hb dX2_agreement_26 (by decide) ?_
          refine kx_icmp_ge (tgt := 85) hx hb (by omega) (by decide) dX2_agreement_28 (by decide) (fun c10 => ?_) (fun c10 => ?_)
          · skip
            refine lv_iload_n hx hb dX2_agreement_85 rfl (lv_at hl 3 rfl) ?_
            refine kx_if_ne (tgt := 94) hx hb (by omega) dX2_agreement_86 (by decide) (fun c11 => ?_) (fun c11 => ?_)
            · skip
              refine lv_bipush (v := nI 100) hx hb dX2_agreement_94 (by decide) ?_
              refine lv_iload hx hb dX2_agreement_96 (lv_at hl 4 rfl) ?_
              refine kx_imul hx hb dX2_agreement_98 ?_
              refine lv_iload_n hx hb dX2_agreement_99 rfl (lv_at hl 3 rfl) ?_
              refine kx_idiv hx hb (by omega) (by omega) (by omega) dX2_agreement_100 ?_
              exact W.iret hx hb hr (fun t ht _ => ⟨_, rfl, (by have h9 : k = 30 := (by omega); subst h9; simp only [pm_agr, pm_ix_in hj3 (show (3 : Nat) < 2 ^ 31 by decide), pm_ix_in hj7 (show (3 : Nat) < 2 ^ 31 by decide)] <;> (first | rw [if_pos (by assumption)] | rw [if_neg (by assumption)])), ht⟩) (fun _ h => absurd h List.not_mem_nil) dX2_agreement_101
            · skip
              refine lv_bipush (v := nI 100) hx hb dX2_agreement_89 (by decide) ?_
              refine lv_goto (tgt := 101) hx hb dX2_agreement_91 (by decide) ?_
              exact W.iret hx hb hr (fun t ht _ => ⟨_, rfl, (by have h9 : k = 30 := (by omega); subst h9; simp only [pm_agr, pm_ix_in hj3 (show (3 : Nat) < 2 ^ 31 by decide), pm_ix_in hj7 (show (3 : Nat) < 2 ^ 31 by decide)] <;> (first | rw [if_pos (by assumption)] | rw [if_neg (by assumption)])), ht⟩) (fun _ h => absurd h List.not_mem_nil) dX2_agreement_101
          · skip
            refine lv_aload_n hx hb dX2_agreement_31 rfl (lv_at hl 0 rfl) ?_
            refine lv_iload_n hx hb dX2_agreement_32 rfl (lv_at hl 1 rfl) ?_
            refine lv_iload hx hb dX2_agreement_33 (lv_at hl 5 rfl) ?_
            refine vp_callSi (W.runV (As := [.int (nI j3), .int (nI k)]) (rest := []) ⟨hx, hb, hml, hown, hts⟩ (k_X2_markOf l D y q S j3 k (hI.okm k (by omega)) (by omega) (by omega)) (cwV 2 hts gX2_agreement_X2_markOf rfl rfl rfl hd_X2_markOf ⟨Nat.le_of_ble_eq_true rfl, Nat.le_of_ble_eq_true rfl⟩) ⟨pm_ro_blind, va_recv hK hP (ci := 2) (q0 := 0) rfl rfl, pm_ro_pre hP hK⟩ rfl rfl hl.1 rfl (lv_room (Nat.le_of_ble_eq_true rfl)) dX2_agreement_35 ⟨Nat.le_of_ble_eq_true rfl, Nat.le_of_ble_eq_true rfl⟩) (fun r12 h13 => ?_)
            obtain rfl : r12 = nI (pm_mk (S 4 k) j3) := h13
            have := pm_lt4 (S 4 k) j3
            refine lv_istore (lv' := [(6, .int (nI (pm_mk (S 4 k) j3))), (0, .ref (q 0)), (1, .int (nI j3)), (2, .int (nI j7)), (3, .int (nI (pm_bo S j3 j7 k))), (4, .int (nI (pm_sa S j3 j7 k))), (5, .int (nI k))]) hx hb dX2_agreement_38 hl (by decide) rfl (fun ls hl => ?_)
            refine lv_aload_n hx hb dX2_agreement_40 rfl (lv_at hl 1 rfl) ?_
            refine lv_iload_n hx hb dX2_agreement_41 rfl (lv_at hl 3 rfl) ?_
            refine lv_iload hx hb dX2_agreement_42 (lv_at hl 6 rfl) ?_
            refine vp_callSi (W.runV (As := [.int (nI j7), .int (nI k)]) (rest := []) ⟨hx, hb, hml, hown, hts⟩ (k_X2_markOf l D y q S j7 k (hI.okm k (by omega)) (by omega) (by omega)) (cwV 2 hts gX2_agreement_X2_markOf rfl rfl rfl hd_X2_markOf ⟨Nat.le_of_ble_eq_true rfl, Nat.le_of_ble_eq_true rfl⟩) ⟨pm_ro_blind, va_recv hK hP (ci := 2) (q0 := 0) rfl rfl, pm_ro_pre hP hK⟩ rfl rfl hl.1 rfl (lv_room (Nat.le_of_ble_eq_true rfl)) dX2_agreement_44 ⟨Nat.le_of_ble_eq_true rfl, Nat.le_of_ble_eq_true rfl⟩) (fun r14 h15 => ?_)
            obtain rfl : r14 = nI (pm_mk (S 4 k) j7) := h15
            have := pm_lt4 (S 4 k) j7
            refine lv_istore (lv' := [(7, .int (nI (pm_mk (S 4 k) j7))), (6, .int (nI (pm_mk (S 4 k) j3))), (0, .ref (q 0)), (1, .int (nI j3)), (2, .int (nI j7)), (3, .int (nI (pm_bo S j3 j7 k))), (4, .int (nI (pm_sa S j3 j7 k))), (5, .int (nI k))]) hx hb dX2_agreement_47 hl (by decide) rfl (fun ls hl => ?_)
            refine lv_iload hx hb dX2_agreement_49 (lv_at hl 1 rfl) ?_
            refine kx_if_eq (tgt := 79) hx hb (by omega) dX2_agreement_51 (by decide) (fun c16 => ?_) (fun c16 => ?_)
            · skip
              refine kx_iinc (a := k) (lv' := [(5, .int (nI (k + 1))), (7, .int (nI (pm_mk (S 4 k) j7))), (6, .int (nI (pm_mk (S 4 k) j3))), (0, .ref (q 0)), (1, .int (nI j3)), (2, .int (nI j7)), (3, .int (nI (pm_bo S j3 j7 k))), (4, .int (nI (pm_sa S j3 j7 k)))]) hx hb dX2_agreement_79 hl (k := 7) rfl (by decide) rfl (fun ls hl => ?_)
              refine lv_goto (tgt := 24) hx hb dX2_agreement_82 (by decide) ?_
              have q17 : (nI (pm_bo S j3 j7 (k + 1)) : Int32) = nI (pm_bo S j3 j7 k) := (congrArg nI (by first | exact pm_num_p (decide_eq_true (by omega)) | exact pm_num_n (decide_eq_false (by omega))))
              have q18 : (nI (pm_sa S j3 j7 (k + 1)) : Int32) = nI (pm_sa S j3 j7 k) := (congrArg nI (by first | exact pm_num_p (decide_eq_true (by omega)) | exact pm_num_n (decide_eq_false (by omega))))
              exact ih9 (k + 1) ls (by omega) (by omega) (by rw [q17, q18]; exact lv_sub hl [3, 4, 5, 6, 7, 0] rfl) 
            · skip
              refine lv_iload hx hb dX2_agreement_54 (lv_at hl 0 rfl) ?_
              refine kx_if_eq (tgt := 79) hx hb (by omega) dX2_agreement_56 (by decide) (fun c19 => ?_) (fun c19 => ?_)
              · skip
                refine kx_iinc (a := k) (lv' := [(5, .int (nI (k + 1))), (7, .int (nI (pm_mk (S 4 k) j7))), (6, .int (nI (pm_mk (S 4 k) j3))), (0, .ref (q 0)), (1, .int (nI j3)), (2, .int (nI j7)), (3, .int (nI (pm_bo S j3 j7 k))), (4, .int (nI (pm_sa S j3 j7 k)))]) hx hb dX2_agreement_79 hl (k := 7) rfl (by decide) rfl (fun ls hl => ?_)
                refine lv_goto (tgt := 24) hx hb dX2_agreement_82 (by decide) ?_
                have q20 : (nI (pm_bo S j3 j7 (k + 1)) : Int32) = nI (pm_bo S j3 j7 k) := (congrArg nI (by first | exact pm_num_p (decide_eq_true (by omega)) | exact pm_num_n (decide_eq_false (by omega))))
                have q21 : (nI (pm_sa S j3 j7 (k + 1)) : Int32) = nI (pm_sa S j3 j7 k) := (congrArg nI (by first | exact pm_num_p (decide_eq_true (by omega)) | exact pm_num_n (decide_eq_false (by omega))))
                exact ih9 (k + 1) ls (by omega) (by omega) (by rw [q20, q21]; exact lv_sub hl [3, 4, 5, 6, 7, 0] rfl) 
              · skip
                refine kx_iinc (a := (pm_bo S j3 j7 k)) (lv' := [(3, .int (nI (pm_bo S j3 j7 k + 1))), (7, .int (nI (pm_mk (S 4 k) j7))), (6, .int (nI (pm_mk (S 4 k) j3))), (0, .ref (q 0)), (1, .int (nI j3)), (2, .int (nI j7)), (4, .int (nI (pm_sa S j3 j7 k))), (5, .int (nI k))]) hx hb dX2_agreement_59 hl (k := 5) rfl (by decide) rfl (fun ls hl => ?_)
                refine lv_iload hx hb dX2_agreement_62 (lv_at hl 6 rfl) ?_
                refine lv_iload hx hb dX2_agreement_64 (lv_at hl 2 rfl) ?_
                refine lv_iload hx hb dX2_agreement_66 (lv_at hl 1 rfl) ?_
                refine kx_icmp_ne (tgt := 75) hx hb (by omega) (by omega) dX2_agreement_68 (by decide) (fun c22 => ?_) (fun c22 => ?_)
                · skip
                  refine lv_iconst (v := nI 0) hx hb dX2_agreement_75 (by decide) ?_
                  refine kx_iadd hx hb dX2_agreement_76 ?_
                  refine lv_istore (lv' := [(4, .int (nI ((pm_sa S j3 j7 k) + 0))), (3, .int (nI (pm_bo S j3 j7 k + 1))), (7, .int (nI (pm_mk (S 4 k) j7))), (6, .int (nI (pm_mk (S 4 k) j3))), (0, .ref (q 0)), (1, .int (nI j3)), (2, .int (nI j7)), (5, .int (nI k))]) hx hb dX2_agreement_77 hl (by decide) rfl (fun ls hl => ?_)
                  refine kx_iinc (a := k) (lv' := [(5, .int (nI (k + 1))), (4, .int (nI ((pm_sa S j3 j7 k) + 0))), (3, .int (nI (pm_bo S j3 j7 k + 1))), (7, .int (nI (pm_mk (S 4 k) j7))), (6, .int (nI (pm_mk (S 4 k) j3))), (0, .ref (q 0)), (1, .int (nI j3)), (2, .int (nI j7))]) hx hb dX2_agreement_79 hl (k := 7) rfl (by decide) rfl (fun ls hl => ?_)
                  refine lv_goto (tgt := 24) hx hb dX2_agreement_82 (by decide) ?_
                  have q23 : (nI (pm_bo S j3 j7 (k + 1)) : Int32) = nI (pm_bo S j3 j7 k + 1) := (congrArg nI (by first | exact pm_num_p (decide_eq_true (by omega)) | exact pm_num_n (decide_eq_false (by omega))))
                  have q24 : (nI (pm_sa S j3 j7 (k + 1)) : Int32) = nI ((pm_sa S j3 j7 k) + 0) := (congrArg nI (by first | exact pm_num_p (decide_eq_true (by omega)) | exact pm_num_n (decide_eq_false (by omega))))
                  exact ih9 (k + 1) ls (by omega) (by omega) (by rw [q23, q24]; exact lv_sub hl [5, 6, 7, 2, 1, 0] rfl) 
                · skip
                  refine lv_iconst (v := nI 1) hx hb dX2_agreement_71 (by decide) ?_
                  refine lv_goto (tgt := 76) hx hb dX2_agreement_72 (by decide) ?_
                  refine kx_iadd hx hb dX2_agreement_76 ?_
                  refine lv_istore (lv' := [(4, .int (nI ((pm_sa S j3 j7 k) + 1))), (3, .int (nI (pm_bo S j3 j7 k + 1))), (7, .int (nI (pm_mk (S 4 k) j7))), (6, .int (nI (pm_mk (S 4 k) j3))), (0, .ref (q 0)), (1, .int (nI j3)), (2, .int (nI j7)), (5, .int (nI k))]) hx hb dX2_agreement_77 hl (by decide) rfl (fun ls hl => ?_)
                  refine kx_iinc (a := k) (lv' := [(5, .int (nI (k + 1))), (4, .int (nI ((pm_sa S j3 j7 k) + 1))), (3, .int (nI (pm_bo S j3 j7 k + 1))), (7, .int (nI (pm_mk (S 4 k) j7))), (6, .int (nI (pm_mk (S 4 k) j3))), (0, .ref (q 0)), (1, .int (nI j3)), (2, .int (nI j7))]) hx hb dX2_agreement_79 hl (k := 7) rfl (by decide) rfl (fun ls hl => ?_)
                  refine lv_goto (tgt := 24) hx hb dX2_agreement_82 (by decide) ?_
                  have q25 : (nI (pm_bo S j3 j7 (k + 1)) : Int32) = nI (pm_bo S j3 j7 k + 1) := (congrArg nI (by first | exact pm_num_p (decide_eq_true (by omega)) | exact pm_num_n (decide_eq_false (by omega))))
                  have q26 : (nI (pm_sa S j3 j7 (k + 1)) : Int32) = nI ((pm_sa S j3 j7 k) + 1) := (congrArg nI (by first | exact pm_num_p (decide_eq_true (by omega)) | exact pm_num_n (decide_eq_false (by omega))))
                  exact ih9 (k + 1) ls (by omega) (by omega) (by rw [q25, q26]; exact lv_sub hl [5, 6, 7, 2, 1, 0] rfl) 
      exact LOOP24 (30 + 1) 0 ls (by omega) (by omega) (lv_sub hl [3, 4, 5, 2, 1, 0] rfl) 
    · skip
      refine lv_if_ne (tgt := 16) hx hb dX2_agreement_11 (by decide) (fun c27 => (c27 (by decide)).elim) (fun _ => ?_)
      refine lv_iconst (v := -1) hx hb dX2_agreement_14 (by decide) ?_
      exact W.iret hx hb hr (fun t ht _ => ⟨_, rfl, (by simp only [pm_agr, pm_ix_in hj3 (show (3 : Nat) < 2 ^ 31 by decide), pm_ix_out hnj7]), ht⟩) (fun _ h => absurd h List.not_mem_nil) dX2_agreement_15
  · skip
    refine lv_if_eq (tgt := 14) hx hb dX2_agreement_4 (by decide) (fun _ => ?_) (fun c28 => (c28 (by decide)).elim)
    refine lv_iconst (v := -1) hx hb dX2_agreement_14 (by decide) ?_
    exact W.iret hx hb hr (fun t ht _ => ⟨_, rfl, (by simp only [pm_agr, pm_ix_out hnj3]), ht⟩) (fun _ h => absurd h List.not_mem_nil) dX2_agreement_15

theorem pm_pf_le {S : Nat → Nat → Nat} (h : ∀ j, j < 30 → S 2 j < 4) : ∀ n, n ≤ 30 → pm_pf S n ≤ 90 * n
  | 0, _ => Nat.le_refl 0
  | n + 1, hn => by
    have := pm_pf_le h n (by omega)
    have h2 := h n (by omega)
    rw [pm_pf]
    split
    · rcases (show S 2 n = 0 ∨ S 2 n = 1 ∨ S 2 n = 2 ∨ S 2 n = 3 by omega) with e | e | e | e <;> rw [e] <;> omega
    · omega
set_option maxHeartbeats 4000000 in
set_option maxRecDepth 100000 in
theorem k_X2_paperForChosen (l : Launch) (D : va_G) (y : Nat → ClassId) (q : Nat → Nat) (S : Nat → Nat → Nat) (hI : pm_Inv S) : Met l yX2_paperForChosen wsX2_paperForChosen ({ frames := 1, cells := 0, slots := 0, locals := 20 } : Room) (pm_ro D (pm_ty y) [.ref (q 0)] (pm_shS y q S)) (vp_Si (fun r : Int32 => r = nI (pm_pf S 30))) 0 0 (fun _ => False) := by
  refine Met.ofW (cc := cX2_paperForChosen) (maxL := 3) (ret := (some .int)) (by decide) rfl ?_
  intro p e s m args below meth c s₁ B hml hpre
  obtain ⟨rfl, hP, hK⟩ := hpre
  have hx := B.exec
  have hb := B.bytes
  have hr := B.returns
  have hts := atoms_spec (ws := wsX2_paperForChosen) B.pre
  have hown : s.vm.findClass RX2 = some m.cls := findClass_of_methodNamed B.named
  have hlocks := B.notSynchronized
  have hin2 : ∀ w ∈ u_ws RX2 TX2 15, w ∈ wsX2_paperForChosen := fun w h => List.mem_cons_of_mem _ (List.mem_append_right _ h)
  have hP : va_P D vwCl (pm_shS y q S) s.heap := hP
  have hl := lv_entry ([.ref (q 0)]) (n := 3) (Nat.le_of_ble_eq_true rfl)
  rw [lg_entry_eq]
  generalize (lg_sl ([.ref (q 0)]) ++ List.replicate (3 - (lg_sl ([.ref (q 0)])).length) Slot.unset).toArray = ls at hl ⊢
  have hl : lv_has ls 3 [(0, .ref (q 0))] := hl
  refine lv_iconst (v := nI 0) hx hb dX2_paperForChosen_0 (by decide) ?_
  refine lv_istore_n (lv' := [(1, .int (nI 0)), (0, .ref (q 0))]) hx hb dX2_paperForChosen_1 rfl hl (by decide) rfl (fun ls hl => ?_)
  refine lv_iconst (v := nI 0) hx hb dX2_paperForChosen_2 (by decide) ?_
  refine lv_istore_n (lv' := [(2, .int (nI 0)), (1, .int (nI 0)), (0, .ref (q 0))]) hx hb dX2_paperForChosen_3 rfl hl (by decide) rfl (fun ls hl => ?_)
  have LOOP4 : ∀ (n k : Nat) (ls : Array Slot), k ≤ 30 → 30 - k < n → lv_has ls 3 [(0, .ref (q 0)), (1, .int (nI (pm_pf S k))), (2, .int (nI k))] → W p l e (headSpec wsX2_paperForChosen ({ frames := 1, cells := 0, slots := 0, locals := 20 } : Room)).room s m ([.ref (q 0)] : List Value).toArray below meth c s.heap [] 0 0 (MQ below (vp_Si (fun r : Int32 => r = nI (pm_pf S 30))) ([.ref (q 0)] : List Value).toArray s 0 0 (fun _ => False)) (F0 m 4 ls []) := by
    intro n
    induction n with
    | zero => intro k _ hi hn; omega
    | succ n ih1 =>
      intro k ls hi_k hn_k hl 
      refine lv_iload_n hx hb dX2_paperForChosen_4 rfl (lv_at hl 2 rfl) ?_
      refine lv_bipush (v := nI 30) hx hb dX2_paperForChosen_5 (by decide) ?_
      refine kx_icmp_ge (tgt := 38) hx hb (by omega) (by decide) dX2_paperForChosen_7 (by decide) (fun c2 => ?_) (fun c2 => ?_)
      · skip
        refine lv_iload_n hx hb dX2_paperForChosen_38 rfl (lv_at hl 1 rfl) ?_
        exact W.iret hx hb hr (fun t ht _ => ⟨_, rfl, (by rw [show k = 30 by omega]), ht⟩) (fun _ h => absurd h List.not_mem_nil) dX2_paperForChosen_39
      · skip
        refine lv_aload_n hx hb dX2_paperForChosen_10 rfl (lv_at hl 0 rfl) ?_
        refine va_get (D := D) (ci := 2) (v := .ref (q 2)) (C := RX2) (T := TX2) (N := 15) hx hb hts hin2 hown hK hP 0 rfl rfl 1 (by decide) (hts (.fieldLink RX2 15 "ProofMarks$Sheet" "how" "[I") (List.mem_of_getElem? (i := 1) rfl)) (fun _ h9 => h9) rfl dX2_paperForChosen_11 ?_
        refine lv_iload_n hx hb dX2_paperForChosen_14 rfl (lv_at hl 2 rfl) ?_
        refine kx_iald (v := nI ((S 0) k)) hx hb hK hP 2 0 rfl rfl (by omega) (by decide) rfl dX2_paperForChosen_15 ?_
        have := hI.how k (by omega)
        refine lv_iconst (v := nI 1) hx hb dX2_paperForChosen_16 (by decide) ?_
        refine kx_icmp_ne (tgt := 32) hx hb (by omega) (by decide) dX2_paperForChosen_17 (by decide) (fun c3 => ?_) (fun c3 => ?_)
        · skip
          refine kx_iinc (a := k) (lv' := [(2, .int (nI (k + 1))), (0, .ref (q 0)), (1, .int (nI (pm_pf S k)))]) hx hb dX2_paperForChosen_32 hl (k := 2) rfl (by decide) rfl (fun ls hl => ?_)
          refine lv_goto (tgt := 4) hx hb dX2_paperForChosen_35 (by decide) ?_
          have q4 : (nI (pm_pf S (k + 1)) : Int32) = nI (pm_pf S k) := (congrArg nI (by first | exact pm_pf_p (by assumption) | exact pm_pf_n (by assumption)))
          exact ih1 (k + 1) ls (by omega) (by omega) (by rw [q4]; exact lv_sub hl [1, 2, 0] rfl) 
        · skip
          refine lv_iload_n hx hb dX2_paperForChosen_20 rfl (lv_at hl 1 rfl) ?_
          refine lv_aload_n hx hb dX2_paperForChosen_21 rfl (lv_at hl 0 rfl) ?_
          refine va_get (D := D) (ci := 2) (v := .ref (q 6)) (C := RX2) (T := TX2) (N := 15) hx hb hts hin2 hown hK hP 0 rfl rfl 5 (by decide) (hts (.fieldLink RX2 27 "ProofMarks$Sheet" "sizes" "[I") (List.mem_of_getElem? (i := 2) rfl)) (fun _ h9 => h9) rfl dX2_paperForChosen_22 ?_
          refine lv_iload_n hx hb dX2_paperForChosen_25 rfl (lv_at hl 2 rfl) ?_
          refine kx_iald (v := nI ((S 2) k)) hx hb hK hP 6 0 rfl rfl (by omega) (by decide) rfl dX2_paperForChosen_26 ?_
          have := hI.size k (by omega)
          refine vp_callSi (W.runS (As := [.int (nI ((S 2) k))]) (rest := [.int (nI (pm_pf S k))]) ⟨hx, hb, hml, hown, hts⟩ (k_X2_paperOf l ((S 2) k)) (va_cwS 1 hts gX2_paperForChosen_X2_paperOf rfl rfl rfl hd_X2_paperOf ⟨Nat.le_of_ble_eq_true rfl, Nat.le_of_ble_eq_true rfl⟩) ⟨pm_no_blind, pm_no_pre⟩ rfl rfl hl.1 rfl (lv_room (Nat.le_of_ble_eq_true rfl)) dX2_paperForChosen_27 ⟨Nat.le_of_ble_eq_true rfl, Nat.le_of_ble_eq_true rfl⟩) (fun r5 h6 => ?_)
          obtain rfl : r5 = nI (10 * ((S 2) k) * ((S 2) k)) := h6
          refine kx_iadd hx hb dX2_paperForChosen_30 ?_
          refine lv_istore_n (lv' := [(1, .int (nI ((pm_pf S k) + (10 * ((S 2) k) * ((S 2) k))))), (0, .ref (q 0)), (2, .int (nI k))]) hx hb dX2_paperForChosen_31 rfl hl (by decide) rfl (fun ls hl => ?_)
          refine kx_iinc (a := k) (lv' := [(2, .int (nI (k + 1))), (1, .int (nI ((pm_pf S k) + (10 * ((S 2) k) * ((S 2) k))))), (0, .ref (q 0))]) hx hb dX2_paperForChosen_32 hl (k := 2) rfl (by decide) rfl (fun ls hl => ?_)
          refine lv_goto (tgt := 4) hx hb dX2_paperForChosen_35 (by decide) ?_
          have q7 : (nI (pm_pf S (k + 1)) : Int32) = nI ((pm_pf S k) + (10 * ((S 2) k) * ((S 2) k))) := (congrArg nI (by first | exact pm_pf_p (by assumption) | exact pm_pf_n (by assumption)))
          exact ih1 (k + 1) ls (by omega) (by omega) (by rw [q7]; exact lv_sub hl [2, 1, 0] rfl) 
  exact LOOP4 (30 + 1) 0 ls (by omega) (by omega) (lv_sub hl [2, 1, 0] rfl) 

set_option maxHeartbeats 4000000 in
set_option maxRecDepth 100000 in
theorem k_X2_chosenAt (l : Launch) (D : va_G) (y : Nat → ClassId) (q : Nat → Nat) (S : Nat → Nat → Nat) (xk : Int32) (hI : pm_Inv S) : Met l yX2_chosenAt wsX2_chosenAt ({ frames := 1, cells := 0, slots := 0, locals := 21 } : Room) (pm_ro D (pm_ty y) [.ref (q 0), .int xk] (pm_shS y q S)) (vp_Si (fun r : Int32 => pm_isch S xk r)) 0 0 (fun _ => False) := by
  refine Met.ofW (cc := cX2_chosenAt) (maxL := 5) (ret := (some .int)) (by decide) rfl ?_
  intro p e s m args below meth c s₁ B hml hpre
  obtain ⟨rfl, hP, hK⟩ := hpre
  have hx := B.exec
  have hb := B.bytes
  have hr := B.returns
  have hts := atoms_spec (ws := wsX2_chosenAt) B.pre
  have hown : s.vm.findClass RX2 = some m.cls := findClass_of_methodNamed B.named
  have hlocks := B.notSynchronized
  have hin2 : ∀ w ∈ u_ws RX2 TX2 15, w ∈ wsX2_chosenAt := fun w h => List.mem_cons_of_mem _ (List.mem_append_right _ h)
  have hP : va_P D vwCl (pm_shS y q S) s.heap := hP
  have hl := lv_entry ([.ref (q 0), .int xk]) (n := 5) (Nat.le_of_ble_eq_true rfl)
  rw [lg_entry_eq]
  generalize (lg_sl ([.ref (q 0), .int xk]) ++ List.replicate (5 - (lg_sl ([.ref (q 0), .int xk])).length) Slot.unset).toArray = ls at hl ⊢
  have hl : lv_has ls 5 [(0, .ref (q 0)), (1, .int xk)] := hl
  refine lv_iload_n hx hb dX2_chosenAt_0 rfl (lv_at hl 1 rfl) ?_
  refine lv_if_ge (tgt := 6) hx hb dX2_chosenAt_1 (by decide) (fun c1 => ?_) (fun c1 => ?_)
  · skip
    refine lv_iconst (v := nI 0) hx hb dX2_chosenAt_6 (by decide) ?_
    refine lv_istore_n (lv' := [(2, .int (nI 0)), (0, .ref (q 0)), (1, .int xk)]) hx hb dX2_chosenAt_7 rfl hl (by decide) rfl (fun ls hl => ?_)
    refine lv_iconst (v := nI 0) hx hb dX2_chosenAt_8 (by decide) ?_
    refine lv_istore_n (lv' := [(3, .int (nI 0)), (2, .int (nI 0)), (0, .ref (q 0)), (1, .int xk)]) hx hb dX2_chosenAt_9 rfl hl (by decide) rfl (fun ls hl => ?_)
    have LOOP10 : ∀ (n rr : Nat) (ls : Array Slot), rr ≤ S 10 0 → S 10 0 - rr < n → lv_has ls 5 [(0, .ref (q 0)), (1, .int xk), (2, .int (nI (pm_A S rr 30))), (3, .int (nI rr))] → (∀ k, k < 30 → (S 0 k = 1 ∨ S 0 k = 3) → S 3 k ≤ rr → ¬ xk = nI (pm_ahd S k)) → W p l e (headSpec wsX2_chosenAt ({ frames := 1, cells := 0, slots := 0, locals := 21 } : Room)).room s m ([.ref (q 0), .int xk] : List Value).toArray below meth c s.heap [] 0 0 (MQ below (vp_Si (fun r : Int32 => pm_isch S xk r)) ([.ref (q 0), .int xk] : List Value).toArray s 0 0 (fun _ => False)) (F0 m 10 ls []) := by
      intro n
      induction n with
      | zero => intro rr _ hi hn; omega
      | succ n ih2 =>
        intro rr ls hi_rr hn_rr hl hh10_0
        have := hI.rnd
        refine lv_iload_n hx hb dX2_chosenAt_10 rfl (lv_at hl 3 rfl) ?_
        refine lv_aload_n hx hb dX2_chosenAt_11 rfl (lv_at hl 0 rfl) ?_
        refine va_get (D := D) (ci := 2) (v := .int (nI (S 10 0))) (C := RX2) (T := TX2) (N := 15) hx hb hts hin2 hown hK hP 0 rfl rfl 12 (by decide) (hts (.fieldLink RX2 48 "ProofMarks$Sheet" "rounds" "I") (List.mem_of_getElem? (i := 1) rfl)) (fun _ h9 => h9) rfl dX2_chosenAt_12 ?_
        have := hI.rnd
        refine kx_icmp_ge (tgt := 71) hx hb (by omega) (by omega) dX2_chosenAt_15 (by decide) (fun c3 => ?_) (fun c3 => ?_)
        · skip
          refine lv_iconst (v := -1) hx hb dX2_chosenAt_71 (by decide) ?_
          exact W.iret hx hb hr (fun t ht _ => ⟨_, rfl, (Or.inr ⟨fun k hk pk => hh10_0 k hk pk (Nat.le_trans (hI.chi k hk) (by omega)), rfl⟩), ht⟩) (fun _ h => absurd h List.not_mem_nil) dX2_chosenAt_72
        · skip
          refine lv_iconst (v := nI 0) hx hb dX2_chosenAt_18 (by decide) ?_
          refine lv_istore (lv' := [(4, .int (nI 0)), (0, .ref (q 0)), (1, .int xk), (2, .int (nI (pm_A S rr 30))), (3, .int (nI rr))]) hx hb dX2_chosenAt_19 hl (by decide) rfl (fun ls hl => ?_)
          have LOOP21 : ∀ (n ff : Nat) (ls : Array Slot), ff ≤ 30 → 30 - ff < n → lv_has ls 5 [(0, .ref (q 0)), (1, .int xk), (2, .int (nI (pm_A S rr 30 + pm_B S rr ff))), (3, .int (nI rr)), (4, .int (nI ff))] → (∀ k, k < ff → (S 0 k = 1 ∨ S 0 k = 3) → S 3 k = rr + 1 → ¬ xk = nI (pm_ahd S k)) → W p l e (headSpec wsX2_chosenAt ({ frames := 1, cells := 0, slots := 0, locals := 21 } : Room)).room s m ([.ref (q 0), .int xk] : List Value).toArray below meth c s.heap [] 0 0 (MQ below (vp_Si (fun r : Int32 => pm_isch S xk r)) ([.ref (q 0), .int xk] : List Value).toArray s 0 0 (fun _ => False)) (F0 m 21 ls []) := by
            intro n
            induction n with
            | zero => intro ff _ hi hn; omega
            | succ n ih4 =>
              intro ff ls hi_ff hn_ff hl hh21_0
              refine lv_iload hx hb dX2_chosenAt_21 (lv_at hl 4 rfl) ?_
              refine lv_bipush (v := nI 30) hx hb dX2_chosenAt_23 (by decide) ?_
              refine kx_icmp_ge (tgt := 65) hx hb (by omega) (by decide) dX2_chosenAt_25 (by decide) (fun c5 => ?_) (fun c5 => ?_)
              · skip
                refine kx_iinc (a := rr) (lv' := [(3, .int (nI (rr + 1))), (0, .ref (q 0)), (1, .int xk), (2, .int (nI (pm_A S rr 30 + pm_B S rr ff))), (4, .int (nI ff))]) hx hb dX2_chosenAt_65 hl (k := 3) rfl (by decide) rfl (fun ls hl => ?_)
                refine lv_goto (tgt := 10) hx hb dX2_chosenAt_68 (by decide) ?_
                have q6 : (nI (pm_A S (rr + 1) 30) : Int32) = nI (pm_A S rr 30 + pm_B S rr ff) := (by rw [show ff = 30 by omega, pm_AB])
                exact ih2 (rr + 1) ls (by omega) (by omega) (by rw [q6]; exact lv_sub hl [1, 2, 3, 0] rfl) (fun k hk pk h9 => (show S 3 k ≤ rr ∨ S 3 k = rr + 1 by omega).elim (fun z => hh10_0 k hk pk z) (fun z => hh21_0 k (by omega) pk z))
              · skip
                refine lv_aload_n hx hb dX2_chosenAt_28 rfl (lv_at hl 0 rfl) ?_
                refine lv_iload hx hb dX2_chosenAt_29 (lv_at hl 4 rfl) ?_
                refine vp_callSi (W.runV (As := [.int (nI ff)]) (rest := []) ⟨hx, hb, hml, hown, hts⟩ (k_X2_isPicked l D y q S ff hI (by omega)) (cwV 1 hts gX2_chosenAt_X2_isPicked rfl rfl rfl hd_X2_isPicked ⟨Nat.le_of_ble_eq_true rfl, Nat.le_of_ble_eq_true rfl⟩) ⟨pm_ro_blind, va_recv hK hP (ci := 2) (q0 := 0) rfl rfl, pm_ro_pre hP hK⟩ rfl rfl hl.1 rfl (lv_room (Nat.le_of_ble_eq_true rfl)) dX2_chosenAt_31 ⟨Nat.le_of_ble_eq_true rfl, Nat.le_of_ble_eq_true rfl⟩) (fun r7 h8 => ?_)
                rcases (show ((S 0 ff = 1 ∨ S 0 ff = 3) ∧ r7 = nI 1) ∨ (¬ (S 0 ff = 1 ∨ S 0 ff = 3) ∧ r7 = nI 0) from h8) with ⟨hp9, rfl⟩ | ⟨hp9, rfl⟩
                · skip
                  refine lv_if_eq (tgt := 59) hx hb dX2_chosenAt_34 (by decide) (fun c10 => absurd c10 (by decide)) (fun _ => ?_)
                  refine lv_aload_n hx hb dX2_chosenAt_37 rfl (lv_at hl 0 rfl) ?_
                  refine va_get (D := D) (ci := 2) (v := .ref (q 7)) (C := RX2) (T := TX2) (N := 15) hx hb hts hin2 hown hK hP 0 rfl rfl 6 (by decide) (hts (.fieldLink RX2 30 "ProofMarks$Sheet" "chosenIn" "[I") (List.mem_of_getElem? (i := 2) rfl)) (fun _ h9 => h9) rfl dX2_chosenAt_38 ?_
                  refine lv_iload hx hb dX2_chosenAt_41 (lv_at hl 4 rfl) ?_
                  refine kx_iald (v := pm_ci ((S 3) ff)) hx hb hK hP 7 0 rfl rfl (by omega) (by decide) rfl dX2_chosenAt_43 ?_
                  have := hI.pick ff (by omega) hp9
                  have := hI.chi ff (by omega)
                  refine lv_topi (fun x11 e12 => ?_)
                  obtain rfl : x11 = nI (S 3 ff - 1) := e12.trans (pm_ci_p (hI.pick ff (by omega) hp9))
                  refine lv_iload_n hx hb dX2_chosenAt_44 rfl (lv_at hl 3 rfl) ?_
                  refine kx_icmp_ne (tgt := 59) hx hb (by omega) (by omega) dX2_chosenAt_45 (by decide) (fun c13 => ?_) (fun c13 => ?_)
                  · skip
                    refine kx_iinc (a := ff) (lv' := [(4, .int (nI (ff + 1))), (0, .ref (q 0)), (1, .int xk), (2, .int (nI (pm_A S rr 30 + pm_B S rr ff))), (3, .int (nI rr))]) hx hb dX2_chosenAt_59 hl (k := 4) rfl (by decide) rfl (fun ls hl => ?_)
                    refine lv_goto (tgt := 21) hx hb dX2_chosenAt_62 (by decide) ?_
                    have q14 : (nI (pm_A S rr 30 + pm_B S rr (ff + 1)) : Int32) = nI (pm_A S rr 30 + pm_B S rr ff) := (congrArg nI (by have h9 := hI.pick ff (by omega); first | (have e9 : pm_B S rr (ff + 1) = pm_B S rr ff + 1 := pm_num_p (decide_eq_true ⟨pm_pk_t (by assumption), by omega⟩); omega) | (have e9 : pm_B S rr (ff + 1) = pm_B S rr ff + 0 := pm_num_n (decide_eq_false (fun z => absurd (pm_pk_i.mp z.1) (by assumption))); omega) | (have e9 : pm_B S rr (ff + 1) = pm_B S rr ff + 0 := pm_num_n (decide_eq_false (fun z => by omega)); omega)))
                    exact ih4 (ff + 1) ls (by omega) (by omega) (by rw [q14]; exact lv_sub hl [1, 2, 3, 4, 0] rfl) (fun k hk pk h9 => by
                            rcases (show k < ff ∨ k = ff by omega) with z | rfl
                            · exact hh21_0 k z pk h9
                            · first | exact absurd pk (by assumption) | (exfalso; omega) | (rw [pm_ahd_at (by omega) h9]; exact fun z => (by assumption : ¬ nI _ = xk) z.symm))
                  · skip
                    refine lv_iload_n hx hb dX2_chosenAt_48 rfl (lv_at hl 2 rfl) ?_
                    refine lv_iload_n hx hb dX2_chosenAt_49 rfl (lv_at hl 1 rfl) ?_
                    refine lv_icmp_ne (tgt := 56) hx hb dX2_chosenAt_50 (by decide) (fun c15 => ?_) (fun c15 => ?_)
                    · skip
                      refine kx_iinc (a := (pm_A S rr 30 + pm_B S rr ff)) (lv' := [(2, .int (nI (pm_A S rr 30 + pm_B S rr ff + 1))), (0, .ref (q 0)), (1, .int xk), (3, .int (nI rr)), (4, .int (nI ff))]) hx hb dX2_chosenAt_56 hl (k := 2) rfl (by decide) rfl (fun ls hl => ?_)
                      refine kx_iinc (a := ff) (lv' := [(4, .int (nI (ff + 1))), (2, .int (nI (pm_A S rr 30 + pm_B S rr ff + 1))), (0, .ref (q 0)), (1, .int xk), (3, .int (nI rr))]) hx hb dX2_chosenAt_59 hl (k := 4) rfl (by decide) rfl (fun ls hl => ?_)
                      refine lv_goto (tgt := 21) hx hb dX2_chosenAt_62 (by decide) ?_
                      have q16 : (nI (pm_A S rr 30 + pm_B S rr (ff + 1)) : Int32) = nI (pm_A S rr 30 + pm_B S rr ff + 1) := (congrArg nI (by have h9 := hI.pick ff (by omega); first | (have e9 : pm_B S rr (ff + 1) = pm_B S rr ff + 1 := pm_num_p (decide_eq_true ⟨pm_pk_t (by assumption), by omega⟩); omega) | (have e9 : pm_B S rr (ff + 1) = pm_B S rr ff + 0 := pm_num_n (decide_eq_false (fun z => absurd (pm_pk_i.mp z.1) (by assumption))); omega) | (have e9 : pm_B S rr (ff + 1) = pm_B S rr ff + 0 := pm_num_n (decide_eq_false (fun z => by omega)); omega)))
                      exact ih4 (ff + 1) ls (by omega) (by omega) (by rw [q16]; exact lv_sub hl [2, 3, 1, 4, 0] rfl) (fun k hk pk h9 => by
                              rcases (show k < ff ∨ k = ff by omega) with z | rfl
                              · exact hh21_0 k z pk h9
                              · first | exact absurd pk (by assumption) | (exfalso; omega) | (rw [pm_ahd_at (by omega) h9]; exact fun z => (by assumption : ¬ nI _ = xk) z.symm))
                    · skip
                      refine lv_iload hx hb dX2_chosenAt_53 (lv_at hl 4 rfl) ?_
                      exact W.iret hx hb hr (fun t ht _ => ⟨_, rfl, (Or.inl ⟨ff, by omega, hp9, (‹nI _ = xk›).symm.trans (congrArg nI (pm_ahd_at (by omega) (by omega)).symm), rfl⟩), ht⟩) (fun _ h => absurd h List.not_mem_nil) dX2_chosenAt_55
                · skip
                  refine lv_if_eq (tgt := 59) hx hb dX2_chosenAt_34 (by decide) (fun _ => ?_) (fun c17 => (c17 (by decide)).elim)
                  refine kx_iinc (a := ff) (lv' := [(4, .int (nI (ff + 1))), (0, .ref (q 0)), (1, .int xk), (2, .int (nI (pm_A S rr 30 + pm_B S rr ff))), (3, .int (nI rr))]) hx hb dX2_chosenAt_59 hl (k := 4) rfl (by decide) rfl (fun ls hl => ?_)
                  refine lv_goto (tgt := 21) hx hb dX2_chosenAt_62 (by decide) ?_
                  have q18 : (nI (pm_A S rr 30 + pm_B S rr (ff + 1)) : Int32) = nI (pm_A S rr 30 + pm_B S rr ff) := (congrArg nI (by have h9 := hI.pick ff (by omega); first | (have e9 : pm_B S rr (ff + 1) = pm_B S rr ff + 1 := pm_num_p (decide_eq_true ⟨pm_pk_t (by assumption), by omega⟩); omega) | (have e9 : pm_B S rr (ff + 1) = pm_B S rr ff + 0 := pm_num_n (decide_eq_false (fun z => absurd (pm_pk_i.mp z.1) (by assumption))); omega) | (have e9 : pm_B S rr (ff + 1) = pm_B S rr ff + 0 := pm_num_n (decide_eq_false (fun z => by omega)); omega)))
                  exact ih4 (ff + 1) ls (by omega) (by omega) (by rw [q18]; exact lv_sub hl [1, 2, 3, 4, 0] rfl) (fun k hk pk h9 => by
                          rcases (show k < ff ∨ k = ff by omega) with z | rfl
                          · exact hh21_0 k z pk h9
                          · first | exact absurd pk (by assumption) | (exfalso; omega) | (rw [pm_ahd_at (by omega) h9]; exact fun z => (by assumption : ¬ nI _ = xk) z.symm))
          exact LOOP21 (30 + 1) 0 ls (by omega) (by omega) (lv_sub hl [1, 2, 3, 4, 0] rfl) (fun k hk _ _ => absurd hk (Nat.not_lt_zero k))
    exact LOOP10 (S 10 0 + 1) 0 ls (by omega) (by omega) (by rw [pm_A0 hI]; exact lv_sub hl [2, 3, 1, 0] rfl) (fun k hk pk h9 => by have := hI.pick k hk pk; omega)
  · skip
    refine lv_iconst (v := -1) hx hb dX2_chosenAt_4 (by decide) ?_
    exact W.iret hx hb hr (fun t ht _ => ⟨_, rfl, (Or.inr ⟨fun k hk _ e => absurd ((e ▸ nI_pos (show pm_ahd S k < 2 ^ 31 from Nat.lt_of_le_of_lt (pm_ahd_le S k) (by decide)) : ¬ xk < 0)) (fun z => z (Int32.not_le.mp ‹_›)), rfl⟩), ht⟩) (fun _ h => absurd h List.not_mem_nil) dX2_chosenAt_5
end
section
theorem pm_lead1 {x : Int32} {n : Nat} (h : x < 0 ∨ nI (n + 1) ≤ x) (hn : n + 1 < 2 ^ 31) (h1 : ¬ x < nI 1) (h2 : x ≤ nI n) : False := by
  rcases h with h | h
  · have a := Int32.lt_iff_toInt_lt.mp h
    have b := fun z => h1 (Int32.lt_iff_toInt_lt.mpr z)
    rw [nI_toInt (by decide)] at b
    have c : (0 : Int32).toInt = 0 := rfl
    rw [c] at a
    exact b (by omega)
  · have a := Int32.le_iff_toInt_le.mp h
    have b := Int32.le_iff_toInt_le.mp h2
    rw [nI_toInt hn] at a
    rw [nI_toInt (by omega)] at b
    omega
theorem pm_min {a b : Nat} (ha : a < 2 ^ 31) (hb : b < 2 ^ 31) : (if nI b < nI a then nI b else nI a) = nI (if b < a then b else a) := by
  by_cases h : b < a
  · rw [if_pos h, if_pos (nI_lt h ha)]
  · rw [if_neg h, if_neg (nI_nlt (by omega) hb)]
def pm_ch0 (S : Nat → Nat → Nat) (f n : Nat) : Nat → Nat → Nat := fun d => if d = 8 then pm_fav S f n else pm_st (pm_st S 2 f (pm_tc (S 4 f))) 3 f (S 10 0 + 1) d
theorem pm_ch0_p {S : Nat → Nat → Nat} {f n : Nat} (h : pm_mk (S 4 f) n = 1) : pm_ch0 S f (n + 1) = pm_st (pm_ch0 S f n) 8 n (pm_fav S f n n + 1) := by
  funext d
  unfold pm_ch0 pm_st
  by_cases hd : d = 8
  · simp only [hd, if_true, pm_fav, if_pos h]
  · simp only [hd, if_false]
theorem pm_ch0_n {S : Nat → Nat → Nat} {f n : Nat} (h : ¬ pm_mk (S 4 f) n = 1) : pm_ch0 S f (n + 1) = pm_ch0 S f n := by
  funext d
  unfold pm_ch0
  by_cases hd : d = 8
  · simp only [hd, if_true, pm_fav, if_neg h]
  · simp only [hd, if_false]
theorem pm_jdg_p {S : Nat → Nat → Nat} {f : Nat} (h : pm_aft S f = 1) : pm_jdg S f = pm_st (pm_st (pm_st (pm_chs S f) 1 f (pm_dl S f)) 0 f (pm_aft S f)) 4 f 0 := by rw [pm_jdg, if_pos h]
theorem pm_jdg_n {S : Nat → Nat → Nat} {f : Nat} (h : ¬ pm_aft S f = 1) : pm_jdg S f = pm_st (pm_st (pm_st S 1 f (pm_dl S f)) 0 f (pm_aft S f)) 4 f 0 := by rw [pm_jdg, if_neg h]
theorem pm_st_o {S : Nat → Nat → Nat} {c k v d : Nat} (h : ¬ d = c) : pm_st S c k v d = S d := by simp [pm_st, h]
theorem pm_st_k {S : Nat → Nat → Nat} {c k v d j : Nat} (h : ¬ j = k) : pm_st S c k v d j = S d j := by
  unfold pm_st
  split
  · exact updN_n _ _ h
  · rfl
theorem pm_chs_k {S : Nat → Nat → Nat} {f c k : Nat} (hk : ¬ k = f) (hc : c < 8) : pm_chs S f c k = S c k := by
  unfold pm_chs
  rw [if_neg (by omega), pm_st_k hk, pm_st_k hk]
theorem pm_chs_9 {S : Nat → Nat → Nat} {f c : Nat} (hc : c = 0 ∨ c = 1 ∨ c = 4 ∨ c = 5 ∨ c = 6 ∨ c = 7 ∨ 8 < c) : pm_chs S f c = S c := by
  unfold pm_chs
  rw [if_neg (by omega), pm_st_o (by omega), pm_st_o (by omega)]
theorem pm_jdg_o {S : Nat → Nat → Nat} {f c k : Nat} (hk : ¬ k = f) (hc : c < 8) : pm_jdg S f c k = S c k := by
  by_cases h : pm_aft S f = 1
  · rw [pm_jdg_p h, pm_st_k hk, pm_st_k hk, pm_st_k hk, pm_chs_k hk hc]
  · rw [pm_jdg_n h, pm_st_k hk, pm_st_k hk, pm_st_k hk]
theorem pm_jdg_5 {S : Nat → Nat → Nat} {f c : Nat} (hc : c = 5 ∨ c = 6 ∨ c = 7 ∨ 8 < c) : pm_jdg S f c = S c := by
  by_cases h : pm_aft S f = 1
  · rw [pm_jdg_p h, pm_st_o (by omega), pm_st_o (by omega), pm_st_o (by omega), pm_chs_9 (by omega)]
  · rw [pm_jdg_n h, pm_st_o (by omega), pm_st_o (by omega), pm_st_o (by omega)]
theorem pm_jdg_9 {S : Nat → Nat → Nat} {f c k : Nat} (hc : 8 < c) : pm_jdg S f c k = S c k := by rw [pm_jdg_5 (by omega)]
theorem pm_rds_o (S : Nat → Nat → Nat) {c : Nat} (hc : c < 8) : ∀ n k, n ≤ k → pm_rds S n c k = S c k
  | 0, _, _ => rfl
  | n + 1, k, h => by
    rw [pm_rds]
    split
    · rw [pm_jdg_o (by omega) hc, pm_rds_o S hc n k (by omega)]
    · exact pm_rds_o S hc n k (by omega)
theorem pm_rds_9 (S : Nat → Nat → Nat) {c : Nat} (hc : 8 < c) (k : Nat) : ∀ n, pm_rds S n c k = S c k
  | 0 => rfl
  | n + 1 => by
    rw [pm_rds]
    split
    · rw [pm_jdg_9 hc, pm_rds_9 S hc k n]
    · exact pm_rds_9 S hc k n
theorem pm_rds_p {S : Nat → Nat → Nat} {n : Nat} (h : S 0 n = 0) : pm_rds S (n + 1) = pm_jdg (pm_rds S n) n := by rw [pm_rds, if_pos h]
theorem pm_rds_n {S : Nat → Nat → Nat} {n : Nat} (h : ¬ S 0 n = 0) : pm_rds S (n + 1) = pm_rds S n := by rw [pm_rds, if_neg h]
theorem pm_aft_eq {S T : Nat → Nat → Nat} {f : Nat} (h4 : T 4 f = S 4 f) (h1 : T 1 f = S 1 f) (h9 : T 9 0 = S 9 0) (h93 : T 9 3 = S 9 3) : pm_aft T f = pm_aft S f := by
  unfold pm_aft pm_dl
  rw [h4, h1, h9, h93]
theorem pm_aft_r (S : Nat → Nat → Nat) (n : Nat) : pm_aft (pm_rds S n) n = pm_aft S n := pm_aft_eq (pm_rds_o S (by decide) n n (Nat.le_refl n)) (pm_rds_o S (by decide) n n (Nat.le_refl n)) (pm_rds_9 S (by decide) 0 n) (pm_rds_9 S (by decide) 3 n)
theorem pm_rct_p {S : Nat → Nat → Nat} {n : Nat} (h : S 0 n = 0) (h2 : pm_aft S n = 1) : pm_rct S (n + 1) = pm_rct S n + 1 := by rw [pm_rct, if_pos ⟨h, h2⟩]
theorem pm_rct_n {S : Nat → Nat → Nat} {n : Nat} (h : ¬ (S 0 n = 0 ∧ pm_aft S n = 1)) : pm_rct S (n + 1) = pm_rct S n := by rw [pm_rct, if_neg h]; rfl
theorem pm_pts_o (f : Nat → Nat) : ∀ n k, n ≤ k → pm_pts f n k = f k
  | 0, _, _ => rfl
  | n + 1, k, h => by
    rw [pm_pts, updN_n _ _ (by omega)]
    exact pm_pts_o f n k (by omega)
/-- the state in the middle of a round's end -/
def pm_mid2 (S : Nat → Nat → Nat) (n : Nat) : Nat → Nat → Nat := fun d => if d = 5 then pm_pts (S 5) n else pm_rds S 30 d
theorem pm_mid2_0 (S : Nat → Nat → Nat) (k : Nat) : pm_rds S 30 5 k = S 5 k ∨ k < 30 := by
  by_cases h : k < 30
  · exact Or.inr h
  · exact Or.inl (pm_rds_o S (by decide) 30 k (by omega))
theorem pm_rds_5 (S : Nat → Nat → Nat) {c : Nat} (hc : c = 5 ∨ c = 6 ∨ c = 7 ∨ 8 < c) : ∀ n, pm_rds S n c = S c
  | 0 => rfl
  | n + 1 => by
    rw [pm_rds]
    split
    · rw [pm_jdg_5 hc, pm_rds_5 S hc n]
    · exact pm_rds_5 S hc n
theorem pm_mid2_z (S : Nat → Nat → Nat) : pm_mid2 S 0 = pm_rds S 30 := by
  funext d
  unfold pm_mid2
  split
  · rename_i h
    subst h
    exact (pm_rds_5 S (Or.inl rfl) 30).symm
  · rfl
theorem pm_mid2_s (S : Nat → Nat → Nat) (n : Nat) : pm_mid2 S (n + 1) = pm_st (pm_mid2 S n) 5 n (if 20 < S 5 n + 2 then 20 else S 5 n + 2) := by
  funext d
  unfold pm_mid2 pm_st
  by_cases hd : d = 5
  · simp only [hd, if_true, pm_pts]
  · simp only [hd, if_false]
theorem pm_vt_eq {f : Nat → Nat} {k v : Nat} (h : pm_tk v = pm_tk (f k)) : pm_vt f = pm_vt (updN f k v) := by
  funext j
  unfold pm_vt updN
  split
  · rename_i e
    rw [e, h]
  · rfl
def pm_T5b (m i : Nat) : Bool := !(pm_okb m) || (!(decide (pm_mk m i = 2)) || decide (pm_tk (pm_sm m i 0) = pm_tk m))
theorem pm_T5 : ∀ m, m < 64 → ∀ i, i < 3 → pm_T5b m i = true := by decide +kernel
theorem pm_tk_sm0 {m i : Nat} (h : pm_okb m = true) (hi : i < 3) (h2 : pm_mk m i = 2) : pm_tk (pm_sm m i 0) = pm_tk m := by
  have a := pm_T5 m (pm_okb64 h) i hi
  simp only [pm_T5b, h, h2, decide_true, Bool.not_true, Bool.false_or, decide_eq_true_eq] at a
  exact a
set_option maxHeartbeats 4000000 in
set_option maxRecDepth 100000 in
theorem k_X2_noteChoice (l : Launch) (D : va_G) (y : Nat → ClassId) (q : Nat → Nat) (S : Nat → Nat → Nat) (f : Nat) (ho : pm_okb (S 4 f) = true) (hrd : S 10 0 ≤ 99) (hf : f < 30) : Met l yX2_noteChoice wsX2_noteChoice ({ frames := 1, cells := 0, slots := 0, locals := 23 } : Room) (pm_wr D (pm_ty y) [.ref (q 0), .int (nI f)] (pm_shS y q S)) (pm_Qv D (fun (_ : Unit) => True) (fun (_ : Unit) => pm_shS y q (pm_chs S f)) (pm_shS y q S)) 0 0 (pm_ad (pm_shS y q S)) := by
  refine Met.ofW (cc := cX2_noteChoice) (maxL := 3) (ret := none) (by decide) rfl ?_
  intro p e s m args below meth c s₁ B hml hpre
  obtain ⟨rfl, hP, hK, hD0⟩ := hpre
  have hx := B.exec
  have hb := B.bytes
  have hr := B.returns
  have hts := atoms_spec (ws := wsX2_noteChoice) B.pre
  have hown : s.vm.findClass RX2 = some m.cls := findClass_of_methodNamed B.named
  have hlocks := B.notSynchronized
  have hin2 : ∀ w ∈ u_ws RX2 TX2 15, w ∈ wsX2_noteChoice := fun w h => List.mem_cons_of_mem _ (List.mem_append_right _ h)
  have hD := pm_ad_self hD0
  have hS : va_S (pm_ad (pm_shS y q S)) s.heap s.heap [] := va_S.rf
  have hP : va_P D vwCl (pm_shS y q S) s.heap := hP
  have hl := lv_entry ([.ref (q 0), .int (nI f)]) (n := 3) (Nat.le_of_ble_eq_true rfl)
  rw [lg_entry_eq]
  generalize (lg_sl ([.ref (q 0), .int (nI f)]) ++ List.replicate (3 - (lg_sl ([.ref (q 0), .int (nI f)])).length) Slot.unset).toArray = ls at hl ⊢
  have hl : lv_has ls 3 [(0, .ref (q 0)), (1, .int (nI f))] := hl
  refine lv_aload_n hx hb dX2_noteChoice_0 rfl (lv_at hl 0 rfl) ?_
  refine va_get (D := D) (ci := 2) (v := .ref (q 6)) (C := RX2) (T := TX2) (N := 15) hx hb hts hin2 hown hK hP 0 rfl rfl 5 (by decide) (hts (.fieldLink RX2 27 "ProofMarks$Sheet" "sizes" "[I") (List.mem_of_getElem? (i := 1) rfl)) (fun _ h9 => h9) rfl dX2_noteChoice_1 ?_
  refine lv_iload_n hx hb dX2_noteChoice_4 rfl (lv_at hl 1 rfl) ?_
  refine lv_aload_n hx hb dX2_noteChoice_5 rfl (lv_at hl 0 rfl) ?_
  refine va_get (D := D) (ci := 2) (v := .ref (q 3)) (C := RX2) (T := TX2) (N := 15) hx hb hts hin2 hown hK hP 0 rfl rfl 2 (by decide) (hts (.fieldLink RX2 18 "ProofMarks$Sheet" "ticks" "[I") (List.mem_of_getElem? (i := 2) rfl)) (fun _ h9 => h9) rfl dX2_noteChoice_6 ?_
  refine lv_iload_n hx hb dX2_noteChoice_9 rfl (lv_at hl 1 rfl) ?_
  refine kx_iald (v := nI (pm_tk ((S 4) f))) hx hb hK hP 3 0 rfl rfl (by omega) (by decide) rfl dX2_noteChoice_10 ?_
  have := pm_tk8 ((S 4) f)
  refine vp_callSi (W.runS (As := [.int (nI (pm_tk ((S 4) f)))]) (rest := [.int (nI f), .ref (q 6)]) ⟨hx, hb, hml, hown, hts⟩ (k_J6_bitCount_0f7a4 l (pm_tk ((S 4) f)) (by omega)) (va_cwS 1 hts gX2_noteChoice_J6_bitCount_0f7a4 rfl rfl rfl hd_J6_bitCount_0f7a4 ⟨Nat.le_of_ble_eq_true rfl, Nat.le_of_ble_eq_true rfl⟩) ⟨pm_no_blind, pm_no_pre⟩ rfl rfl hl.1 rfl (lv_room (Nat.le_of_ble_eq_true rfl)) dX2_noteChoice_11 ⟨Nat.le_of_ble_eq_true rfl, Nat.le_of_ble_eq_true rfl⟩) (fun r1 h2 => ?_)
  obtain rfl : r1 = nI (pm_pc (pm_tk ((S 4) f))) := h2
  have := pm_pc4 (pm_tk ((S 4) f))
  refine kx_iast (ws' := pm_sh y q (pm_vn (S 9)) (pm_vn (S 0)) (pm_vt (S 4)) (pm_vc (S 4)) (pm_vn (S 1)) (pm_vn (updN (S 2) f (pm_pc (pm_tk ((S 4) f))))) (pm_vi (S 3)) (pm_vn (S 5)) (pm_vn (S 6)) (pm_vn (S 7)) (pm_vn (S 8)) (pm_vn (S 11)) (nI (S 10 0)) (nI (S 10 1)) (nI (S 10 2))) hx hb hK hP hD hS 6 0 rfl rfl (by omega) (by decide) (pm_vn_u (S 2) f (pm_pc (pm_tk ((S 4) f)))) rfl dX2_noteChoice_14 (fun H locs hP hD hS => ?_)
  refine lv_aload_n hx hb dX2_noteChoice_15 rfl (lv_at hl 0 rfl) ?_
  refine va_get (D := D) (ci := 2) (v := .ref (q 7)) (C := RX2) (T := TX2) (N := 15) hx hb hts hin2 hown hK hP 0 rfl rfl 6 (by decide) (hts (.fieldLink RX2 30 "ProofMarks$Sheet" "chosenIn" "[I") (List.mem_of_getElem? (i := 3) rfl)) (fun _ h9 => h9) rfl dX2_noteChoice_16 ?_
  refine lv_iload_n hx hb dX2_noteChoice_19 rfl (lv_at hl 1 rfl) ?_
  refine lv_aload_n hx hb dX2_noteChoice_20 rfl (lv_at hl 0 rfl) ?_
  refine va_get (D := D) (ci := 2) (v := .int (nI (S 10 0))) (C := RX2) (T := TX2) (N := 15) hx hb hts hin2 hown hK hP 0 rfl rfl 12 (by decide) (hts (.fieldLink RX2 48 "ProofMarks$Sheet" "rounds" "I") (List.mem_of_getElem? (i := 4) rfl)) (fun _ h9 => h9) rfl dX2_noteChoice_21 ?_
  refine lv_topi (fun x3 e4 => ?_)
  obtain rfl : x3 = pm_ci (S 10 0 + 1) := e4.trans ((show nI (S 10 0) = pm_ci (S 10 0 + 1) from (pm_ci_p (x := S 10 0 + 1) (by omega)).symm))
  refine kx_iast (ws' := pm_sh y q (pm_vn (S 9)) (pm_vn (S 0)) (pm_vt (S 4)) (pm_vc (S 4)) (pm_vn (S 1)) (pm_vn (updN (S 2) f (pm_pc (pm_tk ((S 4) f))))) (pm_vi (updN (S 3) f (S 10 0 + 1))) (pm_vn (S 5)) (pm_vn (S 6)) (pm_vn (S 7)) (pm_vn (S 8)) (pm_vn (S 11)) (nI (S 10 0)) (nI (S 10 1)) (nI (S 10 2))) hx hb hK hP hD hS 7 0 rfl rfl (by omega) (by decide) (pm_vi_u (S 3) f (S 10 0 + 1)) rfl dX2_noteChoice_24 (fun H locs hP hD hS => ?_)
  refine lv_iconst (v := nI 0) hx hb dX2_noteChoice_25 (by decide) ?_
  refine lv_istore_n (lv' := [(2, .int (nI 0)), (0, .ref (q 0)), (1, .int (nI f))]) hx hb dX2_noteChoice_26 rfl hl (by decide) rfl (fun ls hl => ?_)
  have hP : va_P D vwCl (pm_shS y q (pm_ch0 S f 0)) H := by exact hP
  have hD : va_D (pm_ad (pm_shS y q S)) (pm_shS y q (pm_ch0 S f 0)) := by exact hD
  refine lv_iload_n hx hb dX2_noteChoice_27 rfl (lv_at hl 0 rfl) ?_
  refine lv_iconst (v := nI 3) hx hb dX2_noteChoice_28 (by decide) ?_
  refine lv_icmp_ge (tgt := 58) hx hb dX2_noteChoice_29 (by decide) (fun c5 => absurd c5 (by decide)) (fun _ => ?_)
  refine lv_aload_n hx hb dX2_noteChoice_32 rfl (lv_at hl 1 rfl) ?_
  refine lv_iload_n hx hb dX2_noteChoice_33 rfl (lv_at hl 0 rfl) ?_
  refine lv_iload_n hx hb dX2_noteChoice_34 rfl (lv_at hl 2 rfl) ?_
  refine vp_callSi (W.runV (As := [.int (nI 0), .int (nI f)]) (rest := []) ⟨hx, hb, hml, hown, hts⟩ (k_X2_markOf l D y q (pm_ch0 S f 0) 0 f ho (by omega) (by omega)) (cwV 2 hts gX2_noteChoice_X2_markOf rfl rfl rfl hd_X2_markOf ⟨Nat.le_of_ble_eq_true rfl, Nat.le_of_ble_eq_true rfl⟩) ⟨pm_ro_blind, va_recv hK hP (ci := 2) (q0 := 0) rfl rfl, pm_ro_pre hP hK⟩ rfl rfl hl.1 rfl (lv_room (Nat.le_of_ble_eq_true rfl)) dX2_noteChoice_35 ⟨Nat.le_of_ble_eq_true rfl, Nat.le_of_ble_eq_true rfl⟩) (fun r6 h7 => ?_)
  obtain rfl : r6 = nI (pm_mk ((pm_ch0 S f 0) 4 f) 0) := h7
  have := pm_lt4 ((pm_ch0 S f 0) 4 f) 0
  refine lv_topi (fun x8 e9 => ?_)
  obtain rfl : x8 = nI (pm_mk (S 4 f) 0) := e9.trans (rfl)
  have := pm_lt4 (S 4 f) 0
  refine lv_iconst (v := nI 1) hx hb dX2_noteChoice_38 (by decide) ?_
  refine kx_icmp_ne (tgt := 52) hx hb (by omega) (by decide) dX2_noteChoice_39 (by decide) (fun c10 => ?_) (fun c10 => ?_)
  · skip
    have hP : va_P D vwCl (pm_shS y q (pm_ch0 S f 1)) H := by rw [show pm_ch0 S f 1 = _ from by first | exact pm_ch0_p (n := 0) (by assumption) | exact pm_ch0_n (n := 0) (by assumption)]; exact hP
    have hD : va_D (pm_ad (pm_shS y q S)) (pm_shS y q (pm_ch0 S f 1)) := by rw [show pm_ch0 S f 1 = _ from by first | exact pm_ch0_p (n := 0) (by assumption) | exact pm_ch0_n (n := 0) (by assumption)]; exact hD
    refine lv_iinc (v := nI 1) (lv' := [(2, .int (nI 1)), (0, .ref (q 0)), (1, .int (nI f))]) hx hb dX2_noteChoice_52 hl (k := 0) rfl (by decide) (by decide) rfl (fun ls hl => ?_)
    refine lv_goto (tgt := 27) hx hb dX2_noteChoice_55 (by decide) ?_
    refine lv_iload_n hx hb dX2_noteChoice_27 rfl (lv_at hl 0 rfl) ?_
    refine lv_iconst (v := nI 3) hx hb dX2_noteChoice_28 (by decide) ?_
    refine lv_icmp_ge (tgt := 58) hx hb dX2_noteChoice_29 (by decide) (fun c11 => absurd c11 (by decide)) (fun _ => ?_)
    refine lv_aload_n hx hb dX2_noteChoice_32 rfl (lv_at hl 1 rfl) ?_
    refine lv_iload_n hx hb dX2_noteChoice_33 rfl (lv_at hl 0 rfl) ?_
    refine lv_iload_n hx hb dX2_noteChoice_34 rfl (lv_at hl 2 rfl) ?_
    refine vp_callSi (W.runV (As := [.int (nI 1), .int (nI f)]) (rest := []) ⟨hx, hb, hml, hown, hts⟩ (k_X2_markOf l D y q (pm_ch0 S f 1) 1 f ho (by omega) (by omega)) (cwV 2 hts gX2_noteChoice_X2_markOf rfl rfl rfl hd_X2_markOf ⟨Nat.le_of_ble_eq_true rfl, Nat.le_of_ble_eq_true rfl⟩) ⟨pm_ro_blind, va_recv hK hP (ci := 2) (q0 := 0) rfl rfl, pm_ro_pre hP hK⟩ rfl rfl hl.1 rfl (lv_room (Nat.le_of_ble_eq_true rfl)) dX2_noteChoice_35 ⟨Nat.le_of_ble_eq_true rfl, Nat.le_of_ble_eq_true rfl⟩) (fun r12 h13 => ?_)
    obtain rfl : r12 = nI (pm_mk ((pm_ch0 S f 1) 4 f) 1) := h13
    have := pm_lt4 ((pm_ch0 S f 1) 4 f) 1
    refine lv_topi (fun x14 e15 => ?_)
    obtain rfl : x14 = nI (pm_mk (S 4 f) 1) := e15.trans (rfl)
    have := pm_lt4 (S 4 f) 1
    refine lv_iconst (v := nI 1) hx hb dX2_noteChoice_38 (by decide) ?_
    refine kx_icmp_ne (tgt := 52) hx hb (by omega) (by decide) dX2_noteChoice_39 (by decide) (fun c16 => ?_) (fun c16 => ?_)
    · skip
      have hP : va_P D vwCl (pm_shS y q (pm_ch0 S f 2)) H := by rw [show pm_ch0 S f 2 = _ from by first | exact pm_ch0_p (n := 1) (by assumption) | exact pm_ch0_n (n := 1) (by assumption)]; exact hP
      have hD : va_D (pm_ad (pm_shS y q S)) (pm_shS y q (pm_ch0 S f 2)) := by rw [show pm_ch0 S f 2 = _ from by first | exact pm_ch0_p (n := 1) (by assumption) | exact pm_ch0_n (n := 1) (by assumption)]; exact hD
      refine lv_iinc (v := nI 2) (lv' := [(2, .int (nI 2)), (0, .ref (q 0)), (1, .int (nI f))]) hx hb dX2_noteChoice_52 hl (k := 0) rfl (by decide) (by decide) rfl (fun ls hl => ?_)
      refine lv_goto (tgt := 27) hx hb dX2_noteChoice_55 (by decide) ?_
      refine lv_iload_n hx hb dX2_noteChoice_27 rfl (lv_at hl 0 rfl) ?_
      refine lv_iconst (v := nI 3) hx hb dX2_noteChoice_28 (by decide) ?_
      refine lv_icmp_ge (tgt := 58) hx hb dX2_noteChoice_29 (by decide) (fun c17 => absurd c17 (by decide)) (fun _ => ?_)
      refine lv_aload_n hx hb dX2_noteChoice_32 rfl (lv_at hl 1 rfl) ?_
      refine lv_iload_n hx hb dX2_noteChoice_33 rfl (lv_at hl 0 rfl) ?_
      refine lv_iload_n hx hb dX2_noteChoice_34 rfl (lv_at hl 2 rfl) ?_
      refine vp_callSi (W.runV (As := [.int (nI 2), .int (nI f)]) (rest := []) ⟨hx, hb, hml, hown, hts⟩ (k_X2_markOf l D y q (pm_ch0 S f 2) 2 f ho (by omega) (by omega)) (cwV 2 hts gX2_noteChoice_X2_markOf rfl rfl rfl hd_X2_markOf ⟨Nat.le_of_ble_eq_true rfl, Nat.le_of_ble_eq_true rfl⟩) ⟨pm_ro_blind, va_recv hK hP (ci := 2) (q0 := 0) rfl rfl, pm_ro_pre hP hK⟩ rfl rfl hl.1 rfl (lv_room (Nat.le_of_ble_eq_true rfl)) dX2_noteChoice_35 ⟨Nat.le_of_ble_eq_true rfl, Nat.le_of_ble_eq_true rfl⟩) (fun r18 h19 => ?_)
      obtain rfl : r18 = nI (pm_mk ((pm_ch0 S f 2) 4 f) 2) := h19
      have := pm_lt4 ((pm_ch0 S f 2) 4 f) 2
      refine lv_topi (fun x20 e21 => ?_)
      obtain rfl : x20 = nI (pm_mk (S 4 f) 2) := e21.trans (rfl)
      have := pm_lt4 (S 4 f) 2
      refine lv_iconst (v := nI 1) hx hb dX2_noteChoice_38 (by decide) ?_
      refine kx_icmp_ne (tgt := 52) hx hb (by omega) (by decide) dX2_noteChoice_39 (by decide) (fun c22 => ?_) (fun c22 => ?_)
      · skip
        have hP : va_P D vwCl (pm_shS y q (pm_ch0 S f 3)) H := by rw [show pm_ch0 S f 3 = _ from by first | exact pm_ch0_p (n := 2) (by assumption) | exact pm_ch0_n (n := 2) (by assumption)]; exact hP
        have hD : va_D (pm_ad (pm_shS y q S)) (pm_shS y q (pm_ch0 S f 3)) := by rw [show pm_ch0 S f 3 = _ from by first | exact pm_ch0_p (n := 2) (by assumption) | exact pm_ch0_n (n := 2) (by assumption)]; exact hD
        refine lv_iinc (v := nI 3) (lv' := [(2, .int (nI 3)), (0, .ref (q 0)), (1, .int (nI f))]) hx hb dX2_noteChoice_52 hl (k := 0) rfl (by decide) (by decide) rfl (fun ls hl => ?_)
        refine lv_goto (tgt := 27) hx hb dX2_noteChoice_55 (by decide) ?_
        refine lv_iload_n hx hb dX2_noteChoice_27 rfl (lv_at hl 0 rfl) ?_
        refine lv_iconst (v := nI 3) hx hb dX2_noteChoice_28 (by decide) ?_
        refine lv_icmp_ge (tgt := 58) hx hb dX2_noteChoice_29 (by decide) (fun _ => ?_) (fun c23 => (c23 (by decide)).elim)
        exact W.vret hx hb hr (fun t ht _ => ⟨⟨(), rfl, trivial, (by show va_P D vwCl (pm_shS y q (pm_chs S f)) t.heap; rw [ht]; exact hP)⟩, hS.F ht⟩) hS.2.2 dX2_noteChoice_58
      · skip
        refine lv_aload_n hx hb dX2_noteChoice_42 rfl (lv_at hl 1 rfl) ?_
        refine va_get (D := D) (ci := 2) (v := .ref (q 11)) (C := RX2) (T := TX2) (N := 15) hx hb hts hin2 hown hK hP 0 rfl rfl 10 (by decide) (hts (.fieldLink RX2 42 "ProofMarks$Sheet" "favourites" "[I") (List.mem_of_getElem? (i := 5) rfl)) (fun _ h9 => h9) rfl dX2_noteChoice_43 ?_
        refine lv_iload_n hx hb dX2_noteChoice_46 rfl (lv_at hl 0 rfl) ?_
        refine lv_dup2_11 hx hb dX2_noteChoice_47 rfl rfl ?_
        refine kx_iald (v := nI (((pm_ch0 S f 2) 8) 2)) hx hb hK hP 11 0 rfl rfl (by omega) (by decide) rfl dX2_noteChoice_48 ?_
        refine lv_topi (fun x24 e25 => ?_)
        obtain rfl : x24 = nI (pm_fav S f 2 2) := e25.trans (rfl)
        refine lv_iconst (v := nI 1) hx hb dX2_noteChoice_49 (by decide) ?_
        refine kx_iadd hx hb dX2_noteChoice_50 ?_
        refine kx_iast (ws' := pm_sh y q (pm_vn ((pm_ch0 S f 2) 9)) (pm_vn ((pm_ch0 S f 2) 0)) (pm_vt ((pm_ch0 S f 2) 4)) (pm_vc ((pm_ch0 S f 2) 4)) (pm_vn ((pm_ch0 S f 2) 1)) (pm_vn ((pm_ch0 S f 2) 2)) (pm_vi ((pm_ch0 S f 2) 3)) (pm_vn ((pm_ch0 S f 2) 5)) (pm_vn ((pm_ch0 S f 2) 6)) (pm_vn ((pm_ch0 S f 2) 7)) (pm_vn (updN ((pm_ch0 S f 2) 8) 2 ((pm_fav S f 2 2) + 1))) (pm_vn ((pm_ch0 S f 2) 11)) (nI ((pm_ch0 S f 2) 10 0)) (nI ((pm_ch0 S f 2) 10 1)) (nI ((pm_ch0 S f 2) 10 2))) hx hb hK hP hD hS 11 0 rfl rfl (by omega) (by decide) (pm_vn_u ((pm_ch0 S f 2) 8) 2 ((pm_fav S f 2 2) + 1)) rfl dX2_noteChoice_51 (fun H locs hP hD hS => ?_)
        have hP : va_P D vwCl (pm_shS y q (pm_ch0 S f 3)) H := by rw [show pm_ch0 S f 3 = _ from by first | exact pm_ch0_p (n := 2) (by assumption) | exact pm_ch0_n (n := 2) (by assumption)]; exact hP
        have hD : va_D (pm_ad (pm_shS y q S)) (pm_shS y q (pm_ch0 S f 3)) := by rw [show pm_ch0 S f 3 = _ from by first | exact pm_ch0_p (n := 2) (by assumption) | exact pm_ch0_n (n := 2) (by assumption)]; exact hD
        refine lv_iinc (v := nI 3) (lv' := [(2, .int (nI 3)), (0, .ref (q 0)), (1, .int (nI f))]) hx hb dX2_noteChoice_52 hl (k := 0) rfl (by decide) (by decide) rfl (fun ls hl => ?_)
        refine lv_goto (tgt := 27) hx hb dX2_noteChoice_55 (by decide) ?_
        refine lv_iload_n hx hb dX2_noteChoice_27 rfl (lv_at hl 0 rfl) ?_
        refine lv_iconst (v := nI 3) hx hb dX2_noteChoice_28 (by decide) ?_
        refine lv_icmp_ge (tgt := 58) hx hb dX2_noteChoice_29 (by decide) (fun _ => ?_) (fun c26 => (c26 (by decide)).elim)
        exact W.vret hx hb hr (fun t ht _ => ⟨⟨(), rfl, trivial, (by show va_P D vwCl (pm_shS y q (pm_chs S f)) t.heap; rw [ht]; exact hP)⟩, hS.F ht⟩) hS.2.2 dX2_noteChoice_58
    · skip
      refine lv_aload_n hx hb dX2_noteChoice_42 rfl (lv_at hl 1 rfl) ?_
      refine va_get (D := D) (ci := 2) (v := .ref (q 11)) (C := RX2) (T := TX2) (N := 15) hx hb hts hin2 hown hK hP 0 rfl rfl 10 (by decide) (hts (.fieldLink RX2 42 "ProofMarks$Sheet" "favourites" "[I") (List.mem_of_getElem? (i := 5) rfl)) (fun _ h9 => h9) rfl dX2_noteChoice_43 ?_
      refine lv_iload_n hx hb dX2_noteChoice_46 rfl (lv_at hl 0 rfl) ?_
      refine lv_dup2_11 hx hb dX2_noteChoice_47 rfl rfl ?_
      refine kx_iald (v := nI (((pm_ch0 S f 1) 8) 1)) hx hb hK hP 11 0 rfl rfl (by omega) (by decide) rfl dX2_noteChoice_48 ?_
      refine lv_topi (fun x27 e28 => ?_)
      obtain rfl : x27 = nI (pm_fav S f 1 1) := e28.trans (rfl)
      refine lv_iconst (v := nI 1) hx hb dX2_noteChoice_49 (by decide) ?_
      refine kx_iadd hx hb dX2_noteChoice_50 ?_
      refine kx_iast (ws' := pm_sh y q (pm_vn ((pm_ch0 S f 1) 9)) (pm_vn ((pm_ch0 S f 1) 0)) (pm_vt ((pm_ch0 S f 1) 4)) (pm_vc ((pm_ch0 S f 1) 4)) (pm_vn ((pm_ch0 S f 1) 1)) (pm_vn ((pm_ch0 S f 1) 2)) (pm_vi ((pm_ch0 S f 1) 3)) (pm_vn ((pm_ch0 S f 1) 5)) (pm_vn ((pm_ch0 S f 1) 6)) (pm_vn ((pm_ch0 S f 1) 7)) (pm_vn (updN ((pm_ch0 S f 1) 8) 1 ((pm_fav S f 1 1) + 1))) (pm_vn ((pm_ch0 S f 1) 11)) (nI ((pm_ch0 S f 1) 10 0)) (nI ((pm_ch0 S f 1) 10 1)) (nI ((pm_ch0 S f 1) 10 2))) hx hb hK hP hD hS 11 0 rfl rfl (by omega) (by decide) (pm_vn_u ((pm_ch0 S f 1) 8) 1 ((pm_fav S f 1 1) + 1)) rfl dX2_noteChoice_51 (fun H locs hP hD hS => ?_)
      have hP : va_P D vwCl (pm_shS y q (pm_ch0 S f 2)) H := by rw [show pm_ch0 S f 2 = _ from by first | exact pm_ch0_p (n := 1) (by assumption) | exact pm_ch0_n (n := 1) (by assumption)]; exact hP
      have hD : va_D (pm_ad (pm_shS y q S)) (pm_shS y q (pm_ch0 S f 2)) := by rw [show pm_ch0 S f 2 = _ from by first | exact pm_ch0_p (n := 1) (by assumption) | exact pm_ch0_n (n := 1) (by assumption)]; exact hD
      refine lv_iinc (v := nI 2) (lv' := [(2, .int (nI 2)), (0, .ref (q 0)), (1, .int (nI f))]) hx hb dX2_noteChoice_52 hl (k := 0) rfl (by decide) (by decide) rfl (fun ls hl => ?_)
      refine lv_goto (tgt := 27) hx hb dX2_noteChoice_55 (by decide) ?_
      refine lv_iload_n hx hb dX2_noteChoice_27 rfl (lv_at hl 0 rfl) ?_
      refine lv_iconst (v := nI 3) hx hb dX2_noteChoice_28 (by decide) ?_
      refine lv_icmp_ge (tgt := 58) hx hb dX2_noteChoice_29 (by decide) (fun c29 => absurd c29 (by decide)) (fun _ => ?_)
      refine lv_aload_n hx hb dX2_noteChoice_32 rfl (lv_at hl 1 rfl) ?_
      refine lv_iload_n hx hb dX2_noteChoice_33 rfl (lv_at hl 0 rfl) ?_
      refine lv_iload_n hx hb dX2_noteChoice_34 rfl (lv_at hl 2 rfl) ?_
      refine vp_callSi (W.runV (As := [.int (nI 2), .int (nI f)]) (rest := []) ⟨hx, hb, hml, hown, hts⟩ (k_X2_markOf l D y q (pm_ch0 S f 2) 2 f ho (by omega) (by omega)) (cwV 2 hts gX2_noteChoice_X2_markOf rfl rfl rfl hd_X2_markOf ⟨Nat.le_of_ble_eq_true rfl, Nat.le_of_ble_eq_true rfl⟩) ⟨pm_ro_blind, va_recv hK hP (ci := 2) (q0 := 0) rfl rfl, pm_ro_pre hP hK⟩ rfl rfl hl.1 rfl (lv_room (Nat.le_of_ble_eq_true rfl)) dX2_noteChoice_35 ⟨Nat.le_of_ble_eq_true rfl, Nat.le_of_ble_eq_true rfl⟩) (fun r30 h31 => ?_)
      obtain rfl : r30 = nI (pm_mk ((pm_ch0 S f 2) 4 f) 2) := h31
      have := pm_lt4 ((pm_ch0 S f 2) 4 f) 2
      refine lv_topi (fun x32 e33 => ?_)
      obtain rfl : x32 = nI (pm_mk (S 4 f) 2) := e33.trans (rfl)
      have := pm_lt4 (S 4 f) 2
      refine lv_iconst (v := nI 1) hx hb dX2_noteChoice_38 (by decide) ?_
      refine kx_icmp_ne (tgt := 52) hx hb (by omega) (by decide) dX2_noteChoice_39 (by decide) (fun c34 => ?_) (fun c34 => ?_)
      · skip
        have hP : va_P D vwCl (pm_shS y q (pm_ch0 S f 3)) H := by rw [show pm_ch0 S f 3 = _ from by first | exact pm_ch0_p (n := 2) (by assumption) | exact pm_ch0_n (n := 2) (by assumption)]; exact hP
        have hD : va_D (pm_ad (pm_shS y q S)) (pm_shS y q (pm_ch0 S f 3)) := by rw [show pm_ch0 S f 3 = _ from by first | exact pm_ch0_p (n := 2) (by assumption) | exact pm_ch0_n (n := 2) (by assumption)]; exact hD
        refine lv_iinc (v := nI 3) (lv' := [(2, .int (nI 3)), (0, .ref (q 0)), (1, .int (nI f))]) hx hb dX2_noteChoice_52 hl (k := 0) rfl (by decide) (by decide) rfl (fun ls hl => ?_)
        refine lv_goto (tgt := 27) hx hb dX2_noteChoice_55 (by decide) ?_
        refine lv_iload_n hx hb dX2_noteChoice_27 rfl (lv_at hl 0 rfl) ?_
        refine lv_iconst (v := nI 3) hx hb dX2_noteChoice_28 (by decide) ?_
        refine lv_icmp_ge (tgt := 58) hx hb dX2_noteChoice_29 (by decide) (fun _ => ?_) (fun c35 => (c35 (by decide)).elim)
        exact W.vret hx hb hr (fun t ht _ => ⟨⟨(), rfl, trivial, (by show va_P D vwCl (pm_shS y q (pm_chs S f)) t.heap; rw [ht]; exact hP)⟩, hS.F ht⟩) hS.2.2 dX2_noteChoice_58
      · skip
        refine lv_aload_n hx hb dX2_noteChoice_42 rfl (lv_at hl 1 rfl) ?_
        refine va_get (D := D) (ci := 2) (v := .ref (q 11)) (C := RX2) (T := TX2) (N := 15) hx hb hts hin2 hown hK hP 0 rfl rfl 10 (by decide) (hts (.fieldLink RX2 42 "ProofMarks$Sheet" "favourites" "[I") (List.mem_of_getElem? (i := 5) rfl)) (fun _ h9 => h9) rfl dX2_noteChoice_43 ?_
        refine lv_iload_n hx hb dX2_noteChoice_46 rfl (lv_at hl 0 rfl) ?_
        refine lv_dup2_11 hx hb dX2_noteChoice_47 rfl rfl ?_
        refine kx_iald (v := nI (((pm_ch0 S f 2) 8) 2)) hx hb hK hP 11 0 rfl rfl (by omega) (by decide) rfl dX2_noteChoice_48 ?_
        refine lv_topi (fun x36 e37 => ?_)
        obtain rfl : x36 = nI (pm_fav S f 2 2) := e37.trans (rfl)
        refine lv_iconst (v := nI 1) hx hb dX2_noteChoice_49 (by decide) ?_
        refine kx_iadd hx hb dX2_noteChoice_50 ?_
        refine kx_iast (ws' := pm_sh y q (pm_vn ((pm_ch0 S f 2) 9)) (pm_vn ((pm_ch0 S f 2) 0)) (pm_vt ((pm_ch0 S f 2) 4)) (pm_vc ((pm_ch0 S f 2) 4)) (pm_vn ((pm_ch0 S f 2) 1)) (pm_vn ((pm_ch0 S f 2) 2)) (pm_vi ((pm_ch0 S f 2) 3)) (pm_vn ((pm_ch0 S f 2) 5)) (pm_vn ((pm_ch0 S f 2) 6)) (pm_vn ((pm_ch0 S f 2) 7)) (pm_vn (updN ((pm_ch0 S f 2) 8) 2 ((pm_fav S f 2 2) + 1))) (pm_vn ((pm_ch0 S f 2) 11)) (nI ((pm_ch0 S f 2) 10 0)) (nI ((pm_ch0 S f 2) 10 1)) (nI ((pm_ch0 S f 2) 10 2))) hx hb hK hP hD hS 11 0 rfl rfl (by omega) (by decide) (pm_vn_u ((pm_ch0 S f 2) 8) 2 ((pm_fav S f 2 2) + 1)) rfl dX2_noteChoice_51 (fun H locs hP hD hS => ?_)
        have hP : va_P D vwCl (pm_shS y q (pm_ch0 S f 3)) H := by rw [show pm_ch0 S f 3 = _ from by first | exact pm_ch0_p (n := 2) (by assumption) | exact pm_ch0_n (n := 2) (by assumption)]; exact hP
        have hD : va_D (pm_ad (pm_shS y q S)) (pm_shS y q (pm_ch0 S f 3)) := by rw [show pm_ch0 S f 3 = _ from by first | exact pm_ch0_p (n := 2) (by assumption) | exact pm_ch0_n (n := 2) (by assumption)]; exact hD
        refine lv_iinc (v := nI 3) (lv' := [(2, .int (nI 3)), (0, .ref (q 0)), (1, .int (nI f))]) hx hb dX2_noteChoice_52 hl (k := 0) rfl (by decide) (by decide) rfl (fun ls hl => ?_)
        refine lv_goto (tgt := 27) hx hb dX2_noteChoice_55 (by decide) ?_
        refine lv_iload_n hx hb dX2_noteChoice_27 rfl (lv_at hl 0 rfl) ?_
        refine lv_iconst (v := nI 3) hx hb dX2_noteChoice_28 (by decide) ?_
        refine lv_icmp_ge (tgt := 58) hx hb dX2_noteChoice_29 (by decide) (fun _ => ?_) (fun c38 => (c38 (by decide)).elim)
        exact W.vret hx hb hr (fun t ht _ => ⟨⟨(), rfl, trivial, (by show va_P D vwCl (pm_shS y q (pm_chs S f)) t.heap; rw [ht]; exact hP)⟩, hS.F ht⟩) hS.2.2 dX2_noteChoice_58
  · skip
    refine lv_aload_n hx hb dX2_noteChoice_42 rfl (lv_at hl 1 rfl) ?_
    refine va_get (D := D) (ci := 2) (v := .ref (q 11)) (C := RX2) (T := TX2) (N := 15) hx hb hts hin2 hown hK hP 0 rfl rfl 10 (by decide) (hts (.fieldLink RX2 42 "ProofMarks$Sheet" "favourites" "[I") (List.mem_of_getElem? (i := 5) rfl)) (fun _ h9 => h9) rfl dX2_noteChoice_43 ?_
    refine lv_iload_n hx hb dX2_noteChoice_46 rfl (lv_at hl 0 rfl) ?_
    refine lv_dup2_11 hx hb dX2_noteChoice_47 rfl rfl ?_
    refine kx_iald (v := nI (((pm_ch0 S f 0) 8) 0)) hx hb hK hP 11 0 rfl rfl (by omega) (by decide) rfl dX2_noteChoice_48 ?_
    refine lv_topi (fun x39 e40 => ?_)
    obtain rfl : x39 = nI (pm_fav S f 0 0) := e40.trans (rfl)
    refine lv_iconst (v := nI 1) hx hb dX2_noteChoice_49 (by decide) ?_
    refine kx_iadd hx hb dX2_noteChoice_50 ?_
    refine kx_iast (ws' := pm_sh y q (pm_vn ((pm_ch0 S f 0) 9)) (pm_vn ((pm_ch0 S f 0) 0)) (pm_vt ((pm_ch0 S f 0) 4)) (pm_vc ((pm_ch0 S f 0) 4)) (pm_vn ((pm_ch0 S f 0) 1)) (pm_vn ((pm_ch0 S f 0) 2)) (pm_vi ((pm_ch0 S f 0) 3)) (pm_vn ((pm_ch0 S f 0) 5)) (pm_vn ((pm_ch0 S f 0) 6)) (pm_vn ((pm_ch0 S f 0) 7)) (pm_vn (updN ((pm_ch0 S f 0) 8) 0 ((pm_fav S f 0 0) + 1))) (pm_vn ((pm_ch0 S f 0) 11)) (nI ((pm_ch0 S f 0) 10 0)) (nI ((pm_ch0 S f 0) 10 1)) (nI ((pm_ch0 S f 0) 10 2))) hx hb hK hP hD hS 11 0 rfl rfl (by omega) (by decide) (pm_vn_u ((pm_ch0 S f 0) 8) 0 ((pm_fav S f 0 0) + 1)) rfl dX2_noteChoice_51 (fun H locs hP hD hS => ?_)
    have hP : va_P D vwCl (pm_shS y q (pm_ch0 S f 1)) H := by rw [show pm_ch0 S f 1 = _ from by first | exact pm_ch0_p (n := 0) (by assumption) | exact pm_ch0_n (n := 0) (by assumption)]; exact hP
    have hD : va_D (pm_ad (pm_shS y q S)) (pm_shS y q (pm_ch0 S f 1)) := by rw [show pm_ch0 S f 1 = _ from by first | exact pm_ch0_p (n := 0) (by assumption) | exact pm_ch0_n (n := 0) (by assumption)]; exact hD
    refine lv_iinc (v := nI 1) (lv' := [(2, .int (nI 1)), (0, .ref (q 0)), (1, .int (nI f))]) hx hb dX2_noteChoice_52 hl (k := 0) rfl (by decide) (by decide) rfl (fun ls hl => ?_)
    refine lv_goto (tgt := 27) hx hb dX2_noteChoice_55 (by decide) ?_
    refine lv_iload_n hx hb dX2_noteChoice_27 rfl (lv_at hl 0 rfl) ?_
    refine lv_iconst (v := nI 3) hx hb dX2_noteChoice_28 (by decide) ?_
    refine lv_icmp_ge (tgt := 58) hx hb dX2_noteChoice_29 (by decide) (fun c41 => absurd c41 (by decide)) (fun _ => ?_)
    refine lv_aload_n hx hb dX2_noteChoice_32 rfl (lv_at hl 1 rfl) ?_
    refine lv_iload_n hx hb dX2_noteChoice_33 rfl (lv_at hl 0 rfl) ?_
    refine lv_iload_n hx hb dX2_noteChoice_34 rfl (lv_at hl 2 rfl) ?_
    refine vp_callSi (W.runV (As := [.int (nI 1), .int (nI f)]) (rest := []) ⟨hx, hb, hml, hown, hts⟩ (k_X2_markOf l D y q (pm_ch0 S f 1) 1 f ho (by omega) (by omega)) (cwV 2 hts gX2_noteChoice_X2_markOf rfl rfl rfl hd_X2_markOf ⟨Nat.le_of_ble_eq_true rfl, Nat.le_of_ble_eq_true rfl⟩) ⟨pm_ro_blind, va_recv hK hP (ci := 2) (q0 := 0) rfl rfl, pm_ro_pre hP hK⟩ rfl rfl hl.1 rfl (lv_room (Nat.le_of_ble_eq_true rfl)) dX2_noteChoice_35 ⟨Nat.le_of_ble_eq_true rfl, Nat.le_of_ble_eq_true rfl⟩) (fun r42 h43 => ?_)
    obtain rfl : r42 = nI (pm_mk ((pm_ch0 S f 1) 4 f) 1) := h43
    have := pm_lt4 ((pm_ch0 S f 1) 4 f) 1
    refine lv_topi (fun x44 e45 => ?_)
    obtain rfl : x44 = nI (pm_mk (S 4 f) 1) := e45.trans (rfl)
    have := pm_lt4 (S 4 f) 1
    refine lv_iconst (v := nI 1) hx hb dX2_noteChoice_38 (by decide) ?_
    refine kx_icmp_ne (tgt := 52) hx hb (by omega) (by decide) dX2_noteChoice_39 (by decide) (fun c46 => ?_) (fun c46 => ?_)
    · skip
      have hP : va_P D vwCl (pm_shS y q (pm_ch0 S f 2)) H := by rw [show pm_ch0 S f 2 = _ from by first | exact pm_ch0_p (n := 1) (by assumption) | exact pm_ch0_n (n := 1) (by assumption)]; exact hP
      have hD : va_D (pm_ad (pm_shS y q S)) (pm_shS y q (pm_ch0 S f 2)) := by rw [show pm_ch0 S f 2 = _ from by first | exact pm_ch0_p (n := 1) (by assumption) | exact pm_ch0_n (n := 1) (by assumption)]; exact hD
      refine lv_iinc (v := nI 2) (lv' := [(2, .int (nI 2)), (0, .ref (q 0)), (1, .int (nI f))]) hx hb dX2_noteChoice_52 hl (k := 0) rfl (by decide) (by decide) rfl (fun ls hl => ?_)
      refine lv_goto (tgt := 27) hx hb dX2_noteChoice_55 (by decide) ?_
      refine lv_iload_n hx hb dX2_noteChoice_27 rfl (lv_at hl 0 rfl) ?_
      refine lv_iconst (v := nI 3) hx hb dX2_noteChoice_28 (by decide) ?_
      refine lv_icmp_ge (tgt := 58) hx hb dX2_noteChoice_29 (by decide) (fun c47 => absurd c47 (by decide)) (fun _ => ?_)
      refine lv_aload_n hx hb dX2_noteChoice_32 rfl (lv_at hl 1 rfl) ?_
      refine lv_iload_n hx hb dX2_noteChoice_33 rfl (lv_at hl 0 rfl) ?_
      refine lv_iload_n hx hb dX2_noteChoice_34 rfl (lv_at hl 2 rfl) ?_
      refine vp_callSi (W.runV (As := [.int (nI 2), .int (nI f)]) (rest := []) ⟨hx, hb, hml, hown, hts⟩ (k_X2_markOf l D y q (pm_ch0 S f 2) 2 f ho (by omega) (by omega)) (cwV 2 hts gX2_noteChoice_X2_markOf rfl rfl rfl hd_X2_markOf ⟨Nat.le_of_ble_eq_true rfl, Nat.le_of_ble_eq_true rfl⟩) ⟨pm_ro_blind, va_recv hK hP (ci := 2) (q0 := 0) rfl rfl, pm_ro_pre hP hK⟩ rfl rfl hl.1 rfl (lv_room (Nat.le_of_ble_eq_true rfl)) dX2_noteChoice_35 ⟨Nat.le_of_ble_eq_true rfl, Nat.le_of_ble_eq_true rfl⟩) (fun r48 h49 => ?_)
      obtain rfl : r48 = nI (pm_mk ((pm_ch0 S f 2) 4 f) 2) := h49
      have := pm_lt4 ((pm_ch0 S f 2) 4 f) 2
      refine lv_topi (fun x50 e51 => ?_)
      obtain rfl : x50 = nI (pm_mk (S 4 f) 2) := e51.trans (rfl)
      have := pm_lt4 (S 4 f) 2
      refine lv_iconst (v := nI 1) hx hb dX2_noteChoice_38 (by decide) ?_
      refine kx_icmp_ne (tgt := 52) hx hb (by omega) (by decide) dX2_noteChoice_39 (by decide) (fun c52 => ?_) (fun c52 => ?_)
      · skip
        have hP : va_P D vwCl (pm_shS y q (pm_ch0 S f 3)) H := by rw [show pm_ch0 S f 3 = _ from by first | exact pm_ch0_p (n := 2) (by assumption) | exact pm_ch0_n (n := 2) (by assumption)]; exact hP
        have hD : va_D (pm_ad (pm_shS y q S)) (pm_shS y q (pm_ch0 S f 3)) := by rw [show pm_ch0 S f 3 = _ from by first | exact pm_ch0_p (n := 2) (by assumption) | exact pm_ch0_n (n := 2) (by assumption)]; exact hD
        refine lv_iinc (v := nI 3) (lv' := [(2, .int (nI 3)), (0, .ref (q 0)), (1, .int (nI f))]) hx hb dX2_noteChoice_52 hl (k := 0) rfl (by decide) (by decide) rfl (fun ls hl => ?_)
        refine lv_goto (tgt := 27) hx hb dX2_noteChoice_55 (by decide) ?_
        refine lv_iload_n hx hb dX2_noteChoice_27 rfl (lv_at hl 0 rfl) ?_
        refine lv_iconst (v := nI 3) hx hb dX2_noteChoice_28 (by decide) ?_
        refine lv_icmp_ge (tgt := 58) hx hb dX2_noteChoice_29 (by decide) (fun _ => ?_) (fun c53 => (c53 (by decide)).elim)
        exact W.vret hx hb hr (fun t ht _ => ⟨⟨(), rfl, trivial, (by show va_P D vwCl (pm_shS y q (pm_chs S f)) t.heap; rw [ht]; exact hP)⟩, hS.F ht⟩) hS.2.2 dX2_noteChoice_58
      · skip
        refine lv_aload_n hx hb dX2_noteChoice_42 rfl (lv_at hl 1 rfl) ?_
        refine va_get (D := D) (ci := 2) (v := .ref (q 11)) (C := RX2) (T := TX2) (N := 15) hx hb hts hin2 hown hK hP 0 rfl rfl 10 (by decide) (hts (.fieldLink RX2 42 "ProofMarks$Sheet" "favourites" "[I") (List.mem_of_getElem? (i := 5) rfl)) (fun _ h9 => h9) rfl dX2_noteChoice_43 ?_
        refine lv_iload_n hx hb dX2_noteChoice_46 rfl (lv_at hl 0 rfl) ?_
        refine lv_dup2_11 hx hb dX2_noteChoice_47 rfl rfl ?_
        refine kx_iald (v := nI (((pm_ch0 S f 2) 8) 2)) hx hb hK hP 11 0 rfl rfl (by omega) (by decide) rfl dX2_noteChoice_48 ?_
        refine lv_topi (fun x54 e55 => ?_)
        obtain rfl : x54 = nI (pm_fav S f 2 2) := e55.trans (rfl)
        refine lv_iconst (v := nI 1) hx hb dX2_noteChoice_49 (by decide) ?_
        refine kx_iadd hx hb dX2_noteChoice_50 ?_
        refine kx_iast (ws' := pm_sh y q (pm_vn ((pm_ch0 S f 2) 9)) (pm_vn ((pm_ch0 S f 2) 0)) (pm_vt ((pm_ch0 S f 2) 4)) (pm_vc ((pm_ch0 S f 2) 4)) (pm_vn ((pm_ch0 S f 2) 1)) (pm_vn ((pm_ch0 S f 2) 2)) (pm_vi ((pm_ch0 S f 2) 3)) (pm_vn ((pm_ch0 S f 2) 5)) (pm_vn ((pm_ch0 S f 2) 6)) (pm_vn ((pm_ch0 S f 2) 7)) (pm_vn (updN ((pm_ch0 S f 2) 8) 2 ((pm_fav S f 2 2) + 1))) (pm_vn ((pm_ch0 S f 2) 11)) (nI ((pm_ch0 S f 2) 10 0)) (nI ((pm_ch0 S f 2) 10 1)) (nI ((pm_ch0 S f 2) 10 2))) hx hb hK hP hD hS 11 0 rfl rfl (by omega) (by decide) (pm_vn_u ((pm_ch0 S f 2) 8) 2 ((pm_fav S f 2 2) + 1)) rfl dX2_noteChoice_51 (fun H locs hP hD hS => ?_)
        have hP : va_P D vwCl (pm_shS y q (pm_ch0 S f 3)) H := by rw [show pm_ch0 S f 3 = _ from by first | exact pm_ch0_p (n := 2) (by assumption) | exact pm_ch0_n (n := 2) (by assumption)]; exact hP
        have hD : va_D (pm_ad (pm_shS y q S)) (pm_shS y q (pm_ch0 S f 3)) := by rw [show pm_ch0 S f 3 = _ from by first | exact pm_ch0_p (n := 2) (by assumption) | exact pm_ch0_n (n := 2) (by assumption)]; exact hD
        refine lv_iinc (v := nI 3) (lv' := [(2, .int (nI 3)), (0, .ref (q 0)), (1, .int (nI f))]) hx hb dX2_noteChoice_52 hl (k := 0) rfl (by decide) (by decide) rfl (fun ls hl => ?_)
        refine lv_goto (tgt := 27) hx hb dX2_noteChoice_55 (by decide) ?_
        refine lv_iload_n hx hb dX2_noteChoice_27 rfl (lv_at hl 0 rfl) ?_
        refine lv_iconst (v := nI 3) hx hb dX2_noteChoice_28 (by decide) ?_
        refine lv_icmp_ge (tgt := 58) hx hb dX2_noteChoice_29 (by decide) (fun _ => ?_) (fun c56 => (c56 (by decide)).elim)
        exact W.vret hx hb hr (fun t ht _ => ⟨⟨(), rfl, trivial, (by show va_P D vwCl (pm_shS y q (pm_chs S f)) t.heap; rw [ht]; exact hP)⟩, hS.F ht⟩) hS.2.2 dX2_noteChoice_58
    · skip
      refine lv_aload_n hx hb dX2_noteChoice_42 rfl (lv_at hl 1 rfl) ?_
      refine va_get (D := D) (ci := 2) (v := .ref (q 11)) (C := RX2) (T := TX2) (N := 15) hx hb hts hin2 hown hK hP 0 rfl rfl 10 (by decide) (hts (.fieldLink RX2 42 "ProofMarks$Sheet" "favourites" "[I") (List.mem_of_getElem? (i := 5) rfl)) (fun _ h9 => h9) rfl dX2_noteChoice_43 ?_
      refine lv_iload_n hx hb dX2_noteChoice_46 rfl (lv_at hl 0 rfl) ?_
      refine lv_dup2_11 hx hb dX2_noteChoice_47 rfl rfl ?_
      refine kx_iald (v := nI (((pm_ch0 S f 1) 8) 1)) hx hb hK hP 11 0 rfl rfl (by omega) (by decide) rfl dX2_noteChoice_48 ?_
      refine lv_topi (fun x57 e58 => ?_)
      obtain rfl : x57 = nI (pm_fav S f 1 1) := e58.trans (rfl)
      refine lv_iconst (v := nI 1) hx hb dX2_noteChoice_49 (by decide) ?_
      refine kx_iadd hx hb dX2_noteChoice_50 ?_
      refine kx_iast (ws' := pm_sh y q (pm_vn ((pm_ch0 S f 1) 9)) (pm_vn ((pm_ch0 S f 1) 0)) (pm_vt ((pm_ch0 S f 1) 4)) (pm_vc ((pm_ch0 S f 1) 4)) (pm_vn ((pm_ch0 S f 1) 1)) (pm_vn ((pm_ch0 S f 1) 2)) (pm_vi ((pm_ch0 S f 1) 3)) (pm_vn ((pm_ch0 S f 1) 5)) (pm_vn ((pm_ch0 S f 1) 6)) (pm_vn ((pm_ch0 S f 1) 7)) (pm_vn (updN ((pm_ch0 S f 1) 8) 1 ((pm_fav S f 1 1) + 1))) (pm_vn ((pm_ch0 S f 1) 11)) (nI ((pm_ch0 S f 1) 10 0)) (nI ((pm_ch0 S f 1) 10 1)) (nI ((pm_ch0 S f 1) 10 2))) hx hb hK hP hD hS 11 0 rfl rfl (by omega) (by decide) (pm_vn_u ((pm_ch0 S f 1) 8) 1 ((pm_fav S f 1 1) + 1)) rfl dX2_noteChoice_51 (fun H locs hP hD hS => ?_)
      have hP : va_P D vwCl (pm_shS y q (pm_ch0 S f 2)) H := by rw [show pm_ch0 S f 2 = _ from by first | exact pm_ch0_p (n := 1) (by assumption) | exact pm_ch0_n (n := 1) (by assumption)]; exact hP
      have hD : va_D (pm_ad (pm_shS y q S)) (pm_shS y q (pm_ch0 S f 2)) := by rw [show pm_ch0 S f 2 = _ from by first | exact pm_ch0_p (n := 1) (by assumption) | exact pm_ch0_n (n := 1) (by assumption)]; exact hD
      refine lv_iinc (v := nI 2) (lv' := [(2, .int (nI 2)), (0, .ref (q 0)), (1, .int (nI f))]) hx hb dX2_noteChoice_52 hl (k := 0) rfl (by decide) (by decide) rfl (fun ls hl => ?_)
      refine lv_goto (tgt := 27) hx hb dX2_noteChoice_55 (by decide) ?_
      refine lv_iload_n hx hb dX2_noteChoice_27 rfl (lv_at hl 0 rfl) ?_
      refine lv_iconst (v := nI 3) hx hb dX2_noteChoice_28 (by decide) ?_
      refine lv_icmp_ge (tgt := 58) hx hb dX2_noteChoice_29 (by decide) (fun c59 => absurd c59 (by decide)) (fun _ => ?_)
      refine lv_aload_n hx hb dX2_noteChoice_32 rfl (lv_at hl 1 rfl) ?_
      refine lv_iload_n hx hb dX2_noteChoice_33 rfl (lv_at hl 0 rfl) ?_
      refine lv_iload_n hx hb dX2_noteChoice_34 rfl (lv_at hl 2 rfl) ?_
      refine vp_callSi (W.runV (As := [.int (nI 2), .int (nI f)]) (rest := []) ⟨hx, hb, hml, hown, hts⟩ (k_X2_markOf l D y q (pm_ch0 S f 2) 2 f ho (by omega) (by omega)) (cwV 2 hts gX2_noteChoice_X2_markOf rfl rfl rfl hd_X2_markOf ⟨Nat.le_of_ble_eq_true rfl, Nat.le_of_ble_eq_true rfl⟩) ⟨pm_ro_blind, va_recv hK hP (ci := 2) (q0 := 0) rfl rfl, pm_ro_pre hP hK⟩ rfl rfl hl.1 rfl (lv_room (Nat.le_of_ble_eq_true rfl)) dX2_noteChoice_35 ⟨Nat.le_of_ble_eq_true rfl, Nat.le_of_ble_eq_true rfl⟩) (fun r60 h61 => ?_)
      obtain rfl : r60 = nI (pm_mk ((pm_ch0 S f 2) 4 f) 2) := h61
      have := pm_lt4 ((pm_ch0 S f 2) 4 f) 2
      refine lv_topi (fun x62 e63 => ?_)
      obtain rfl : x62 = nI (pm_mk (S 4 f) 2) := e63.trans (rfl)
      have := pm_lt4 (S 4 f) 2
      refine lv_iconst (v := nI 1) hx hb dX2_noteChoice_38 (by decide) ?_
      refine kx_icmp_ne (tgt := 52) hx hb (by omega) (by decide) dX2_noteChoice_39 (by decide) (fun c64 => ?_) (fun c64 => ?_)
      · skip
        have hP : va_P D vwCl (pm_shS y q (pm_ch0 S f 3)) H := by rw [show pm_ch0 S f 3 = _ from by first | exact pm_ch0_p (n := 2) (by assumption) | exact pm_ch0_n (n := 2) (by assumption)]; exact hP
        have hD : va_D (pm_ad (pm_shS y q S)) (pm_shS y q (pm_ch0 S f 3)) := by rw [show pm_ch0 S f 3 = _ from by first | exact pm_ch0_p (n := 2) (by assumption) | exact pm_ch0_n (n := 2) (by assumption)]; exact hD
        refine lv_iinc (v := nI 3) (lv' := [(2, .int (nI 3)), (0, .ref (q 0)), (1, .int (nI f))]) hx hb dX2_noteChoice_52 hl (k := 0) rfl (by decide) (by decide) rfl (fun ls hl => ?_)
        refine lv_goto (tgt := 27) hx hb dX2_noteChoice_55 (by decide) ?_
        refine lv_iload_n hx hb dX2_noteChoice_27 rfl (lv_at hl 0 rfl) ?_
        refine lv_iconst (v := nI 3) hx hb dX2_noteChoice_28 (by decide) ?_
        refine lv_icmp_ge (tgt := 58) hx hb dX2_noteChoice_29 (by decide) (fun _ => ?_) (fun c65 => (c65 (by decide)).elim)
        exact W.vret hx hb hr (fun t ht _ => ⟨⟨(), rfl, trivial, (by show va_P D vwCl (pm_shS y q (pm_chs S f)) t.heap; rw [ht]; exact hP)⟩, hS.F ht⟩) hS.2.2 dX2_noteChoice_58
      · skip
        refine lv_aload_n hx hb dX2_noteChoice_42 rfl (lv_at hl 1 rfl) ?_
        refine va_get (D := D) (ci := 2) (v := .ref (q 11)) (C := RX2) (T := TX2) (N := 15) hx hb hts hin2 hown hK hP 0 rfl rfl 10 (by decide) (hts (.fieldLink RX2 42 "ProofMarks$Sheet" "favourites" "[I") (List.mem_of_getElem? (i := 5) rfl)) (fun _ h9 => h9) rfl dX2_noteChoice_43 ?_
        refine lv_iload_n hx hb dX2_noteChoice_46 rfl (lv_at hl 0 rfl) ?_
        refine lv_dup2_11 hx hb dX2_noteChoice_47 rfl rfl ?_
        refine kx_iald (v := nI (((pm_ch0 S f 2) 8) 2)) hx hb hK hP 11 0 rfl rfl (by omega) (by decide) rfl dX2_noteChoice_48 ?_
        refine lv_topi (fun x66 e67 => ?_)
        obtain rfl : x66 = nI (pm_fav S f 2 2) := e67.trans (rfl)
        refine lv_iconst (v := nI 1) hx hb dX2_noteChoice_49 (by decide) ?_
        refine kx_iadd hx hb dX2_noteChoice_50 ?_
        refine kx_iast (ws' := pm_sh y q (pm_vn ((pm_ch0 S f 2) 9)) (pm_vn ((pm_ch0 S f 2) 0)) (pm_vt ((pm_ch0 S f 2) 4)) (pm_vc ((pm_ch0 S f 2) 4)) (pm_vn ((pm_ch0 S f 2) 1)) (pm_vn ((pm_ch0 S f 2) 2)) (pm_vi ((pm_ch0 S f 2) 3)) (pm_vn ((pm_ch0 S f 2) 5)) (pm_vn ((pm_ch0 S f 2) 6)) (pm_vn ((pm_ch0 S f 2) 7)) (pm_vn (updN ((pm_ch0 S f 2) 8) 2 ((pm_fav S f 2 2) + 1))) (pm_vn ((pm_ch0 S f 2) 11)) (nI ((pm_ch0 S f 2) 10 0)) (nI ((pm_ch0 S f 2) 10 1)) (nI ((pm_ch0 S f 2) 10 2))) hx hb hK hP hD hS 11 0 rfl rfl (by omega) (by decide) (pm_vn_u ((pm_ch0 S f 2) 8) 2 ((pm_fav S f 2 2) + 1)) rfl dX2_noteChoice_51 (fun H locs hP hD hS => ?_)
        have hP : va_P D vwCl (pm_shS y q (pm_ch0 S f 3)) H := by rw [show pm_ch0 S f 3 = _ from by first | exact pm_ch0_p (n := 2) (by assumption) | exact pm_ch0_n (n := 2) (by assumption)]; exact hP
        have hD : va_D (pm_ad (pm_shS y q S)) (pm_shS y q (pm_ch0 S f 3)) := by rw [show pm_ch0 S f 3 = _ from by first | exact pm_ch0_p (n := 2) (by assumption) | exact pm_ch0_n (n := 2) (by assumption)]; exact hD
        refine lv_iinc (v := nI 3) (lv' := [(2, .int (nI 3)), (0, .ref (q 0)), (1, .int (nI f))]) hx hb dX2_noteChoice_52 hl (k := 0) rfl (by decide) (by decide) rfl (fun ls hl => ?_)
        refine lv_goto (tgt := 27) hx hb dX2_noteChoice_55 (by decide) ?_
        refine lv_iload_n hx hb dX2_noteChoice_27 rfl (lv_at hl 0 rfl) ?_
        refine lv_iconst (v := nI 3) hx hb dX2_noteChoice_28 (by decide) ?_
        refine lv_icmp_ge (tgt := 58) hx hb dX2_noteChoice_29 (by decide) (fun _ => ?_) (fun c68 => (c68 (by decide)).elim)
        exact W.vret hx hb hr (fun t ht _ => ⟨⟨(), rfl, trivial, (by show va_P D vwCl (pm_shS y q (pm_chs S f)) t.heap; rw [ht]; exact hP)⟩, hS.F ht⟩) hS.2.2 dX2_noteChoice_58

set_option maxHeartbeats 4000000 in
set_option maxRecDepth 100000 in
theorem k_X2_settle (l : Launch) (D : va_G) (y : Nat → ClassId) (q : Nat → Nat) (S : Nat → Nat → Nat) (f : Nat) (ho : pm_okb (S 4 f) = true) (hs : S 9 0 ≤ 9) (hs3 : S 9 3 ≤ 9) (hd : S 1 f ≤ 99) (hrd : S 10 0 ≤ 99) (hf : f < 30) : Met l yX2_settle wsX2_settle ({ frames := 3, cells := 0, slots := 0, locals := 64 } : Room) (pm_wr D (pm_ty y) [.ref (q 0), .int (nI f)] (pm_shS y q S)) (pm_Qi D (fun (r : Int32) (_ : Unit) => r = nI (pm_aft S f)) (fun (_ : Unit) => pm_shS y q (pm_jdg S f)) (pm_shS y q S)) 0 0 (pm_ad (pm_shS y q S)) := by
  refine Met.ofW (cc := cX2_settle) (maxL := 3) (ret := (some .int)) (by decide) rfl ?_
  intro p e s m args below meth c s₁ B hml hpre
  obtain ⟨rfl, hP, hK, hD0⟩ := hpre
  have hx := B.exec
  have hb := B.bytes
  have hr := B.returns
  have hts := atoms_spec (ws := wsX2_settle) B.pre
  have hown : s.vm.findClass RX2 = some m.cls := findClass_of_methodNamed B.named
  have hlocks := B.notSynchronized
  have hin2 : ∀ w ∈ u_ws RX2 TX2 15, w ∈ wsX2_settle := fun w h => List.mem_cons_of_mem _ (List.mem_append_right _ h)
  have hD := pm_ad_self hD0
  have hS : va_S (pm_ad (pm_shS y q S)) s.heap s.heap [] := va_S.rf
  have hP : va_P D vwCl (pm_shS y q S) s.heap := hP
  have hl := lv_entry ([.ref (q 0), .int (nI f)]) (n := 3) (Nat.le_of_ble_eq_true rfl)
  rw [lg_entry_eq]
  generalize (lg_sl ([.ref (q 0), .int (nI f)]) ++ List.replicate (3 - (lg_sl ([.ref (q 0), .int (nI f)])).length) Slot.unset).toArray = ls at hl ⊢
  have hl : lv_has ls 3 [(0, .ref (q 0)), (1, .int (nI f))] := hl
  refine lv_aload_n hx hb dX2_settle_0 rfl (lv_at hl 0 rfl) ?_
  refine lv_iload_n hx hb dX2_settle_1 rfl (lv_at hl 1 rfl) ?_
  refine vp_callSi (W.runV (As := [.int (nI f)]) (rest := []) ⟨hx, hb, hml, hown, hts⟩ (k_X2_afterRound l D y q S f ho hs hs3 hd (by omega)) (cwV 1 hts gX2_settle_X2_afterRound rfl rfl rfl hd_X2_afterRound ⟨Nat.le_of_ble_eq_true rfl, Nat.le_of_ble_eq_true rfl⟩) ⟨pm_ro_blind, va_recv hK hP (ci := 2) (q0 := 0) rfl rfl, pm_ro_pre hP hK⟩ rfl rfl hl.1 rfl (lv_room (Nat.le_of_ble_eq_true rfl)) dX2_settle_2 ⟨Nat.le_of_ble_eq_true rfl, Nat.le_of_ble_eq_true rfl⟩) (fun r1 h2 => ?_)
  obtain rfl : r1 = nI (pm_aft S f) := h2
  have := pm_aft3 S f
  refine lv_istore_n (lv' := [(2, .int (nI (pm_aft S f))), (0, .ref (q 0)), (1, .int (nI f))]) hx hb dX2_settle_5 rfl hl (by decide) rfl (fun ls hl => ?_)
  refine lv_iload_n hx hb dX2_settle_6 rfl (lv_at hl 0 rfl) ?_
  refine lv_iconst (v := nI 1) hx hb dX2_settle_7 (by decide) ?_
  refine kx_icmp_ne (tgt := 16) hx hb (by omega) (by decide) dX2_settle_8 (by decide) (fun c3 => ?_) (fun c3 => ?_)
  · skip
    refine lv_aload_n hx hb dX2_settle_16 rfl (lv_at hl 1 rfl) ?_
    refine va_get (D := D) (ci := 2) (v := .ref (q 5)) (C := RX2) (T := TX2) (N := 15) hx hb hts hin2 hown hK hP 0 rfl rfl 4 (by decide) (hts (.fieldLink RX2 24 "ProofMarks$Sheet" "dull" "[I") (List.mem_of_getElem? (i := 1) rfl)) (fun _ h9 => h9) rfl dX2_settle_17 ?_
    refine lv_iload_n hx hb dX2_settle_20 rfl (lv_at hl 2 rfl) ?_
    refine lv_aload_n hx hb dX2_settle_21 rfl (lv_at hl 1 rfl) ?_
    refine lv_iload_n hx hb dX2_settle_22 rfl (lv_at hl 2 rfl) ?_
    refine vp_callSi (W.runV (As := [.int (nI f)]) (rest := [.int (nI f), .ref (q 5)]) ⟨hx, hb, hml, hown, hts⟩ (k_X2_dullAfterRound l D y q S f ho (by omega)) (cwV 1 hts gX2_settle_X2_dullAfterRound rfl rfl rfl hd_X2_dullAfterRound ⟨Nat.le_of_ble_eq_true rfl, Nat.le_of_ble_eq_true rfl⟩) ⟨pm_ro_blind, va_recv hK hP (ci := 2) (q0 := 0) rfl rfl, pm_ro_pre hP hK⟩ rfl rfl hl.1 rfl (lv_room (Nat.le_of_ble_eq_true rfl)) dX2_settle_23 ⟨Nat.le_of_ble_eq_true rfl, Nat.le_of_ble_eq_true rfl⟩) (fun r4 h5 => ?_)
    obtain rfl : r4 = nI (pm_dl S f) := h5
    have := pm_dl_le S f
    refine lv_topi (fun x6 e7 => ?_)
    obtain rfl : x6 = nI (pm_dl S f) := e7.trans (rfl)
    refine kx_iast (ws' := pm_sh y q (pm_vn (S 9)) (pm_vn (S 0)) (pm_vt (S 4)) (pm_vc (S 4)) (pm_vn (updN (S 1) f (pm_dl S f))) (pm_vn (S 2)) (pm_vi (S 3)) (pm_vn (S 5)) (pm_vn (S 6)) (pm_vn (S 7)) (pm_vn (S 8)) (pm_vn (S 11)) (nI (S 10 0)) (nI (S 10 1)) (nI (S 10 2))) hx hb hK hP hD hS 5 0 rfl rfl (by omega) (by decide) (pm_vn_u (S 1) f (pm_dl S f)) rfl dX2_settle_26 (fun H locs hP hD hS => ?_)
    refine lv_aload_n hx hb dX2_settle_27 rfl (lv_at hl 1 rfl) ?_
    refine va_get (D := D) (ci := 2) (v := .ref (q 2)) (C := RX2) (T := TX2) (N := 15) hx hb hts hin2 hown hK hP 0 rfl rfl 1 (by decide) (hts (.fieldLink RX2 15 "ProofMarks$Sheet" "how" "[I") (List.mem_of_getElem? (i := 2) rfl)) (fun _ h9 => h9) rfl dX2_settle_28 ?_
    refine lv_iload_n hx hb dX2_settle_31 rfl (lv_at hl 2 rfl) ?_
    refine lv_iload_n hx hb dX2_settle_32 rfl (lv_at hl 0 rfl) ?_
    refine kx_iast (ws' := pm_sh y q (pm_vn (S 9)) (pm_vn (updN (S 0) f (pm_aft S f))) (pm_vt (S 4)) (pm_vc (S 4)) (pm_vn (updN (S 1) f (pm_dl S f))) (pm_vn (S 2)) (pm_vi (S 3)) (pm_vn (S 5)) (pm_vn (S 6)) (pm_vn (S 7)) (pm_vn (S 8)) (pm_vn (S 11)) (nI (S 10 0)) (nI (S 10 1)) (nI (S 10 2))) hx hb hK hP hD hS 2 0 rfl rfl (by omega) (by decide) (pm_vn_u (S 0) f (pm_aft S f)) rfl dX2_settle_33 (fun H locs hP hD hS => ?_)
    refine lv_aload_n hx hb dX2_settle_34 rfl (lv_at hl 1 rfl) ?_
    refine va_get (D := D) (ci := 2) (v := .ref (q 3)) (C := RX2) (T := TX2) (N := 15) hx hb hts hin2 hown hK hP 0 rfl rfl 2 (by decide) (hts (.fieldLink RX2 18 "ProofMarks$Sheet" "ticks" "[I") (List.mem_of_getElem? (i := 3) rfl)) (fun _ h9 => h9) rfl dX2_settle_35 ?_
    refine lv_iload_n hx hb dX2_settle_38 rfl (lv_at hl 2 rfl) ?_
    refine lv_iconst (v := nI 0) hx hb dX2_settle_39 (by decide) ?_
    refine kx_iast (ws' := pm_sh y q (pm_vn (S 9)) (pm_vn (updN (S 0) f (pm_aft S f))) (pm_vt (updN (S 4) f 0)) (pm_vc (S 4)) (pm_vn (updN (S 1) f (pm_dl S f))) (pm_vn (S 2)) (pm_vi (S 3)) (pm_vn (S 5)) (pm_vn (S 6)) (pm_vn (S 7)) (pm_vn (S 8)) (pm_vn (S 11)) (nI (S 10 0)) (nI (S 10 1)) (nI (S 10 2))) hx hb hK hP hD hS 3 0 rfl rfl (by omega) (by decide) (pm_vt_u (S 4) f 0) rfl dX2_settle_40 (fun H locs hP hD hS => ?_)
    refine lv_aload_n hx hb dX2_settle_41 rfl (lv_at hl 1 rfl) ?_
    refine va_get (D := D) (ci := 2) (v := .ref (q 4)) (C := RX2) (T := TX2) (N := 15) hx hb hts hin2 hown hK hP 0 rfl rfl 3 (by decide) (hts (.fieldLink RX2 21 "ProofMarks$Sheet" "crosses" "[I") (List.mem_of_getElem? (i := 4) rfl)) (fun _ h9 => h9) rfl dX2_settle_42 ?_
    refine lv_iload_n hx hb dX2_settle_45 rfl (lv_at hl 2 rfl) ?_
    refine lv_iconst (v := nI 0) hx hb dX2_settle_46 (by decide) ?_
    refine kx_iast (ws' := pm_sh y q (pm_vn (S 9)) (pm_vn (updN (S 0) f (pm_aft S f))) (pm_vt (updN (S 4) f 0)) (pm_vc (updN (S 4) f 0)) (pm_vn (updN (S 1) f (pm_dl S f))) (pm_vn (S 2)) (pm_vi (S 3)) (pm_vn (S 5)) (pm_vn (S 6)) (pm_vn (S 7)) (pm_vn (S 8)) (pm_vn (S 11)) (nI (S 10 0)) (nI (S 10 1)) (nI (S 10 2))) hx hb hK hP hD hS 4 0 rfl rfl (by omega) (by decide) (pm_vc_u (S 4) f 0) rfl dX2_settle_47 (fun H locs hP hD hS => ?_)
    refine lv_iload_n hx hb dX2_settle_48 rfl (lv_at hl 0 rfl) ?_
    exact W.iret hx hb hr (fun t ht _ => ⟨⟨_, (), rfl, rfl, (by show va_P D vwCl (pm_shS y q (pm_jdg S f)) t.heap; rw [ht]; exact (by first | (rw [pm_jdg_p (by assumption)]; exact hP) | (rw [pm_jdg_n (by assumption)]; exact hP)))⟩, hS.F ht⟩) hS.2.2 dX2_settle_49
  · skip
    refine lv_aload_n hx hb dX2_settle_11 rfl (lv_at hl 1 rfl) ?_
    refine lv_iload_n hx hb dX2_settle_12 rfl (lv_at hl 2 rfl) ?_
    refine va_callv (va_runV (As := [.int (nI f)]) (rest := []) ⟨hx, hb, hml, hown, hts⟩ (k_X2_noteChoice l D y q S f ho hrd (by omega)) (cwV 1 hts gX2_settle_X2_noteChoice rfl rfl rfl hd_X2_noteChoice ⟨Nat.le_of_ble_eq_true rfl, Nat.le_of_ble_eq_true rfl⟩) ⟨pm_wr_blind, va_recv hK hP (ci := 2) (q0 := 0) rfl rfl, pm_wr_pre hP hK hD⟩ rfl rfl hl.1 rfl (lv_room (Nat.le_of_ble_eq_true rfl)) dX2_settle_13 ⟨Nat.le_of_ble_eq_true rfl, Nat.le_of_ble_eq_true rfl⟩) hS (fun q _ h9 => (pm_ad_all hD) q h9) (pm_ad_all hD) (fun u14 t10 H1 locs ht11 _ h9 hB12 _ hk13 hS => ?_)
    obtain ⟨hP, hD⟩ := pm_all (D := D) (cl := vwCl) (H1 := H1) hD (w' := pm_shS y q (pm_chs S f)) (by rw [← ht11]; exact hB12) rfl
    generalize H1 = H at hP hS ⊢
    refine lv_aload_n hx hb dX2_settle_16 rfl (lv_at hl 1 rfl) ?_
    refine va_get (D := D) (ci := 2) (v := .ref (q 5)) (C := RX2) (T := TX2) (N := 15) hx hb hts hin2 hown hK hP 0 rfl rfl 4 (by decide) (hts (.fieldLink RX2 24 "ProofMarks$Sheet" "dull" "[I") (List.mem_of_getElem? (i := 1) rfl)) (fun _ h9 => h9) rfl dX2_settle_17 ?_
    refine lv_iload_n hx hb dX2_settle_20 rfl (lv_at hl 2 rfl) ?_
    refine lv_aload_n hx hb dX2_settle_21 rfl (lv_at hl 1 rfl) ?_
    refine lv_iload_n hx hb dX2_settle_22 rfl (lv_at hl 2 rfl) ?_
    refine vp_callSi (W.runV (As := [.int (nI f)]) (rest := [.int (nI f), .ref (q 5)]) ⟨hx, hb, hml, hown, hts⟩ (k_X2_dullAfterRound l D y q (pm_chs S f) f ho (by omega)) (cwV 1 hts gX2_settle_X2_dullAfterRound rfl rfl rfl hd_X2_dullAfterRound ⟨Nat.le_of_ble_eq_true rfl, Nat.le_of_ble_eq_true rfl⟩) ⟨pm_ro_blind, va_recv hK hP (ci := 2) (q0 := 0) rfl rfl, pm_ro_pre hP hK⟩ rfl rfl hl.1 rfl (lv_room (Nat.le_of_ble_eq_true rfl)) dX2_settle_23 ⟨Nat.le_of_ble_eq_true rfl, Nat.le_of_ble_eq_true rfl⟩) (fun r15 h16 => ?_)
    obtain rfl : r15 = nI (pm_dl (pm_chs S f) f) := h16
    have := pm_dl_le (pm_chs S f) f
    refine lv_topi (fun x17 e18 => ?_)
    obtain rfl : x17 = nI (pm_dl S f) := e18.trans (rfl)
    refine kx_iast (ws' := pm_sh y q (pm_vn ((pm_chs S f) 9)) (pm_vn ((pm_chs S f) 0)) (pm_vt ((pm_chs S f) 4)) (pm_vc ((pm_chs S f) 4)) (pm_vn (updN ((pm_chs S f) 1) f (pm_dl S f))) (pm_vn ((pm_chs S f) 2)) (pm_vi ((pm_chs S f) 3)) (pm_vn ((pm_chs S f) 5)) (pm_vn ((pm_chs S f) 6)) (pm_vn ((pm_chs S f) 7)) (pm_vn ((pm_chs S f) 8)) (pm_vn ((pm_chs S f) 11)) (nI ((pm_chs S f) 10 0)) (nI ((pm_chs S f) 10 1)) (nI ((pm_chs S f) 10 2))) hx hb hK hP hD hS 5 0 rfl rfl (by omega) (by decide) (pm_vn_u ((pm_chs S f) 1) f (pm_dl S f)) rfl dX2_settle_26 (fun H locs hP hD hS => ?_)
    refine lv_aload_n hx hb dX2_settle_27 rfl (lv_at hl 1 rfl) ?_
    refine va_get (D := D) (ci := 2) (v := .ref (q 2)) (C := RX2) (T := TX2) (N := 15) hx hb hts hin2 hown hK hP 0 rfl rfl 1 (by decide) (hts (.fieldLink RX2 15 "ProofMarks$Sheet" "how" "[I") (List.mem_of_getElem? (i := 2) rfl)) (fun _ h9 => h9) rfl dX2_settle_28 ?_
    refine lv_iload_n hx hb dX2_settle_31 rfl (lv_at hl 2 rfl) ?_
    refine lv_iload_n hx hb dX2_settle_32 rfl (lv_at hl 0 rfl) ?_
    refine kx_iast (ws' := pm_sh y q (pm_vn ((pm_chs S f) 9)) (pm_vn (updN ((pm_chs S f) 0) f (pm_aft S f))) (pm_vt ((pm_chs S f) 4)) (pm_vc ((pm_chs S f) 4)) (pm_vn (updN ((pm_chs S f) 1) f (pm_dl S f))) (pm_vn ((pm_chs S f) 2)) (pm_vi ((pm_chs S f) 3)) (pm_vn ((pm_chs S f) 5)) (pm_vn ((pm_chs S f) 6)) (pm_vn ((pm_chs S f) 7)) (pm_vn ((pm_chs S f) 8)) (pm_vn ((pm_chs S f) 11)) (nI ((pm_chs S f) 10 0)) (nI ((pm_chs S f) 10 1)) (nI ((pm_chs S f) 10 2))) hx hb hK hP hD hS 2 0 rfl rfl (by omega) (by decide) (pm_vn_u ((pm_chs S f) 0) f (pm_aft S f)) rfl dX2_settle_33 (fun H locs hP hD hS => ?_)
    refine lv_aload_n hx hb dX2_settle_34 rfl (lv_at hl 1 rfl) ?_
    refine va_get (D := D) (ci := 2) (v := .ref (q 3)) (C := RX2) (T := TX2) (N := 15) hx hb hts hin2 hown hK hP 0 rfl rfl 2 (by decide) (hts (.fieldLink RX2 18 "ProofMarks$Sheet" "ticks" "[I") (List.mem_of_getElem? (i := 3) rfl)) (fun _ h9 => h9) rfl dX2_settle_35 ?_
    refine lv_iload_n hx hb dX2_settle_38 rfl (lv_at hl 2 rfl) ?_
    refine lv_iconst (v := nI 0) hx hb dX2_settle_39 (by decide) ?_
    refine kx_iast (ws' := pm_sh y q (pm_vn ((pm_chs S f) 9)) (pm_vn (updN ((pm_chs S f) 0) f (pm_aft S f))) (pm_vt (updN ((pm_chs S f) 4) f 0)) (pm_vc ((pm_chs S f) 4)) (pm_vn (updN ((pm_chs S f) 1) f (pm_dl S f))) (pm_vn ((pm_chs S f) 2)) (pm_vi ((pm_chs S f) 3)) (pm_vn ((pm_chs S f) 5)) (pm_vn ((pm_chs S f) 6)) (pm_vn ((pm_chs S f) 7)) (pm_vn ((pm_chs S f) 8)) (pm_vn ((pm_chs S f) 11)) (nI ((pm_chs S f) 10 0)) (nI ((pm_chs S f) 10 1)) (nI ((pm_chs S f) 10 2))) hx hb hK hP hD hS 3 0 rfl rfl (by omega) (by decide) (pm_vt_u ((pm_chs S f) 4) f 0) rfl dX2_settle_40 (fun H locs hP hD hS => ?_)
    refine lv_aload_n hx hb dX2_settle_41 rfl (lv_at hl 1 rfl) ?_
    refine va_get (D := D) (ci := 2) (v := .ref (q 4)) (C := RX2) (T := TX2) (N := 15) hx hb hts hin2 hown hK hP 0 rfl rfl 3 (by decide) (hts (.fieldLink RX2 21 "ProofMarks$Sheet" "crosses" "[I") (List.mem_of_getElem? (i := 4) rfl)) (fun _ h9 => h9) rfl dX2_settle_42 ?_
    refine lv_iload_n hx hb dX2_settle_45 rfl (lv_at hl 2 rfl) ?_
    refine lv_iconst (v := nI 0) hx hb dX2_settle_46 (by decide) ?_
    refine kx_iast (ws' := pm_sh y q (pm_vn ((pm_chs S f) 9)) (pm_vn (updN ((pm_chs S f) 0) f (pm_aft S f))) (pm_vt (updN ((pm_chs S f) 4) f 0)) (pm_vc (updN ((pm_chs S f) 4) f 0)) (pm_vn (updN ((pm_chs S f) 1) f (pm_dl S f))) (pm_vn ((pm_chs S f) 2)) (pm_vi ((pm_chs S f) 3)) (pm_vn ((pm_chs S f) 5)) (pm_vn ((pm_chs S f) 6)) (pm_vn ((pm_chs S f) 7)) (pm_vn ((pm_chs S f) 8)) (pm_vn ((pm_chs S f) 11)) (nI ((pm_chs S f) 10 0)) (nI ((pm_chs S f) 10 1)) (nI ((pm_chs S f) 10 2))) hx hb hK hP hD hS 4 0 rfl rfl (by omega) (by decide) (pm_vc_u ((pm_chs S f) 4) f 0) rfl dX2_settle_47 (fun H locs hP hD hS => ?_)
    refine lv_iload_n hx hb dX2_settle_48 rfl (lv_at hl 0 rfl) ?_
    exact W.iret hx hb hr (fun t ht _ => ⟨⟨_, (), rfl, rfl, (by show va_P D vwCl (pm_shS y q (pm_jdg S f)) t.heap; rw [ht]; exact (by first | (rw [pm_jdg_p (by assumption)]; exact hP) | (rw [pm_jdg_n (by assumption)]; exact hP)))⟩, hS.F ht⟩) hS.2.2 dX2_settle_49

set_option maxHeartbeats 4000000 in
set_option maxRecDepth 100000 in
theorem k_X2_endRound (l : Launch) (D : va_G) (y : Nat → ClassId) (q : Nat → Nat) (S : Nat → Nat → Nat) (hI : pm_Inv S) : Met l yX2_endRound wsX2_endRound ({ frames := 4, cells := 0, slots := 0, locals := 86 } : Room) (pm_wr D (pm_ty y) [.ref (q 0)] (pm_shS y q S)) (pm_Qi D (fun (r : Int32) (_ : Unit) => r = (pm_aRound S).1) (fun (_ : Unit) => pm_shS y q (pm_aRound S).2) (pm_shS y q S)) 0 0 (pm_ad (pm_shS y q S)) := by
  refine Met.ofW (cc := cX2_endRound) (maxL := 3) (ret := (some .int)) (by decide) rfl ?_
  intro p e s m args below meth c s₁ B hml hpre
  obtain ⟨rfl, hP, hK, hD0⟩ := hpre
  have hx := B.exec
  have hb := B.bytes
  have hr := B.returns
  have hts := atoms_spec (ws := wsX2_endRound) B.pre
  have hown : s.vm.findClass RX2 = some m.cls := findClass_of_methodNamed B.named
  have hlocks := B.notSynchronized
  have hin2 : ∀ w ∈ u_ws RX2 TX2 15, w ∈ wsX2_endRound := fun w h => List.mem_cons_of_mem _ (List.mem_append_right _ h)
  have hD := pm_ad_self hD0
  have hS : va_S (pm_ad (pm_shS y q S)) s.heap s.heap [] := va_S.rf
  have hP : va_P D vwCl (pm_shS y q S) s.heap := hP
  have hl := lv_entry ([.ref (q 0)]) (n := 3) (Nat.le_of_ble_eq_true rfl)
  rw [lg_entry_eq]
  generalize (lg_sl ([.ref (q 0)]) ++ List.replicate (3 - (lg_sl ([.ref (q 0)])).length) Slot.unset).toArray = ls at hl ⊢
  have hl : lv_has ls 3 [(0, .ref (q 0))] := hl
  refine lv_aload_n hx hb dX2_endRound_0 rfl (lv_at hl 0 rfl) ?_
  refine va_get (D := D) (ci := 2) (v := .int (nI (S 10 0))) (C := RX2) (T := TX2) (N := 15) hx hb hts hin2 hown hK hP 0 rfl rfl 12 (by decide) (hts (.fieldLink RX2 48 "ProofMarks$Sheet" "rounds" "I") (List.mem_of_getElem? (i := 1) rfl)) (fun _ h9 => h9) rfl dX2_endRound_1 ?_
  have := hI.rnd
  refine lv_bipush (v := nI 99) hx hb dX2_endRound_4 (by decide) ?_
  refine kx_icmp_lt (tgt := 12) hx hb (by omega) (by decide) dX2_endRound_6 (by decide) (fun c1 => ?_) (fun c1 => ?_)
  · skip
    refine lv_iconst (v := nI 0) hx hb dX2_endRound_12 (by decide) ?_
    refine lv_istore_n (lv' := [(1, .int (nI 0)), (0, .ref (q 0))]) hx hb dX2_endRound_13 rfl hl (by decide) rfl (fun ls hl => ?_)
    refine lv_iconst (v := nI 0) hx hb dX2_endRound_14 (by decide) ?_
    refine lv_istore_n (lv' := [(2, .int (nI 0)), (1, .int (nI 0)), (0, .ref (q 0))]) hx hb dX2_endRound_15 rfl hl (by decide) rfl (fun ls hl => ?_)
    have LOOP16 : ∀ (n i : Nat) (ls : Array Slot) (H : Heap) (locs : List Loc), va_P D vwCl (pm_shS y q (pm_rds S i)) H → va_D (pm_ad (pm_shS y q S)) (pm_shS y q (pm_rds S i)) → va_S (pm_ad (pm_shS y q S)) s.heap H locs → i ≤ 30 → 30 - i < n → lv_has ls 3 [(0, .ref (q 0)), (1, .int (nI (pm_rct S i))), (2, .int (nI i))] → W p l e (headSpec wsX2_endRound ({ frames := 4, cells := 0, slots := 0, locals := 86 } : Room)).room s m ([.ref (q 0)] : List Value).toArray below meth c H locs 0 0 (MQ below (pm_Qi D (fun (r : Int32) (_ : Unit) => r = (pm_aRound S).1) (fun (_ : Unit) => pm_shS y q (pm_aRound S).2) (pm_shS y q S)) ([.ref (q 0)] : List Value).toArray s 0 0 (pm_ad (pm_shS y q S))) (F0 m 16 ls []) := by
      intro n
      induction n with
      | zero => intro i _ _ _ _ _ _ hi hn; omega
      | succ n ih2 =>
        intro i ls H locs hP hD hS hi_i hn_i hl 
        refine lv_iload_n hx hb dX2_endRound_16 rfl (lv_at hl 2 rfl) ?_
        refine lv_bipush (v := nI 30) hx hb dX2_endRound_17 (by decide) ?_
        refine kx_icmp_ge (tgt := 49) hx hb (by omega) (by decide) dX2_endRound_19 (by decide) (fun c3 => ?_) (fun c3 => ?_)
        · skip
          obtain rfl : i = 30 := by omega
          have hP : va_P D vwCl (pm_shS y q (pm_mid2 S 0)) H := by rw [pm_mid2_z S]; exact hP
          have hD : va_D (pm_ad (pm_shS y q S)) (pm_shS y q (pm_mid2 S 0)) := by rw [pm_mid2_z S]; exact hD
          refine lv_iconst (v := nI 0) hx hb dX2_endRound_49 (by decide) ?_
          refine lv_istore_n (lv' := [(2, .int (nI 0)), (0, .ref (q 0)), (1, .int (nI (pm_rct S 30)))]) hx hb dX2_endRound_50 rfl hl (by decide) rfl (fun ls hl => ?_)
          refine lv_iload_n hx hb dX2_endRound_51 rfl (lv_at hl 0 rfl) ?_
          refine lv_iconst (v := nI 3) hx hb dX2_endRound_52 (by decide) ?_
          refine lv_icmp_ge (tgt := 81) hx hb dX2_endRound_53 (by decide) (fun c4 => absurd c4 (by decide)) (fun _ => ?_)
          refine lv_aload_n hx hb dX2_endRound_56 rfl (lv_at hl 1 rfl) ?_
          refine va_get (D := D) (ci := 2) (v := .ref (q 8)) (C := RX2) (T := TX2) (N := 15) hx hb hts hin2 hown hK hP 0 rfl rfl 7 (by decide) (hts (.fieldLink RX2 33 "ProofMarks$Sheet" "points" "[I") (List.mem_of_getElem? (i := 3) rfl)) (fun _ h9 => h9) rfl dX2_endRound_57 ?_
          refine lv_iload_n hx hb dX2_endRound_60 rfl (lv_at hl 0 rfl) ?_
          refine lv_aload_n hx hb dX2_endRound_61 rfl (lv_at hl 1 rfl) ?_
          refine va_get (D := D) (ci := 2) (v := .ref (q 8)) (C := RX2) (T := TX2) (N := 15) hx hb hts hin2 hown hK hP 0 rfl rfl 7 (by decide) (hts (.fieldLink RX2 33 "ProofMarks$Sheet" "points" "[I") (List.mem_of_getElem? (i := 3) rfl)) (fun _ h9 => h9) rfl dX2_endRound_62 ?_
          refine lv_iload_n hx hb dX2_endRound_65 rfl (lv_at hl 0 rfl) ?_
          refine kx_iald (v := nI (((pm_mid2 S 0) 5) 0)) hx hb hK hP 8 0 rfl rfl (by omega) (by decide) rfl dX2_endRound_66 ?_
          refine lv_topi (fun x5 e6 => ?_)
          obtain rfl : x5 = nI (S 5 0) := e6.trans (congrArg nI (pm_pts_o (S 5) 0 0 (Nat.le_refl 0)))
          have := hI.pts 0 (by decide)
          refine lv_iconst (v := nI 2) hx hb dX2_endRound_67 (by decide) ?_
          refine kx_iadd hx hb dX2_endRound_68 ?_
          refine lv_bipush (v := nI 20) hx hb dX2_endRound_69 (by decide) ?_
          refine va_mmin hx hb (by rw [hml]; exact hl.1.symm) hown (hts (.methodLink RX2 92 Lib.Math.min.name) (List.mem_of_getElem? (i := 4) rfl)) (hts (.static Lib.Math.min.name) (List.mem_of_getElem? (i := 5) rfl)) (hts (.initialized "java/lang/Math") (List.mem_of_getElem? (i := 6) rfl)) (hts (.code Lib.Math.min.name Lib.Math.min.code 2 (some .int)) (List.mem_of_getElem? (i := 7) rfl)) (Nat.le_of_ble_eq_true rfl) (Nat.le_of_ble_eq_true rfl) (Nat.le_of_ble_eq_true rfl) (Nat.le_of_ble_eq_true rfl) dX2_endRound_71 ?_
          refine lv_topi (fun x7 e8 => ?_)
          obtain rfl : x7 = nI (if 20 < S 5 0 + 2 then 20 else S 5 0 + 2) := e8.trans (pm_min (by omega) (by decide))
          refine kx_iast (ws' := pm_sh y q (pm_vn ((pm_mid2 S 0) 9)) (pm_vn ((pm_mid2 S 0) 0)) (pm_vt ((pm_mid2 S 0) 4)) (pm_vc ((pm_mid2 S 0) 4)) (pm_vn ((pm_mid2 S 0) 1)) (pm_vn ((pm_mid2 S 0) 2)) (pm_vi ((pm_mid2 S 0) 3)) (pm_vn (updN ((pm_mid2 S 0) 5) 0 (if 20 < S 5 0 + 2 then 20 else S 5 0 + 2))) (pm_vn ((pm_mid2 S 0) 6)) (pm_vn ((pm_mid2 S 0) 7)) (pm_vn ((pm_mid2 S 0) 8)) (pm_vn ((pm_mid2 S 0) 11)) (nI ((pm_mid2 S 0) 10 0)) (nI ((pm_mid2 S 0) 10 1)) (nI ((pm_mid2 S 0) 10 2))) hx hb hK hP hD hS 8 0 rfl rfl (by omega) (by decide) (pm_vn_u ((pm_mid2 S 0) 5) 0 (if 20 < S 5 0 + 2 then 20 else S 5 0 + 2)) rfl dX2_endRound_74 (fun H locs hP hD hS => ?_)
          have hP : va_P D vwCl (pm_shS y q (pm_mid2 S 1)) H := by rw [pm_mid2_s S 0]; exact hP
          have hD : va_D (pm_ad (pm_shS y q S)) (pm_shS y q (pm_mid2 S 1)) := by rw [pm_mid2_s S 0]; exact hD
          refine lv_iinc (v := nI 1) (lv' := [(2, .int (nI 1)), (0, .ref (q 0)), (1, .int (nI (pm_rct S 30)))]) hx hb dX2_endRound_75 hl (k := 0) rfl (by decide) (by decide) rfl (fun ls hl => ?_)
          refine lv_goto (tgt := 51) hx hb dX2_endRound_78 (by decide) ?_
          refine lv_iload_n hx hb dX2_endRound_51 rfl (lv_at hl 0 rfl) ?_
          refine lv_iconst (v := nI 3) hx hb dX2_endRound_52 (by decide) ?_
          refine lv_icmp_ge (tgt := 81) hx hb dX2_endRound_53 (by decide) (fun c9 => absurd c9 (by decide)) (fun _ => ?_)
          refine lv_aload_n hx hb dX2_endRound_56 rfl (lv_at hl 1 rfl) ?_
          refine va_get (D := D) (ci := 2) (v := .ref (q 8)) (C := RX2) (T := TX2) (N := 15) hx hb hts hin2 hown hK hP 0 rfl rfl 7 (by decide) (hts (.fieldLink RX2 33 "ProofMarks$Sheet" "points" "[I") (List.mem_of_getElem? (i := 3) rfl)) (fun _ h9 => h9) rfl dX2_endRound_57 ?_
          refine lv_iload_n hx hb dX2_endRound_60 rfl (lv_at hl 0 rfl) ?_
          refine lv_aload_n hx hb dX2_endRound_61 rfl (lv_at hl 1 rfl) ?_
          refine va_get (D := D) (ci := 2) (v := .ref (q 8)) (C := RX2) (T := TX2) (N := 15) hx hb hts hin2 hown hK hP 0 rfl rfl 7 (by decide) (hts (.fieldLink RX2 33 "ProofMarks$Sheet" "points" "[I") (List.mem_of_getElem? (i := 3) rfl)) (fun _ h9 => h9) rfl dX2_endRound_62 ?_
          refine lv_iload_n hx hb dX2_endRound_65 rfl (lv_at hl 0 rfl) ?_
          refine kx_iald (v := nI (((pm_mid2 S 1) 5) 1)) hx hb hK hP 8 0 rfl rfl (by omega) (by decide) rfl dX2_endRound_66 ?_
          refine lv_topi (fun x10 e11 => ?_)
          obtain rfl : x10 = nI (S 5 1) := e11.trans (congrArg nI (pm_pts_o (S 5) 1 1 (Nat.le_refl 1)))
          have := hI.pts 1 (by decide)
          refine lv_iconst (v := nI 2) hx hb dX2_endRound_67 (by decide) ?_
          refine kx_iadd hx hb dX2_endRound_68 ?_
          refine lv_bipush (v := nI 20) hx hb dX2_endRound_69 (by decide) ?_
          refine va_mmin hx hb (by rw [hml]; exact hl.1.symm) hown (hts (.methodLink RX2 92 Lib.Math.min.name) (List.mem_of_getElem? (i := 4) rfl)) (hts (.static Lib.Math.min.name) (List.mem_of_getElem? (i := 5) rfl)) (hts (.initialized "java/lang/Math") (List.mem_of_getElem? (i := 6) rfl)) (hts (.code Lib.Math.min.name Lib.Math.min.code 2 (some .int)) (List.mem_of_getElem? (i := 7) rfl)) (Nat.le_of_ble_eq_true rfl) (Nat.le_of_ble_eq_true rfl) (Nat.le_of_ble_eq_true rfl) (Nat.le_of_ble_eq_true rfl) dX2_endRound_71 ?_
          refine lv_topi (fun x12 e13 => ?_)
          obtain rfl : x12 = nI (if 20 < S 5 1 + 2 then 20 else S 5 1 + 2) := e13.trans (pm_min (by omega) (by decide))
          refine kx_iast (ws' := pm_sh y q (pm_vn ((pm_mid2 S 1) 9)) (pm_vn ((pm_mid2 S 1) 0)) (pm_vt ((pm_mid2 S 1) 4)) (pm_vc ((pm_mid2 S 1) 4)) (pm_vn ((pm_mid2 S 1) 1)) (pm_vn ((pm_mid2 S 1) 2)) (pm_vi ((pm_mid2 S 1) 3)) (pm_vn (updN ((pm_mid2 S 1) 5) 1 (if 20 < S 5 1 + 2 then 20 else S 5 1 + 2))) (pm_vn ((pm_mid2 S 1) 6)) (pm_vn ((pm_mid2 S 1) 7)) (pm_vn ((pm_mid2 S 1) 8)) (pm_vn ((pm_mid2 S 1) 11)) (nI ((pm_mid2 S 1) 10 0)) (nI ((pm_mid2 S 1) 10 1)) (nI ((pm_mid2 S 1) 10 2))) hx hb hK hP hD hS 8 0 rfl rfl (by omega) (by decide) (pm_vn_u ((pm_mid2 S 1) 5) 1 (if 20 < S 5 1 + 2 then 20 else S 5 1 + 2)) rfl dX2_endRound_74 (fun H locs hP hD hS => ?_)
          have hP : va_P D vwCl (pm_shS y q (pm_mid2 S 2)) H := by rw [pm_mid2_s S 1]; exact hP
          have hD : va_D (pm_ad (pm_shS y q S)) (pm_shS y q (pm_mid2 S 2)) := by rw [pm_mid2_s S 1]; exact hD
          refine lv_iinc (v := nI 2) (lv' := [(2, .int (nI 2)), (0, .ref (q 0)), (1, .int (nI (pm_rct S 30)))]) hx hb dX2_endRound_75 hl (k := 0) rfl (by decide) (by decide) rfl (fun ls hl => ?_)
          refine lv_goto (tgt := 51) hx hb dX2_endRound_78 (by decide) ?_
          refine lv_iload_n hx hb dX2_endRound_51 rfl (lv_at hl 0 rfl) ?_
          refine lv_iconst (v := nI 3) hx hb dX2_endRound_52 (by decide) ?_
          refine lv_icmp_ge (tgt := 81) hx hb dX2_endRound_53 (by decide) (fun c14 => absurd c14 (by decide)) (fun _ => ?_)
          refine lv_aload_n hx hb dX2_endRound_56 rfl (lv_at hl 1 rfl) ?_
          refine va_get (D := D) (ci := 2) (v := .ref (q 8)) (C := RX2) (T := TX2) (N := 15) hx hb hts hin2 hown hK hP 0 rfl rfl 7 (by decide) (hts (.fieldLink RX2 33 "ProofMarks$Sheet" "points" "[I") (List.mem_of_getElem? (i := 3) rfl)) (fun _ h9 => h9) rfl dX2_endRound_57 ?_
          refine lv_iload_n hx hb dX2_endRound_60 rfl (lv_at hl 0 rfl) ?_
          refine lv_aload_n hx hb dX2_endRound_61 rfl (lv_at hl 1 rfl) ?_
          refine va_get (D := D) (ci := 2) (v := .ref (q 8)) (C := RX2) (T := TX2) (N := 15) hx hb hts hin2 hown hK hP 0 rfl rfl 7 (by decide) (hts (.fieldLink RX2 33 "ProofMarks$Sheet" "points" "[I") (List.mem_of_getElem? (i := 3) rfl)) (fun _ h9 => h9) rfl dX2_endRound_62 ?_
          refine lv_iload_n hx hb dX2_endRound_65 rfl (lv_at hl 0 rfl) ?_
          refine kx_iald (v := nI (((pm_mid2 S 2) 5) 2)) hx hb hK hP 8 0 rfl rfl (by omega) (by decide) rfl dX2_endRound_66 ?_
          refine lv_topi (fun x15 e16 => ?_)
          obtain rfl : x15 = nI (S 5 2) := e16.trans (congrArg nI (pm_pts_o (S 5) 2 2 (Nat.le_refl 2)))
          have := hI.pts 2 (by decide)
          refine lv_iconst (v := nI 2) hx hb dX2_endRound_67 (by decide) ?_
          refine kx_iadd hx hb dX2_endRound_68 ?_
          refine lv_bipush (v := nI 20) hx hb dX2_endRound_69 (by decide) ?_
          refine va_mmin hx hb (by rw [hml]; exact hl.1.symm) hown (hts (.methodLink RX2 92 Lib.Math.min.name) (List.mem_of_getElem? (i := 4) rfl)) (hts (.static Lib.Math.min.name) (List.mem_of_getElem? (i := 5) rfl)) (hts (.initialized "java/lang/Math") (List.mem_of_getElem? (i := 6) rfl)) (hts (.code Lib.Math.min.name Lib.Math.min.code 2 (some .int)) (List.mem_of_getElem? (i := 7) rfl)) (Nat.le_of_ble_eq_true rfl) (Nat.le_of_ble_eq_true rfl) (Nat.le_of_ble_eq_true rfl) (Nat.le_of_ble_eq_true rfl) dX2_endRound_71 ?_
          refine lv_topi (fun x17 e18 => ?_)
          obtain rfl : x17 = nI (if 20 < S 5 2 + 2 then 20 else S 5 2 + 2) := e18.trans (pm_min (by omega) (by decide))
          refine kx_iast (ws' := pm_sh y q (pm_vn ((pm_mid2 S 2) 9)) (pm_vn ((pm_mid2 S 2) 0)) (pm_vt ((pm_mid2 S 2) 4)) (pm_vc ((pm_mid2 S 2) 4)) (pm_vn ((pm_mid2 S 2) 1)) (pm_vn ((pm_mid2 S 2) 2)) (pm_vi ((pm_mid2 S 2) 3)) (pm_vn (updN ((pm_mid2 S 2) 5) 2 (if 20 < S 5 2 + 2 then 20 else S 5 2 + 2))) (pm_vn ((pm_mid2 S 2) 6)) (pm_vn ((pm_mid2 S 2) 7)) (pm_vn ((pm_mid2 S 2) 8)) (pm_vn ((pm_mid2 S 2) 11)) (nI ((pm_mid2 S 2) 10 0)) (nI ((pm_mid2 S 2) 10 1)) (nI ((pm_mid2 S 2) 10 2))) hx hb hK hP hD hS 8 0 rfl rfl (by omega) (by decide) (pm_vn_u ((pm_mid2 S 2) 5) 2 (if 20 < S 5 2 + 2 then 20 else S 5 2 + 2)) rfl dX2_endRound_74 (fun H locs hP hD hS => ?_)
          have hP : va_P D vwCl (pm_shS y q (pm_mid2 S 3)) H := by rw [pm_mid2_s S 2]; exact hP
          have hD : va_D (pm_ad (pm_shS y q S)) (pm_shS y q (pm_mid2 S 3)) := by rw [pm_mid2_s S 2]; exact hD
          refine lv_iinc (v := nI 3) (lv' := [(2, .int (nI 3)), (0, .ref (q 0)), (1, .int (nI (pm_rct S 30)))]) hx hb dX2_endRound_75 hl (k := 0) rfl (by decide) (by decide) rfl (fun ls hl => ?_)
          refine lv_goto (tgt := 51) hx hb dX2_endRound_78 (by decide) ?_
          refine lv_iload_n hx hb dX2_endRound_51 rfl (lv_at hl 0 rfl) ?_
          refine lv_iconst (v := nI 3) hx hb dX2_endRound_52 (by decide) ?_
          refine lv_icmp_ge (tgt := 81) hx hb dX2_endRound_53 (by decide) (fun _ => ?_) (fun c19 => (c19 (by decide)).elim)
          refine lv_aload_n hx hb dX2_endRound_81 rfl (lv_at hl 1 rfl) ?_
          refine lv_dup hx hb dX2_endRound_82 rfl ?_
          refine va_get (D := D) (ci := 2) (v := .int (nI ((pm_mid2 S 3) 10 0))) (C := RX2) (T := TX2) (N := 15) hx hb hts hin2 hown hK hP 0 rfl rfl 12 (by decide) (hts (.fieldLink RX2 48 "ProofMarks$Sheet" "rounds" "I") (List.mem_of_getElem? (i := 1) rfl)) (fun _ h9 => h9) rfl dX2_endRound_83 ?_
          refine lv_topi (fun x20 e21 => ?_)
          obtain rfl : x20 = nI (S 10 0) := e21.trans (congrArg nI (pm_rds_9 S (by decide) 0 30))
          refine lv_iconst (v := nI 1) hx hb dX2_endRound_86 (by decide) ?_
          refine kx_iadd hx hb dX2_endRound_87 ?_
          refine kx_put (D := D) (ci := 2) (v := .int (nI ((S 10 0) + 1))) (ty := .int) (ws' := pm_sh y q (pm_vn ((pm_mid2 S 3) 9)) (pm_vn ((pm_mid2 S 3) 0)) (pm_vt ((pm_mid2 S 3) 4)) (pm_vc ((pm_mid2 S 3) 4)) (pm_vn ((pm_mid2 S 3) 1)) (pm_vn ((pm_mid2 S 3) 2)) (pm_vi ((pm_mid2 S 3) 3)) (pm_vn ((pm_mid2 S 3) 5)) (pm_vn ((pm_mid2 S 3) 6)) (pm_vn ((pm_mid2 S 3) 7)) (pm_vn ((pm_mid2 S 3) 8)) (pm_vn ((pm_mid2 S 3) 11)) (nI ((S 10 0) + 1)) (nI ((pm_mid2 S 3) 10 1)) (nI ((pm_mid2 S 3) 10 2))) (C := RX2) (T := TX2) (N := 15) hx hb hts hin2 tyX2 tyX2_ok nmX2 hown hK hP hD hS 0 rfl rfl 12 (by decide) (hts (.fieldLink RX2 48 "ProofMarks$Sheet" "rounds" "I") (List.mem_of_getElem? (i := 1) rfl)) (fun _ h9 => h9) rfl (by decide +kernel) rfl rfl (Nat.le_of_ble_eq_true rfl) rfl dX2_endRound_88 (fun H locs hP hD hS => ?_)
          refine lv_iload_n hx hb dX2_endRound_91 rfl (lv_at hl 2 rfl) ?_
          have E : pm_aRound S = (nI (pm_rct S 30), pm_st (pm_mid2 S 3) 10 0 (S 10 0 + 1)) := by rw [pm_aRound, if_neg (by omega)]; rfl
          exact W.iret hx hb hr (fun t ht _ => ⟨⟨_, (), rfl, (by rw [E]), (by show va_P D vwCl (pm_shS y q (pm_aRound S).2) t.heap; rw [ht]; exact (by rw [E]; exact hP))⟩, hS.F ht⟩) hS.2.2 dX2_endRound_92
        · skip
          refine lv_aload_n hx hb dX2_endRound_22 rfl (lv_at hl 0 rfl) ?_
          refine va_get (D := D) (ci := 2) (v := .ref (q 2)) (C := RX2) (T := TX2) (N := 15) hx hb hts hin2 hown hK hP 0 rfl rfl 1 (by decide) (hts (.fieldLink RX2 15 "ProofMarks$Sheet" "how" "[I") (List.mem_of_getElem? (i := 2) rfl)) (fun _ h9 => h9) rfl dX2_endRound_23 ?_
          refine lv_iload_n hx hb dX2_endRound_26 rfl (lv_at hl 2 rfl) ?_
          refine kx_iald (v := nI (((pm_rds S i) 0) i)) hx hb hK hP 2 0 rfl rfl (by omega) (by decide) rfl dX2_endRound_27 ?_
          refine lv_topi (fun x22 e23 => ?_)
          obtain rfl : x22 = nI (S 0 i) := e23.trans (congrArg nI (pm_rds_o S (by decide) i i (Nat.le_refl i)))
          have := hI.how i (by omega)
          refine kx_if_ne (tgt := 43) hx hb (by omega) dX2_endRound_28 (by decide) (fun c24 => ?_) (fun c24 => ?_)
          · skip
            have hP : va_P D vwCl (pm_shS y q (pm_rds S (i + 1))) H := by rw [show pm_rds S (i + 1) = _ from by first | exact pm_rds_p (by assumption) | exact pm_rds_n (by assumption)]; exact hP
            have hD : va_D (pm_ad (pm_shS y q S)) (pm_shS y q (pm_rds S (i + 1))) := by rw [show pm_rds S (i + 1) = _ from by first | exact pm_rds_p (by assumption) | exact pm_rds_n (by assumption)]; exact hD
            refine kx_iinc (a := i) (lv' := [(2, .int (nI (i + 1))), (0, .ref (q 0)), (1, .int (nI (pm_rct S i)))]) hx hb dX2_endRound_43 hl (k := 2) rfl (by decide) rfl (fun ls hl => ?_)
            refine lv_goto (tgt := 16) hx hb dX2_endRound_46 (by decide) ?_
            have q25 : (nI (pm_rct S (i + 1)) : Int32) = nI (pm_rct S i) := (congrArg nI (by first | exact pm_rct_p (by assumption) (by assumption) | exact pm_rct_n (fun z => absurd z.1 (by assumption)) | exact pm_rct_n (fun z => absurd z.2 (by assumption))))
            exact ih2 (i + 1) ls H locs hP hD hS (by omega) (by omega) (by rw [q25]; exact lv_sub hl [1, 2, 0] rfl) 
          · skip
            refine lv_aload_n hx hb dX2_endRound_31 rfl (lv_at hl 0 rfl) ?_
            refine lv_iload_n hx hb dX2_endRound_32 rfl (lv_at hl 2 rfl) ?_
            refine va_calli (va_runV (As := [.int (nI i)]) (rest := []) ⟨hx, hb, hml, hown, hts⟩ (k_X2_settle l D y q (pm_rds S i) i (by rw [pm_rds_o S (by decide) i i (Nat.le_refl i)]; exact hI.okm i (by omega)) (by rw [pm_rds_9 S (by decide)]; exact hI.set9 0 (by decide)) (by rw [pm_rds_9 S (by decide)]; exact hI.set9 3 (by decide)) (by rw [pm_rds_o S (by decide) i i (Nat.le_refl i)]; exact Nat.le_trans (hI.dull i (by omega)) hI.rnd) (by rw [pm_rds_9 S (by decide)]; exact hI.rnd) (by omega)) (cwV 1 hts gX2_endRound_X2_settle rfl rfl rfl hd_X2_settle ⟨Nat.le_of_ble_eq_true rfl, Nat.le_of_ble_eq_true rfl⟩) ⟨pm_wr_blind, va_recv hK hP (ci := 2) (q0 := 0) rfl rfl, pm_wr_pre hP hK hD⟩ rfl rfl hl.1 rfl (lv_room (Nat.le_of_ble_eq_true rfl)) dX2_endRound_33 ⟨Nat.le_of_ble_eq_true rfl, Nat.le_of_ble_eq_true rfl⟩) hS (fun q _ h9 => (pm_ad_all hD) q h9) (pm_ad_all hD) (fun r26 u32 t28 H1 locs ht29 _ h27 hB30 _ hk31 hS => ?_)
            obtain ⟨hP, hD⟩ := pm_all (D := D) (cl := vwCl) (H1 := H1) hD (w' := pm_shS y q (pm_jdg (pm_rds S i) i)) (by rw [← ht29]; exact hB30) rfl
            generalize H1 = H at hP hS ⊢
            obtain rfl : r26 = nI (pm_aft (pm_rds S i) i) := h27
            refine lv_topi (fun x33 e34 => ?_)
            obtain rfl : x33 = nI (pm_aft S i) := e34.trans (congrArg nI (pm_aft_r S i))
            have := pm_aft3 S i
            refine lv_iconst (v := nI 1) hx hb dX2_endRound_36 (by decide) ?_
            refine kx_icmp_ne (tgt := 43) hx hb (by omega) (by decide) dX2_endRound_37 (by decide) (fun c35 => ?_) (fun c35 => ?_)
            · skip
              have hP : va_P D vwCl (pm_shS y q (pm_rds S (i + 1))) H := by rw [show pm_rds S (i + 1) = _ from by first | exact pm_rds_p (by assumption) | exact pm_rds_n (by assumption)]; exact hP
              have hD : va_D (pm_ad (pm_shS y q S)) (pm_shS y q (pm_rds S (i + 1))) := by rw [show pm_rds S (i + 1) = _ from by first | exact pm_rds_p (by assumption) | exact pm_rds_n (by assumption)]; exact hD
              refine kx_iinc (a := i) (lv' := [(2, .int (nI (i + 1))), (0, .ref (q 0)), (1, .int (nI (pm_rct S i)))]) hx hb dX2_endRound_43 hl (k := 2) rfl (by decide) rfl (fun ls hl => ?_)
              refine lv_goto (tgt := 16) hx hb dX2_endRound_46 (by decide) ?_
              have q36 : (nI (pm_rct S (i + 1)) : Int32) = nI (pm_rct S i) := (congrArg nI (by first | exact pm_rct_p (by assumption) (by assumption) | exact pm_rct_n (fun z => absurd z.1 (by assumption)) | exact pm_rct_n (fun z => absurd z.2 (by assumption))))
              exact ih2 (i + 1) ls H locs hP hD hS (by omega) (by omega) (by rw [q36]; exact lv_sub hl [1, 2, 0] rfl) 
            · skip
              refine kx_iinc (a := (pm_rct S i)) (lv' := [(1, .int (nI (pm_rct S i + 1))), (0, .ref (q 0)), (2, .int (nI i))]) hx hb dX2_endRound_40 hl (k := 1) rfl (by decide) rfl (fun ls hl => ?_)
              have hP : va_P D vwCl (pm_shS y q (pm_rds S (i + 1))) H := by rw [show pm_rds S (i + 1) = _ from by first | exact pm_rds_p (by assumption) | exact pm_rds_n (by assumption)]; exact hP
              have hD : va_D (pm_ad (pm_shS y q S)) (pm_shS y q (pm_rds S (i + 1))) := by rw [show pm_rds S (i + 1) = _ from by first | exact pm_rds_p (by assumption) | exact pm_rds_n (by assumption)]; exact hD
              refine kx_iinc (a := i) (lv' := [(2, .int (nI (i + 1))), (1, .int (nI (pm_rct S i + 1))), (0, .ref (q 0))]) hx hb dX2_endRound_43 hl (k := 2) rfl (by decide) rfl (fun ls hl => ?_)
              refine lv_goto (tgt := 16) hx hb dX2_endRound_46 (by decide) ?_
              have q37 : (nI (pm_rct S (i + 1)) : Int32) = nI (pm_rct S i + 1) := (congrArg nI (by first | exact pm_rct_p (by assumption) (by assumption) | exact pm_rct_n (fun z => absurd z.1 (by assumption)) | exact pm_rct_n (fun z => absurd z.2 (by assumption))))
              exact ih2 (i + 1) ls H locs hP hD hS (by omega) (by omega) (by rw [q37]; exact lv_sub hl [2, 1, 0] rfl) 
    exact LOOP16 (30 + 1) 0 ls _ _ hP hD hS (by omega) (by omega) (lv_sub hl [2, 1, 0] rfl) 
  · skip
    refine lv_bipush (v := (-5)) hx hb dX2_endRound_9 (by decide) ?_
    have E : pm_aRound S = (-5, S) := by rw [pm_aRound, if_pos (by omega)]
    exact W.iret hx hb hr (fun t ht _ => ⟨⟨_, (), rfl, (by rw [E]), (by show va_P D vwCl (pm_shS y q (pm_aRound S).2) t.heap; rw [ht]; exact (by rw [E]; exact hP))⟩, hS.F ht⟩) hS.2.2 dX2_endRound_11

set_option maxHeartbeats 4000000 in
set_option maxRecDepth 100000 in
theorem k_X2_putMark (l : Launch) (D : va_G) (y : Nat → ClassId) (q : Nat → Nat) (S : Nat → Nat → Nat) (xe xf xm : Int32) (hI : pm_Inv S) : Met l yX2_putMark wsX2_putMark ({ frames := 3, cells := 0, slots := 0, locals := 68 } : Room) (pm_wr D (pm_ty y) [.ref (q 0), .int xe, .int xf, .int xm] (pm_shS y q S)) (pm_Qi D (fun (r : Int32) (_ : Unit) => r = (pm_aMark S xe xf xm).1) (fun (_ : Unit) => pm_shS y q (pm_aMark S xe xf xm).2) (pm_shS y q S)) 0 0 (pm_ad (pm_shS y q S)) := by
  refine Met.ofW (cc := cX2_putMark) (maxL := 5) (ret := (some .int)) (by decide) rfl ?_
  intro p e s m args below meth c s₁ B hml hpre
  obtain ⟨rfl, hP, hK, hD0⟩ := hpre
  have hx := B.exec
  have hb := B.bytes
  have hr := B.returns
  have hts := atoms_spec (ws := wsX2_putMark) B.pre
  have hown : s.vm.findClass RX2 = some m.cls := findClass_of_methodNamed B.named
  have hlocks := B.notSynchronized
  have hin2 : ∀ w ∈ u_ws RX2 TX2 15, w ∈ wsX2_putMark := fun w h => List.mem_cons_of_mem _ (List.mem_append_right _ h)
  have hD := pm_ad_self hD0
  have hS : va_S (pm_ad (pm_shS y q S)) s.heap s.heap [] := va_S.rf
  have hP : va_P D vwCl (pm_shS y q S) s.heap := hP
  have hl := lv_entry ([.ref (q 0), .int xe, .int xf, .int xm]) (n := 5) (Nat.le_of_ble_eq_true rfl)
  rw [lg_entry_eq]
  generalize (lg_sl ([.ref (q 0), .int xe, .int xf, .int xm]) ++ List.replicate (5 - (lg_sl ([.ref (q 0), .int xe, .int xf, .int xm])).length) Slot.unset).toArray = ls at hl ⊢
  have hl : lv_has ls 5 [(0, .ref (q 0)), (1, .int xe), (2, .int xf), (3, .int xm)] := hl
  refine lv_iload_n hx hb dX2_putMark_0 rfl (lv_at hl 1 rfl) ?_
  refine vp_callSi (W.runS (As := [.int xe]) (rest := []) ⟨hx, hb, hml, hown, hts⟩ (k_X2_isEditor l xe) (va_cwS 1 hts gX2_putMark_X2_isEditor rfl rfl rfl hd_X2_isEditor ⟨Nat.le_of_ble_eq_true rfl, Nat.le_of_ble_eq_true rfl⟩) ⟨pm_no_blind, pm_no_pre⟩ rfl rfl hl.1 rfl (lv_room (Nat.le_of_ble_eq_true rfl)) dX2_putMark_1 ⟨Nat.le_of_ble_eq_true rfl, Nat.le_of_ble_eq_true rfl⟩) (fun r1 h2 => ?_)
  rcases h2 with ⟨j3, hj3, ej3, rfl⟩ | ⟨hnj3, rfl⟩
  · subst ej3
    refine lv_if_eq (tgt := 14) hx hb dX2_putMark_4 (by decide) (fun c4 => absurd c4 (by decide)) (fun _ => ?_)
    refine lv_iload_n hx hb dX2_putMark_7 rfl (lv_at hl 2 rfl) ?_
    refine vp_callSi (W.runS (As := [.int xf]) (rest := []) ⟨hx, hb, hml, hown, hts⟩ (k_X2_isFrame l xf) (va_cwS 1 hts gX2_putMark_X2_isFrame rfl rfl rfl hd_X2_isFrame ⟨Nat.le_of_ble_eq_true rfl, Nat.le_of_ble_eq_true rfl⟩) ⟨pm_no_blind, pm_no_pre⟩ rfl rfl hl.1 rfl (lv_room (Nat.le_of_ble_eq_true rfl)) dX2_putMark_8 ⟨Nat.le_of_ble_eq_true rfl, Nat.le_of_ble_eq_true rfl⟩) (fun r5 h6 => ?_)
    rcases h6 with ⟨j7, hj7, ej7, rfl⟩ | ⟨hnj7, rfl⟩
    · subst ej7
      refine lv_if_ne (tgt := 16) hx hb dX2_putMark_11 (by decide) (fun _ => ?_) (fun c8 => absurd c8 (by decide))
      rcases pm_cases xm (n := 3) (by decide) with hnj9 | ⟨j9, hj9, rfl⟩
      · skip
        refine lv_iload_n hx hb dX2_putMark_16 rfl (lv_at hl 3 rfl) ?_
        refine lv_if_lt (tgt := 25) hx hb dX2_putMark_17 (by decide) (fun c10 => ?_) (fun c10 => ?_)
        · skip
          refine lv_bipush (v := (-2)) hx hb dX2_putMark_25 (by decide) ?_
          have E : pm_aMark S (nI j3) (nI j7) xm = ((-2), S) := by simp only [pm_aMark, pm_ix_in hj3 (show (3 : Nat) < 2 ^ 31 by decide), pm_ix_in hj7 (show (30 : Nat) < 2 ^ 31 by decide), pm_ix_out hnj9] <;> ((repeat' split) <;> first | rfl | (exfalso; omega))
          exact W.iret hx hb hr (fun t ht _ => ⟨⟨_, (), rfl, (by rw [E]), (by show va_P D vwCl (pm_shS y q (pm_aMark S (nI j3) (nI j7) xm).2) t.heap; rw [ht]; exact (by rw [E]; exact hP))⟩, hS.F ht⟩) hS.2.2 dX2_putMark_27
        · skip
          refine lv_iload_n hx hb dX2_putMark_20 rfl (lv_at hl 3 rfl) ?_
          refine lv_iconst (v := nI 2) hx hb dX2_putMark_21 (by decide) ?_
          refine lv_icmp_le (tgt := 28) hx hb dX2_putMark_22 (by decide) (fun c11 => by exfalso; exact pm_lead (n := 2) hnj9 (by decide) (by assumption) (by assumption)) (fun c11 => ?_)
          refine lv_bipush (v := (-2)) hx hb dX2_putMark_25 (by decide) ?_
          have E : pm_aMark S (nI j3) (nI j7) xm = ((-2), S) := by simp only [pm_aMark, pm_ix_in hj3 (show (3 : Nat) < 2 ^ 31 by decide), pm_ix_in hj7 (show (30 : Nat) < 2 ^ 31 by decide), pm_ix_out hnj9] <;> ((repeat' split) <;> first | rfl | (exfalso; omega))
          exact W.iret hx hb hr (fun t ht _ => ⟨⟨_, (), rfl, (by rw [E]), (by show va_P D vwCl (pm_shS y q (pm_aMark S (nI j3) (nI j7) xm).2) t.heap; rw [ht]; exact (by rw [E]; exact hP))⟩, hS.F ht⟩) hS.2.2 dX2_putMark_27
      · skip
        refine lv_iload_n hx hb dX2_putMark_16 rfl (lv_at hl 3 rfl) ?_
        refine kx_if_lt (tgt := 25) hx hb (by omega) dX2_putMark_17 (by decide) ?_
        refine lv_iload_n hx hb dX2_putMark_20 rfl (lv_at hl 3 rfl) ?_
        refine lv_iconst (v := nI 2) hx hb dX2_putMark_21 (by decide) ?_
        refine kx_icmp_le (tgt := 28) hx hb (by omega) (by decide) dX2_putMark_22 (by decide) (fun c12 => ?_) (fun c12 => ?_)
        · skip
          refine lv_aload_n hx hb dX2_putMark_28 rfl (lv_at hl 0 rfl) ?_
          refine va_get (D := D) (ci := 2) (v := .ref (q 2)) (C := RX2) (T := TX2) (N := 15) hx hb hts hin2 hown hK hP 0 rfl rfl 1 (by decide) (hts (.fieldLink RX2 15 "ProofMarks$Sheet" "how" "[I") (List.mem_of_getElem? (i := 1) rfl)) (fun _ h9 => h9) rfl dX2_putMark_29 ?_
          refine lv_iload_n hx hb dX2_putMark_32 rfl (lv_at hl 2 rfl) ?_
          refine kx_iald (v := nI ((S 0) j7)) hx hb hK hP 2 0 rfl rfl (by omega) (by decide) rfl dX2_putMark_33 ?_
          have := hI.how j7 (by omega)
          refine kx_if_eq (tgt := 40) hx hb (by omega) dX2_putMark_34 (by decide) (fun c13 => ?_) (fun c13 => ?_)
          · skip
            refine lv_aload_n hx hb dX2_putMark_40 rfl (lv_at hl 0 rfl) ?_
            refine lv_iload_n hx hb dX2_putMark_41 rfl (lv_at hl 1 rfl) ?_
            refine lv_iload_n hx hb dX2_putMark_42 rfl (lv_at hl 2 rfl) ?_
            refine vp_callSi (W.runV (As := [.int (nI j3), .int (nI j7)]) (rest := []) ⟨hx, hb, hml, hown, hts⟩ (k_X2_markOf l D y q S j3 j7 (hI.okm j7 (by omega)) (by omega) (by omega)) (cwV 2 hts gX2_putMark_X2_markOf rfl rfl rfl hd_X2_markOf ⟨Nat.le_of_ble_eq_true rfl, Nat.le_of_ble_eq_true rfl⟩) ⟨pm_ro_blind, va_recv hK hP (ci := 2) (q0 := 0) rfl rfl, pm_ro_pre hP hK⟩ rfl rfl hl.1 rfl (lv_room (Nat.le_of_ble_eq_true rfl)) dX2_putMark_43 ⟨Nat.le_of_ble_eq_true rfl, Nat.le_of_ble_eq_true rfl⟩) (fun r14 h15 => ?_)
            obtain rfl : r14 = nI (pm_mk (S 4 j7) j3) := h15
            have := pm_lt4 (S 4 j7) j3
            refine lv_istore (lv' := [(4, .int (nI (pm_mk (S 4 j7) j3))), (0, .ref (q 0)), (1, .int (nI j3)), (2, .int (nI j7)), (3, .int (nI j9))]) hx hb dX2_putMark_46 hl (by decide) rfl (fun ls hl => ?_)
            refine lv_iload_n hx hb dX2_putMark_48 rfl (lv_at hl 4 rfl) ?_
            refine lv_iconst (v := nI 2) hx hb dX2_putMark_49 (by decide) ?_
            refine kx_icmp_ne (tgt := 70) hx hb (by omega) (by decide) dX2_putMark_50 (by decide) (fun c16 => ?_) (fun c16 => ?_)
            · skip
              refine lv_aload_n hx hb dX2_putMark_70 rfl (lv_at hl 1 rfl) ?_
              refine va_get (D := D) (ci := 2) (v := .ref (q 3)) (C := RX2) (T := TX2) (N := 15) hx hb hts hin2 hown hK hP 0 rfl rfl 2 (by decide) (hts (.fieldLink RX2 18 "ProofMarks$Sheet" "ticks" "[I") (List.mem_of_getElem? (i := 2) rfl)) (fun _ h9 => h9) rfl dX2_putMark_71 ?_
              refine lv_iload_n hx hb dX2_putMark_74 rfl (lv_at hl 3 rfl) ?_
              refine lv_aload_n hx hb dX2_putMark_75 rfl (lv_at hl 1 rfl) ?_
              refine va_get (D := D) (ci := 2) (v := .ref (q 3)) (C := RX2) (T := TX2) (N := 15) hx hb hts hin2 hown hK hP 0 rfl rfl 2 (by decide) (hts (.fieldLink RX2 18 "ProofMarks$Sheet" "ticks" "[I") (List.mem_of_getElem? (i := 2) rfl)) (fun _ h9 => h9) rfl dX2_putMark_76 ?_
              refine lv_iload_n hx hb dX2_putMark_79 rfl (lv_at hl 3 rfl) ?_
              refine kx_iald (v := nI (pm_tk ((S 4) j7))) hx hb hK hP 3 0 rfl rfl (by omega) (by decide) rfl dX2_putMark_80 ?_
              have := pm_tk8 ((S 4) j7)
              refine lv_iload_n hx hb dX2_putMark_81 rfl (lv_at hl 2 rfl) ?_
              refine lv_iload_n hx hb dX2_putMark_82 rfl (lv_at hl 4 rfl) ?_
              refine lv_iconst (v := nI 1) hx hb dX2_putMark_83 (by decide) ?_
              refine kx_icmp_ne (tgt := 91) hx hb (by omega) (by decide) dX2_putMark_84 (by decide) (fun c17 => ?_) (fun c17 => ?_)
              · skip
                refine lv_iconst (v := nI 0) hx hb dX2_putMark_91 (by decide) ?_
                refine vp_callSi (W.runS (As := [.int (nI (pm_tk ((S 4) j7))), .int (nI j3), .int (nI 0)]) (rest := [.int (nI j7), .ref (q 3)]) ⟨hx, hb, hml, hown, hts⟩ (k_X2_withEditor l (nI (pm_tk ((S 4) j7))) (nI j3) (nI 0)) (va_cwS 3 hts gX2_putMark_X2_withEditor rfl rfl rfl hd_X2_withEditor ⟨Nat.le_of_ble_eq_true rfl, Nat.le_of_ble_eq_true rfl⟩) ⟨pm_no_blind, pm_no_pre⟩ rfl rfl hl.1 rfl (lv_room (Nat.le_of_ble_eq_true rfl)) dX2_putMark_92 ⟨Nat.le_of_ble_eq_true rfl, Nat.le_of_ble_eq_true rfl⟩) (fun r18 h19 => ?_)
                obtain rfl : r18 = pm_we (nI (pm_tk ((S 4) j7))) (nI j3) (nI 0) := h19
                refine lv_topi (fun x20 e21 => ?_)
                obtain rfl : x20 = nI (pm_tk (pm_sm (S 4 j7) j3 j9)) := e21.trans ((by have h9 := pm_wet (hI.okm j7 hj7) hj3 hj9; first | (rw [if_pos (by assumption)] at h9; exact h9) | (rw [if_neg (by assumption)] at h9; exact h9)))
                refine kx_iast (ws' := pm_sh y q (pm_vn (S 9)) (pm_vn (S 0)) (pm_vt (updN (S 4) j7 (pm_sm (S 4 j7) j3 j9))) (pm_vc (S 4)) (pm_vn (S 1)) (pm_vn (S 2)) (pm_vi (S 3)) (pm_vn (S 5)) (pm_vn (S 6)) (pm_vn (S 7)) (pm_vn (S 8)) (pm_vn (S 11)) (nI (S 10 0)) (nI (S 10 1)) (nI (S 10 2))) hx hb hK hP hD hS 3 0 rfl rfl (by omega) (by decide) (pm_vt_u (S 4) j7 (pm_sm (S 4 j7) j3 j9)) rfl dX2_putMark_95 (fun H locs hP hD hS => ?_)
                refine lv_aload_n hx hb dX2_putMark_96 rfl (lv_at hl 1 rfl) ?_
                refine va_get (D := D) (ci := 2) (v := .ref (q 4)) (C := RX2) (T := TX2) (N := 15) hx hb hts hin2 hown hK hP 0 rfl rfl 3 (by decide) (hts (.fieldLink RX2 21 "ProofMarks$Sheet" "crosses" "[I") (List.mem_of_getElem? (i := 3) rfl)) (fun _ h9 => h9) rfl dX2_putMark_97 ?_
                refine lv_iload_n hx hb dX2_putMark_100 rfl (lv_at hl 3 rfl) ?_
                refine lv_aload_n hx hb dX2_putMark_101 rfl (lv_at hl 1 rfl) ?_
                refine va_get (D := D) (ci := 2) (v := .ref (q 4)) (C := RX2) (T := TX2) (N := 15) hx hb hts hin2 hown hK hP 0 rfl rfl 3 (by decide) (hts (.fieldLink RX2 21 "ProofMarks$Sheet" "crosses" "[I") (List.mem_of_getElem? (i := 3) rfl)) (fun _ h9 => h9) rfl dX2_putMark_102 ?_
                refine lv_iload_n hx hb dX2_putMark_105 rfl (lv_at hl 3 rfl) ?_
                refine kx_iald (v := nI (pm_ck ((S 4) j7))) hx hb hK hP 4 0 rfl rfl (by omega) (by decide) rfl dX2_putMark_106 ?_
                have := pm_ck8 ((S 4) j7)
                refine lv_iload_n hx hb dX2_putMark_107 rfl (lv_at hl 2 rfl) ?_
                refine lv_iload_n hx hb dX2_putMark_108 rfl (lv_at hl 4 rfl) ?_
                refine lv_iconst (v := nI 2) hx hb dX2_putMark_109 (by decide) ?_
                refine kx_icmp_ne (tgt := 117) hx hb (by omega) (by decide) dX2_putMark_110 (by decide) (fun c22 => ?_) (fun c22 => ?_)
                · skip
                  refine lv_iconst (v := nI 0) hx hb dX2_putMark_117 (by decide) ?_
                  refine vp_callSi (W.runS (As := [.int (nI (pm_ck ((S 4) j7))), .int (nI j3), .int (nI 0)]) (rest := [.int (nI j7), .ref (q 4)]) ⟨hx, hb, hml, hown, hts⟩ (k_X2_withEditor l (nI (pm_ck ((S 4) j7))) (nI j3) (nI 0)) (va_cwS 3 hts gX2_putMark_X2_withEditor rfl rfl rfl hd_X2_withEditor ⟨Nat.le_of_ble_eq_true rfl, Nat.le_of_ble_eq_true rfl⟩) ⟨pm_no_blind, pm_no_pre⟩ rfl rfl hl.1 rfl (lv_room (Nat.le_of_ble_eq_true rfl)) dX2_putMark_118 ⟨Nat.le_of_ble_eq_true rfl, Nat.le_of_ble_eq_true rfl⟩) (fun r23 h24 => ?_)
                  obtain rfl : r23 = pm_we (nI (pm_ck ((S 4) j7))) (nI j3) (nI 0) := h24
                  refine lv_topi (fun x25 e26 => ?_)
                  obtain rfl : x25 = nI (pm_ck (pm_sm (S 4 j7) j3 j9)) := e26.trans ((by have h9 := pm_wec (hI.okm j7 hj7) hj3 hj9; first | (rw [if_pos (by assumption)] at h9; exact h9) | (rw [if_neg (by assumption)] at h9; exact h9)))
                  refine kx_iast (ws' := pm_sh y q (pm_vn (S 9)) (pm_vn (S 0)) (pm_vt (updN (S 4) j7 (pm_sm (S 4 j7) j3 j9))) (pm_vc (updN (S 4) j7 (pm_sm (S 4 j7) j3 j9))) (pm_vn (S 1)) (pm_vn (S 2)) (pm_vi (S 3)) (pm_vn (S 5)) (pm_vn (S 6)) (pm_vn (S 7)) (pm_vn (S 8)) (pm_vn (S 11)) (nI (S 10 0)) (nI (S 10 1)) (nI (S 10 2))) hx hb hK hP hD hS 4 0 rfl rfl (by omega) (by decide) (pm_vc_u (S 4) j7 (pm_sm (S 4 j7) j3 j9)) rfl dX2_putMark_121 (fun H locs hP hD hS => ?_)
                  refine lv_iload hx hb dX2_putMark_122 (lv_at hl 0 rfl) ?_
                  have E : pm_aMark S (nI j3) (nI j7) (nI j9) = (nI (pm_mk (S 4 j7) j3), pm_st S 4 j7 (pm_sm (S 4 j7) j3 j9)) := by simp only [pm_aMark, pm_ix_in hj3 (show (3 : Nat) < 2 ^ 31 by decide), pm_ix_in hj7 (show (30 : Nat) < 2 ^ 31 by decide), pm_ix_in hj9 (show (3 : Nat) < 2 ^ 31 by decide)] <;> ((repeat' split) <;> first | rfl | (exfalso; omega))
                  exact W.iret hx hb hr (fun t ht _ => ⟨⟨_, (), rfl, (by rw [E]), (by show va_P D vwCl (pm_shS y q (pm_aMark S (nI j3) (nI j7) (nI j9)).2) t.heap; rw [ht]; exact (by rw [E]; exact hP))⟩, hS.F ht⟩) hS.2.2 dX2_putMark_124
                · skip
                  refine lv_iconst (v := nI 1) hx hb dX2_putMark_113 (by decide) ?_
                  refine lv_goto (tgt := 118) hx hb dX2_putMark_114 (by decide) ?_
                  refine vp_callSi (W.runS (As := [.int (nI (pm_ck ((S 4) j7))), .int (nI j3), .int (nI 1)]) (rest := [.int (nI j7), .ref (q 4)]) ⟨hx, hb, hml, hown, hts⟩ (k_X2_withEditor l (nI (pm_ck ((S 4) j7))) (nI j3) (nI 1)) (va_cwS 3 hts gX2_putMark_X2_withEditor rfl rfl rfl hd_X2_withEditor ⟨Nat.le_of_ble_eq_true rfl, Nat.le_of_ble_eq_true rfl⟩) ⟨pm_no_blind, pm_no_pre⟩ rfl rfl hl.1 rfl (lv_room (Nat.le_of_ble_eq_true rfl)) dX2_putMark_118 ⟨Nat.le_of_ble_eq_true rfl, Nat.le_of_ble_eq_true rfl⟩) (fun r27 h28 => ?_)
                  obtain rfl : r27 = pm_we (nI (pm_ck ((S 4) j7))) (nI j3) (nI 1) := h28
                  refine lv_topi (fun x29 e30 => ?_)
                  obtain rfl : x29 = nI (pm_ck (pm_sm (S 4 j7) j3 j9)) := e30.trans ((by have h9 := pm_wec (hI.okm j7 hj7) hj3 hj9; first | (rw [if_pos (by assumption)] at h9; exact h9) | (rw [if_neg (by assumption)] at h9; exact h9)))
                  refine kx_iast (ws' := pm_sh y q (pm_vn (S 9)) (pm_vn (S 0)) (pm_vt (updN (S 4) j7 (pm_sm (S 4 j7) j3 j9))) (pm_vc (updN (S 4) j7 (pm_sm (S 4 j7) j3 j9))) (pm_vn (S 1)) (pm_vn (S 2)) (pm_vi (S 3)) (pm_vn (S 5)) (pm_vn (S 6)) (pm_vn (S 7)) (pm_vn (S 8)) (pm_vn (S 11)) (nI (S 10 0)) (nI (S 10 1)) (nI (S 10 2))) hx hb hK hP hD hS 4 0 rfl rfl (by omega) (by decide) (pm_vc_u (S 4) j7 (pm_sm (S 4 j7) j3 j9)) rfl dX2_putMark_121 (fun H locs hP hD hS => ?_)
                  refine lv_iload hx hb dX2_putMark_122 (lv_at hl 0 rfl) ?_
                  have E : pm_aMark S (nI j3) (nI j7) (nI j9) = (nI (pm_mk (S 4 j7) j3), pm_st S 4 j7 (pm_sm (S 4 j7) j3 j9)) := by simp only [pm_aMark, pm_ix_in hj3 (show (3 : Nat) < 2 ^ 31 by decide), pm_ix_in hj7 (show (30 : Nat) < 2 ^ 31 by decide), pm_ix_in hj9 (show (3 : Nat) < 2 ^ 31 by decide)] <;> ((repeat' split) <;> first | rfl | (exfalso; omega))
                  exact W.iret hx hb hr (fun t ht _ => ⟨⟨_, (), rfl, (by rw [E]), (by show va_P D vwCl (pm_shS y q (pm_aMark S (nI j3) (nI j7) (nI j9)).2) t.heap; rw [ht]; exact (by rw [E]; exact hP))⟩, hS.F ht⟩) hS.2.2 dX2_putMark_124
              · skip
                refine lv_iconst (v := nI 1) hx hb dX2_putMark_87 (by decide) ?_
                refine lv_goto (tgt := 92) hx hb dX2_putMark_88 (by decide) ?_
                refine vp_callSi (W.runS (As := [.int (nI (pm_tk ((S 4) j7))), .int (nI j3), .int (nI 1)]) (rest := [.int (nI j7), .ref (q 3)]) ⟨hx, hb, hml, hown, hts⟩ (k_X2_withEditor l (nI (pm_tk ((S 4) j7))) (nI j3) (nI 1)) (va_cwS 3 hts gX2_putMark_X2_withEditor rfl rfl rfl hd_X2_withEditor ⟨Nat.le_of_ble_eq_true rfl, Nat.le_of_ble_eq_true rfl⟩) ⟨pm_no_blind, pm_no_pre⟩ rfl rfl hl.1 rfl (lv_room (Nat.le_of_ble_eq_true rfl)) dX2_putMark_92 ⟨Nat.le_of_ble_eq_true rfl, Nat.le_of_ble_eq_true rfl⟩) (fun r31 h32 => ?_)
                obtain rfl : r31 = pm_we (nI (pm_tk ((S 4) j7))) (nI j3) (nI 1) := h32
                refine lv_topi (fun x33 e34 => ?_)
                obtain rfl : x33 = nI (pm_tk (pm_sm (S 4 j7) j3 j9)) := e34.trans ((by have h9 := pm_wet (hI.okm j7 hj7) hj3 hj9; first | (rw [if_pos (by assumption)] at h9; exact h9) | (rw [if_neg (by assumption)] at h9; exact h9)))
                refine kx_iast (ws' := pm_sh y q (pm_vn (S 9)) (pm_vn (S 0)) (pm_vt (updN (S 4) j7 (pm_sm (S 4 j7) j3 j9))) (pm_vc (S 4)) (pm_vn (S 1)) (pm_vn (S 2)) (pm_vi (S 3)) (pm_vn (S 5)) (pm_vn (S 6)) (pm_vn (S 7)) (pm_vn (S 8)) (pm_vn (S 11)) (nI (S 10 0)) (nI (S 10 1)) (nI (S 10 2))) hx hb hK hP hD hS 3 0 rfl rfl (by omega) (by decide) (pm_vt_u (S 4) j7 (pm_sm (S 4 j7) j3 j9)) rfl dX2_putMark_95 (fun H locs hP hD hS => ?_)
                refine lv_aload_n hx hb dX2_putMark_96 rfl (lv_at hl 1 rfl) ?_
                refine va_get (D := D) (ci := 2) (v := .ref (q 4)) (C := RX2) (T := TX2) (N := 15) hx hb hts hin2 hown hK hP 0 rfl rfl 3 (by decide) (hts (.fieldLink RX2 21 "ProofMarks$Sheet" "crosses" "[I") (List.mem_of_getElem? (i := 3) rfl)) (fun _ h9 => h9) rfl dX2_putMark_97 ?_
                refine lv_iload_n hx hb dX2_putMark_100 rfl (lv_at hl 3 rfl) ?_
                refine lv_aload_n hx hb dX2_putMark_101 rfl (lv_at hl 1 rfl) ?_
                refine va_get (D := D) (ci := 2) (v := .ref (q 4)) (C := RX2) (T := TX2) (N := 15) hx hb hts hin2 hown hK hP 0 rfl rfl 3 (by decide) (hts (.fieldLink RX2 21 "ProofMarks$Sheet" "crosses" "[I") (List.mem_of_getElem? (i := 3) rfl)) (fun _ h9 => h9) rfl dX2_putMark_102 ?_
                refine lv_iload_n hx hb dX2_putMark_105 rfl (lv_at hl 3 rfl) ?_
                refine kx_iald (v := nI (pm_ck ((S 4) j7))) hx hb hK hP 4 0 rfl rfl (by omega) (by decide) rfl dX2_putMark_106 ?_
                have := pm_ck8 ((S 4) j7)
                refine lv_iload_n hx hb dX2_putMark_107 rfl (lv_at hl 2 rfl) ?_
                refine lv_iload_n hx hb dX2_putMark_108 rfl (lv_at hl 4 rfl) ?_
                refine lv_iconst (v := nI 2) hx hb dX2_putMark_109 (by decide) ?_
                refine kx_icmp_ne (tgt := 117) hx hb (by omega) (by decide) dX2_putMark_110 (by decide) (fun c35 => ?_) (fun c35 => ?_)
                · skip
                  refine lv_iconst (v := nI 0) hx hb dX2_putMark_117 (by decide) ?_
                  refine vp_callSi (W.runS (As := [.int (nI (pm_ck ((S 4) j7))), .int (nI j3), .int (nI 0)]) (rest := [.int (nI j7), .ref (q 4)]) ⟨hx, hb, hml, hown, hts⟩ (k_X2_withEditor l (nI (pm_ck ((S 4) j7))) (nI j3) (nI 0)) (va_cwS 3 hts gX2_putMark_X2_withEditor rfl rfl rfl hd_X2_withEditor ⟨Nat.le_of_ble_eq_true rfl, Nat.le_of_ble_eq_true rfl⟩) ⟨pm_no_blind, pm_no_pre⟩ rfl rfl hl.1 rfl (lv_room (Nat.le_of_ble_eq_true rfl)) dX2_putMark_118 ⟨Nat.le_of_ble_eq_true rfl, Nat.le_of_ble_eq_true rfl⟩) (fun r36 h37 => ?_)
                  obtain rfl : r36 = pm_we (nI (pm_ck ((S 4) j7))) (nI j3) (nI 0) := h37
                  refine lv_topi (fun x38 e39 => ?_)
                  obtain rfl : x38 = nI (pm_ck (pm_sm (S 4 j7) j3 j9)) := e39.trans ((by have h9 := pm_wec (hI.okm j7 hj7) hj3 hj9; first | (rw [if_pos (by assumption)] at h9; exact h9) | (rw [if_neg (by assumption)] at h9; exact h9)))
                  refine kx_iast (ws' := pm_sh y q (pm_vn (S 9)) (pm_vn (S 0)) (pm_vt (updN (S 4) j7 (pm_sm (S 4 j7) j3 j9))) (pm_vc (updN (S 4) j7 (pm_sm (S 4 j7) j3 j9))) (pm_vn (S 1)) (pm_vn (S 2)) (pm_vi (S 3)) (pm_vn (S 5)) (pm_vn (S 6)) (pm_vn (S 7)) (pm_vn (S 8)) (pm_vn (S 11)) (nI (S 10 0)) (nI (S 10 1)) (nI (S 10 2))) hx hb hK hP hD hS 4 0 rfl rfl (by omega) (by decide) (pm_vc_u (S 4) j7 (pm_sm (S 4 j7) j3 j9)) rfl dX2_putMark_121 (fun H locs hP hD hS => ?_)
                  refine lv_iload hx hb dX2_putMark_122 (lv_at hl 0 rfl) ?_
                  have E : pm_aMark S (nI j3) (nI j7) (nI j9) = (nI (pm_mk (S 4 j7) j3), pm_st S 4 j7 (pm_sm (S 4 j7) j3 j9)) := by simp only [pm_aMark, pm_ix_in hj3 (show (3 : Nat) < 2 ^ 31 by decide), pm_ix_in hj7 (show (30 : Nat) < 2 ^ 31 by decide), pm_ix_in hj9 (show (3 : Nat) < 2 ^ 31 by decide)] <;> ((repeat' split) <;> first | rfl | (exfalso; omega))
                  exact W.iret hx hb hr (fun t ht _ => ⟨⟨_, (), rfl, (by rw [E]), (by show va_P D vwCl (pm_shS y q (pm_aMark S (nI j3) (nI j7) (nI j9)).2) t.heap; rw [ht]; exact (by rw [E]; exact hP))⟩, hS.F ht⟩) hS.2.2 dX2_putMark_124
                · skip
                  refine lv_iconst (v := nI 1) hx hb dX2_putMark_113 (by decide) ?_
                  refine lv_goto (tgt := 118) hx hb dX2_putMark_114 (by decide) ?_
                  refine vp_callSi (W.runS (As := [.int (nI (pm_ck ((S 4) j7))), .int (nI j3), .int (nI 1)]) (rest := [.int (nI j7), .ref (q 4)]) ⟨hx, hb, hml, hown, hts⟩ (k_X2_withEditor l (nI (pm_ck ((S 4) j7))) (nI j3) (nI 1)) (va_cwS 3 hts gX2_putMark_X2_withEditor rfl rfl rfl hd_X2_withEditor ⟨Nat.le_of_ble_eq_true rfl, Nat.le_of_ble_eq_true rfl⟩) ⟨pm_no_blind, pm_no_pre⟩ rfl rfl hl.1 rfl (lv_room (Nat.le_of_ble_eq_true rfl)) dX2_putMark_118 ⟨Nat.le_of_ble_eq_true rfl, Nat.le_of_ble_eq_true rfl⟩) (fun r40 h41 => ?_)
                  obtain rfl : r40 = pm_we (nI (pm_ck ((S 4) j7))) (nI j3) (nI 1) := h41
                  refine lv_topi (fun x42 e43 => ?_)
                  obtain rfl : x42 = nI (pm_ck (pm_sm (S 4 j7) j3 j9)) := e43.trans ((by have h9 := pm_wec (hI.okm j7 hj7) hj3 hj9; first | (rw [if_pos (by assumption)] at h9; exact h9) | (rw [if_neg (by assumption)] at h9; exact h9)))
                  refine kx_iast (ws' := pm_sh y q (pm_vn (S 9)) (pm_vn (S 0)) (pm_vt (updN (S 4) j7 (pm_sm (S 4 j7) j3 j9))) (pm_vc (updN (S 4) j7 (pm_sm (S 4 j7) j3 j9))) (pm_vn (S 1)) (pm_vn (S 2)) (pm_vi (S 3)) (pm_vn (S 5)) (pm_vn (S 6)) (pm_vn (S 7)) (pm_vn (S 8)) (pm_vn (S 11)) (nI (S 10 0)) (nI (S 10 1)) (nI (S 10 2))) hx hb hK hP hD hS 4 0 rfl rfl (by omega) (by decide) (pm_vc_u (S 4) j7 (pm_sm (S 4 j7) j3 j9)) rfl dX2_putMark_121 (fun H locs hP hD hS => ?_)
                  refine lv_iload hx hb dX2_putMark_122 (lv_at hl 0 rfl) ?_
                  have E : pm_aMark S (nI j3) (nI j7) (nI j9) = (nI (pm_mk (S 4 j7) j3), pm_st S 4 j7 (pm_sm (S 4 j7) j3 j9)) := by simp only [pm_aMark, pm_ix_in hj3 (show (3 : Nat) < 2 ^ 31 by decide), pm_ix_in hj7 (show (30 : Nat) < 2 ^ 31 by decide), pm_ix_in hj9 (show (3 : Nat) < 2 ^ 31 by decide)] <;> ((repeat' split) <;> first | rfl | (exfalso; omega))
                  exact W.iret hx hb hr (fun t ht _ => ⟨⟨_, (), rfl, (by rw [E]), (by show va_P D vwCl (pm_shS y q (pm_aMark S (nI j3) (nI j7) (nI j9)).2) t.heap; rw [ht]; exact (by rw [E]; exact hP))⟩, hS.F ht⟩) hS.2.2 dX2_putMark_124
            · skip
              refine lv_iload hx hb dX2_putMark_53 (lv_at hl 0 rfl) ?_
              refine lv_iconst (v := nI 2) hx hb dX2_putMark_55 (by decide) ?_
              refine kx_icmp_eq (tgt := 70) hx hb (by omega) (by decide) dX2_putMark_56 (by decide) (fun c44 => ?_) (fun c44 => ?_)
              · skip
                refine lv_aload_n hx hb dX2_putMark_70 rfl (lv_at hl 1 rfl) ?_
                refine va_get (D := D) (ci := 2) (v := .ref (q 3)) (C := RX2) (T := TX2) (N := 15) hx hb hts hin2 hown hK hP 0 rfl rfl 2 (by decide) (hts (.fieldLink RX2 18 "ProofMarks$Sheet" "ticks" "[I") (List.mem_of_getElem? (i := 2) rfl)) (fun _ h9 => h9) rfl dX2_putMark_71 ?_
                refine lv_iload_n hx hb dX2_putMark_74 rfl (lv_at hl 3 rfl) ?_
                refine lv_aload_n hx hb dX2_putMark_75 rfl (lv_at hl 1 rfl) ?_
                refine va_get (D := D) (ci := 2) (v := .ref (q 3)) (C := RX2) (T := TX2) (N := 15) hx hb hts hin2 hown hK hP 0 rfl rfl 2 (by decide) (hts (.fieldLink RX2 18 "ProofMarks$Sheet" "ticks" "[I") (List.mem_of_getElem? (i := 2) rfl)) (fun _ h9 => h9) rfl dX2_putMark_76 ?_
                refine lv_iload_n hx hb dX2_putMark_79 rfl (lv_at hl 3 rfl) ?_
                refine kx_iald (v := nI (pm_tk ((S 4) j7))) hx hb hK hP 3 0 rfl rfl (by omega) (by decide) rfl dX2_putMark_80 ?_
                have := pm_tk8 ((S 4) j7)
                refine lv_iload_n hx hb dX2_putMark_81 rfl (lv_at hl 2 rfl) ?_
                refine lv_iload_n hx hb dX2_putMark_82 rfl (lv_at hl 4 rfl) ?_
                refine lv_iconst (v := nI 1) hx hb dX2_putMark_83 (by decide) ?_
                refine kx_icmp_ne (tgt := 91) hx hb (by omega) (by decide) dX2_putMark_84 (by decide) (fun c45 => ?_) (fun c45 => ?_)
                · skip
                  refine lv_iconst (v := nI 0) hx hb dX2_putMark_91 (by decide) ?_
                  refine vp_callSi (W.runS (As := [.int (nI (pm_tk ((S 4) j7))), .int (nI j3), .int (nI 0)]) (rest := [.int (nI j7), .ref (q 3)]) ⟨hx, hb, hml, hown, hts⟩ (k_X2_withEditor l (nI (pm_tk ((S 4) j7))) (nI j3) (nI 0)) (va_cwS 3 hts gX2_putMark_X2_withEditor rfl rfl rfl hd_X2_withEditor ⟨Nat.le_of_ble_eq_true rfl, Nat.le_of_ble_eq_true rfl⟩) ⟨pm_no_blind, pm_no_pre⟩ rfl rfl hl.1 rfl (lv_room (Nat.le_of_ble_eq_true rfl)) dX2_putMark_92 ⟨Nat.le_of_ble_eq_true rfl, Nat.le_of_ble_eq_true rfl⟩) (fun r46 h47 => ?_)
                  obtain rfl : r46 = pm_we (nI (pm_tk ((S 4) j7))) (nI j3) (nI 0) := h47
                  refine lv_topi (fun x48 e49 => ?_)
                  obtain rfl : x48 = nI (pm_tk (pm_sm (S 4 j7) j3 j9)) := e49.trans ((by have h9 := pm_wet (hI.okm j7 hj7) hj3 hj9; first | (rw [if_pos (by assumption)] at h9; exact h9) | (rw [if_neg (by assumption)] at h9; exact h9)))
                  refine kx_iast (ws' := pm_sh y q (pm_vn (S 9)) (pm_vn (S 0)) (pm_vt (updN (S 4) j7 (pm_sm (S 4 j7) j3 j9))) (pm_vc (S 4)) (pm_vn (S 1)) (pm_vn (S 2)) (pm_vi (S 3)) (pm_vn (S 5)) (pm_vn (S 6)) (pm_vn (S 7)) (pm_vn (S 8)) (pm_vn (S 11)) (nI (S 10 0)) (nI (S 10 1)) (nI (S 10 2))) hx hb hK hP hD hS 3 0 rfl rfl (by omega) (by decide) (pm_vt_u (S 4) j7 (pm_sm (S 4 j7) j3 j9)) rfl dX2_putMark_95 (fun H locs hP hD hS => ?_)
                  refine lv_aload_n hx hb dX2_putMark_96 rfl (lv_at hl 1 rfl) ?_
                  refine va_get (D := D) (ci := 2) (v := .ref (q 4)) (C := RX2) (T := TX2) (N := 15) hx hb hts hin2 hown hK hP 0 rfl rfl 3 (by decide) (hts (.fieldLink RX2 21 "ProofMarks$Sheet" "crosses" "[I") (List.mem_of_getElem? (i := 3) rfl)) (fun _ h9 => h9) rfl dX2_putMark_97 ?_
                  refine lv_iload_n hx hb dX2_putMark_100 rfl (lv_at hl 3 rfl) ?_
                  refine lv_aload_n hx hb dX2_putMark_101 rfl (lv_at hl 1 rfl) ?_
                  refine va_get (D := D) (ci := 2) (v := .ref (q 4)) (C := RX2) (T := TX2) (N := 15) hx hb hts hin2 hown hK hP 0 rfl rfl 3 (by decide) (hts (.fieldLink RX2 21 "ProofMarks$Sheet" "crosses" "[I") (List.mem_of_getElem? (i := 3) rfl)) (fun _ h9 => h9) rfl dX2_putMark_102 ?_
                  refine lv_iload_n hx hb dX2_putMark_105 rfl (lv_at hl 3 rfl) ?_
                  refine kx_iald (v := nI (pm_ck ((S 4) j7))) hx hb hK hP 4 0 rfl rfl (by omega) (by decide) rfl dX2_putMark_106 ?_
                  have := pm_ck8 ((S 4) j7)
                  refine lv_iload_n hx hb dX2_putMark_107 rfl (lv_at hl 2 rfl) ?_
                  refine lv_iload_n hx hb dX2_putMark_108 rfl (lv_at hl 4 rfl) ?_
                  refine lv_iconst (v := nI 2) hx hb dX2_putMark_109 (by decide) ?_
                  refine kx_icmp_ne (tgt := 117) hx hb (by omega) (by decide) dX2_putMark_110 (by decide) (fun c50 => ?_) (fun c50 => ?_)
                  · skip
                    refine lv_iconst (v := nI 0) hx hb dX2_putMark_117 (by decide) ?_
                    refine vp_callSi (W.runS (As := [.int (nI (pm_ck ((S 4) j7))), .int (nI j3), .int (nI 0)]) (rest := [.int (nI j7), .ref (q 4)]) ⟨hx, hb, hml, hown, hts⟩ (k_X2_withEditor l (nI (pm_ck ((S 4) j7))) (nI j3) (nI 0)) (va_cwS 3 hts gX2_putMark_X2_withEditor rfl rfl rfl hd_X2_withEditor ⟨Nat.le_of_ble_eq_true rfl, Nat.le_of_ble_eq_true rfl⟩) ⟨pm_no_blind, pm_no_pre⟩ rfl rfl hl.1 rfl (lv_room (Nat.le_of_ble_eq_true rfl)) dX2_putMark_118 ⟨Nat.le_of_ble_eq_true rfl, Nat.le_of_ble_eq_true rfl⟩) (fun r51 h52 => ?_)
                    obtain rfl : r51 = pm_we (nI (pm_ck ((S 4) j7))) (nI j3) (nI 0) := h52
                    refine lv_topi (fun x53 e54 => ?_)
                    obtain rfl : x53 = nI (pm_ck (pm_sm (S 4 j7) j3 j9)) := e54.trans ((by have h9 := pm_wec (hI.okm j7 hj7) hj3 hj9; first | (rw [if_pos (by assumption)] at h9; exact h9) | (rw [if_neg (by assumption)] at h9; exact h9)))
                    refine kx_iast (ws' := pm_sh y q (pm_vn (S 9)) (pm_vn (S 0)) (pm_vt (updN (S 4) j7 (pm_sm (S 4 j7) j3 j9))) (pm_vc (updN (S 4) j7 (pm_sm (S 4 j7) j3 j9))) (pm_vn (S 1)) (pm_vn (S 2)) (pm_vi (S 3)) (pm_vn (S 5)) (pm_vn (S 6)) (pm_vn (S 7)) (pm_vn (S 8)) (pm_vn (S 11)) (nI (S 10 0)) (nI (S 10 1)) (nI (S 10 2))) hx hb hK hP hD hS 4 0 rfl rfl (by omega) (by decide) (pm_vc_u (S 4) j7 (pm_sm (S 4 j7) j3 j9)) rfl dX2_putMark_121 (fun H locs hP hD hS => ?_)
                    refine lv_iload hx hb dX2_putMark_122 (lv_at hl 0 rfl) ?_
                    have E : pm_aMark S (nI j3) (nI j7) (nI j9) = (nI (pm_mk (S 4 j7) j3), pm_st S 4 j7 (pm_sm (S 4 j7) j3 j9)) := by simp only [pm_aMark, pm_ix_in hj3 (show (3 : Nat) < 2 ^ 31 by decide), pm_ix_in hj7 (show (30 : Nat) < 2 ^ 31 by decide), pm_ix_in hj9 (show (3 : Nat) < 2 ^ 31 by decide)] <;> ((repeat' split) <;> first | rfl | (exfalso; omega))
                    exact W.iret hx hb hr (fun t ht _ => ⟨⟨_, (), rfl, (by rw [E]), (by show va_P D vwCl (pm_shS y q (pm_aMark S (nI j3) (nI j7) (nI j9)).2) t.heap; rw [ht]; exact (by rw [E]; exact hP))⟩, hS.F ht⟩) hS.2.2 dX2_putMark_124
                  · skip
                    refine lv_iconst (v := nI 1) hx hb dX2_putMark_113 (by decide) ?_
                    refine lv_goto (tgt := 118) hx hb dX2_putMark_114 (by decide) ?_
                    refine vp_callSi (W.runS (As := [.int (nI (pm_ck ((S 4) j7))), .int (nI j3), .int (nI 1)]) (rest := [.int (nI j7), .ref (q 4)]) ⟨hx, hb, hml, hown, hts⟩ (k_X2_withEditor l (nI (pm_ck ((S 4) j7))) (nI j3) (nI 1)) (va_cwS 3 hts gX2_putMark_X2_withEditor rfl rfl rfl hd_X2_withEditor ⟨Nat.le_of_ble_eq_true rfl, Nat.le_of_ble_eq_true rfl⟩) ⟨pm_no_blind, pm_no_pre⟩ rfl rfl hl.1 rfl (lv_room (Nat.le_of_ble_eq_true rfl)) dX2_putMark_118 ⟨Nat.le_of_ble_eq_true rfl, Nat.le_of_ble_eq_true rfl⟩) (fun r55 h56 => ?_)
                    obtain rfl : r55 = pm_we (nI (pm_ck ((S 4) j7))) (nI j3) (nI 1) := h56
                    refine lv_topi (fun x57 e58 => ?_)
                    obtain rfl : x57 = nI (pm_ck (pm_sm (S 4 j7) j3 j9)) := e58.trans ((by have h9 := pm_wec (hI.okm j7 hj7) hj3 hj9; first | (rw [if_pos (by assumption)] at h9; exact h9) | (rw [if_neg (by assumption)] at h9; exact h9)))
                    refine kx_iast (ws' := pm_sh y q (pm_vn (S 9)) (pm_vn (S 0)) (pm_vt (updN (S 4) j7 (pm_sm (S 4 j7) j3 j9))) (pm_vc (updN (S 4) j7 (pm_sm (S 4 j7) j3 j9))) (pm_vn (S 1)) (pm_vn (S 2)) (pm_vi (S 3)) (pm_vn (S 5)) (pm_vn (S 6)) (pm_vn (S 7)) (pm_vn (S 8)) (pm_vn (S 11)) (nI (S 10 0)) (nI (S 10 1)) (nI (S 10 2))) hx hb hK hP hD hS 4 0 rfl rfl (by omega) (by decide) (pm_vc_u (S 4) j7 (pm_sm (S 4 j7) j3 j9)) rfl dX2_putMark_121 (fun H locs hP hD hS => ?_)
                    refine lv_iload hx hb dX2_putMark_122 (lv_at hl 0 rfl) ?_
                    have E : pm_aMark S (nI j3) (nI j7) (nI j9) = (nI (pm_mk (S 4 j7) j3), pm_st S 4 j7 (pm_sm (S 4 j7) j3 j9)) := by simp only [pm_aMark, pm_ix_in hj3 (show (3 : Nat) < 2 ^ 31 by decide), pm_ix_in hj7 (show (30 : Nat) < 2 ^ 31 by decide), pm_ix_in hj9 (show (3 : Nat) < 2 ^ 31 by decide)] <;> ((repeat' split) <;> first | rfl | (exfalso; omega))
                    exact W.iret hx hb hr (fun t ht _ => ⟨⟨_, (), rfl, (by rw [E]), (by show va_P D vwCl (pm_shS y q (pm_aMark S (nI j3) (nI j7) (nI j9)).2) t.heap; rw [ht]; exact (by rw [E]; exact hP))⟩, hS.F ht⟩) hS.2.2 dX2_putMark_124
                · skip
                  refine lv_iconst (v := nI 1) hx hb dX2_putMark_87 (by decide) ?_
                  refine lv_goto (tgt := 92) hx hb dX2_putMark_88 (by decide) ?_
                  refine vp_callSi (W.runS (As := [.int (nI (pm_tk ((S 4) j7))), .int (nI j3), .int (nI 1)]) (rest := [.int (nI j7), .ref (q 3)]) ⟨hx, hb, hml, hown, hts⟩ (k_X2_withEditor l (nI (pm_tk ((S 4) j7))) (nI j3) (nI 1)) (va_cwS 3 hts gX2_putMark_X2_withEditor rfl rfl rfl hd_X2_withEditor ⟨Nat.le_of_ble_eq_true rfl, Nat.le_of_ble_eq_true rfl⟩) ⟨pm_no_blind, pm_no_pre⟩ rfl rfl hl.1 rfl (lv_room (Nat.le_of_ble_eq_true rfl)) dX2_putMark_92 ⟨Nat.le_of_ble_eq_true rfl, Nat.le_of_ble_eq_true rfl⟩) (fun r59 h60 => ?_)
                  obtain rfl : r59 = pm_we (nI (pm_tk ((S 4) j7))) (nI j3) (nI 1) := h60
                  refine lv_topi (fun x61 e62 => ?_)
                  obtain rfl : x61 = nI (pm_tk (pm_sm (S 4 j7) j3 j9)) := e62.trans ((by have h9 := pm_wet (hI.okm j7 hj7) hj3 hj9; first | (rw [if_pos (by assumption)] at h9; exact h9) | (rw [if_neg (by assumption)] at h9; exact h9)))
                  refine kx_iast (ws' := pm_sh y q (pm_vn (S 9)) (pm_vn (S 0)) (pm_vt (updN (S 4) j7 (pm_sm (S 4 j7) j3 j9))) (pm_vc (S 4)) (pm_vn (S 1)) (pm_vn (S 2)) (pm_vi (S 3)) (pm_vn (S 5)) (pm_vn (S 6)) (pm_vn (S 7)) (pm_vn (S 8)) (pm_vn (S 11)) (nI (S 10 0)) (nI (S 10 1)) (nI (S 10 2))) hx hb hK hP hD hS 3 0 rfl rfl (by omega) (by decide) (pm_vt_u (S 4) j7 (pm_sm (S 4 j7) j3 j9)) rfl dX2_putMark_95 (fun H locs hP hD hS => ?_)
                  refine lv_aload_n hx hb dX2_putMark_96 rfl (lv_at hl 1 rfl) ?_
                  refine va_get (D := D) (ci := 2) (v := .ref (q 4)) (C := RX2) (T := TX2) (N := 15) hx hb hts hin2 hown hK hP 0 rfl rfl 3 (by decide) (hts (.fieldLink RX2 21 "ProofMarks$Sheet" "crosses" "[I") (List.mem_of_getElem? (i := 3) rfl)) (fun _ h9 => h9) rfl dX2_putMark_97 ?_
                  refine lv_iload_n hx hb dX2_putMark_100 rfl (lv_at hl 3 rfl) ?_
                  refine lv_aload_n hx hb dX2_putMark_101 rfl (lv_at hl 1 rfl) ?_
                  refine va_get (D := D) (ci := 2) (v := .ref (q 4)) (C := RX2) (T := TX2) (N := 15) hx hb hts hin2 hown hK hP 0 rfl rfl 3 (by decide) (hts (.fieldLink RX2 21 "ProofMarks$Sheet" "crosses" "[I") (List.mem_of_getElem? (i := 3) rfl)) (fun _ h9 => h9) rfl dX2_putMark_102 ?_
                  refine lv_iload_n hx hb dX2_putMark_105 rfl (lv_at hl 3 rfl) ?_
                  refine kx_iald (v := nI (pm_ck ((S 4) j7))) hx hb hK hP 4 0 rfl rfl (by omega) (by decide) rfl dX2_putMark_106 ?_
                  have := pm_ck8 ((S 4) j7)
                  refine lv_iload_n hx hb dX2_putMark_107 rfl (lv_at hl 2 rfl) ?_
                  refine lv_iload_n hx hb dX2_putMark_108 rfl (lv_at hl 4 rfl) ?_
                  refine lv_iconst (v := nI 2) hx hb dX2_putMark_109 (by decide) ?_
                  refine kx_icmp_ne (tgt := 117) hx hb (by omega) (by decide) dX2_putMark_110 (by decide) (fun c63 => ?_) (fun c63 => ?_)
                  · skip
                    refine lv_iconst (v := nI 0) hx hb dX2_putMark_117 (by decide) ?_
                    refine vp_callSi (W.runS (As := [.int (nI (pm_ck ((S 4) j7))), .int (nI j3), .int (nI 0)]) (rest := [.int (nI j7), .ref (q 4)]) ⟨hx, hb, hml, hown, hts⟩ (k_X2_withEditor l (nI (pm_ck ((S 4) j7))) (nI j3) (nI 0)) (va_cwS 3 hts gX2_putMark_X2_withEditor rfl rfl rfl hd_X2_withEditor ⟨Nat.le_of_ble_eq_true rfl, Nat.le_of_ble_eq_true rfl⟩) ⟨pm_no_blind, pm_no_pre⟩ rfl rfl hl.1 rfl (lv_room (Nat.le_of_ble_eq_true rfl)) dX2_putMark_118 ⟨Nat.le_of_ble_eq_true rfl, Nat.le_of_ble_eq_true rfl⟩) (fun r64 h65 => ?_)
                    obtain rfl : r64 = pm_we (nI (pm_ck ((S 4) j7))) (nI j3) (nI 0) := h65
                    refine lv_topi (fun x66 e67 => ?_)
                    obtain rfl : x66 = nI (pm_ck (pm_sm (S 4 j7) j3 j9)) := e67.trans ((by have h9 := pm_wec (hI.okm j7 hj7) hj3 hj9; first | (rw [if_pos (by assumption)] at h9; exact h9) | (rw [if_neg (by assumption)] at h9; exact h9)))
                    refine kx_iast (ws' := pm_sh y q (pm_vn (S 9)) (pm_vn (S 0)) (pm_vt (updN (S 4) j7 (pm_sm (S 4 j7) j3 j9))) (pm_vc (updN (S 4) j7 (pm_sm (S 4 j7) j3 j9))) (pm_vn (S 1)) (pm_vn (S 2)) (pm_vi (S 3)) (pm_vn (S 5)) (pm_vn (S 6)) (pm_vn (S 7)) (pm_vn (S 8)) (pm_vn (S 11)) (nI (S 10 0)) (nI (S 10 1)) (nI (S 10 2))) hx hb hK hP hD hS 4 0 rfl rfl (by omega) (by decide) (pm_vc_u (S 4) j7 (pm_sm (S 4 j7) j3 j9)) rfl dX2_putMark_121 (fun H locs hP hD hS => ?_)
                    refine lv_iload hx hb dX2_putMark_122 (lv_at hl 0 rfl) ?_
                    have E : pm_aMark S (nI j3) (nI j7) (nI j9) = (nI (pm_mk (S 4 j7) j3), pm_st S 4 j7 (pm_sm (S 4 j7) j3 j9)) := by simp only [pm_aMark, pm_ix_in hj3 (show (3 : Nat) < 2 ^ 31 by decide), pm_ix_in hj7 (show (30 : Nat) < 2 ^ 31 by decide), pm_ix_in hj9 (show (3 : Nat) < 2 ^ 31 by decide)] <;> ((repeat' split) <;> first | rfl | (exfalso; omega))
                    exact W.iret hx hb hr (fun t ht _ => ⟨⟨_, (), rfl, (by rw [E]), (by show va_P D vwCl (pm_shS y q (pm_aMark S (nI j3) (nI j7) (nI j9)).2) t.heap; rw [ht]; exact (by rw [E]; exact hP))⟩, hS.F ht⟩) hS.2.2 dX2_putMark_124
                  · skip
                    refine lv_iconst (v := nI 1) hx hb dX2_putMark_113 (by decide) ?_
                    refine lv_goto (tgt := 118) hx hb dX2_putMark_114 (by decide) ?_
                    refine vp_callSi (W.runS (As := [.int (nI (pm_ck ((S 4) j7))), .int (nI j3), .int (nI 1)]) (rest := [.int (nI j7), .ref (q 4)]) ⟨hx, hb, hml, hown, hts⟩ (k_X2_withEditor l (nI (pm_ck ((S 4) j7))) (nI j3) (nI 1)) (va_cwS 3 hts gX2_putMark_X2_withEditor rfl rfl rfl hd_X2_withEditor ⟨Nat.le_of_ble_eq_true rfl, Nat.le_of_ble_eq_true rfl⟩) ⟨pm_no_blind, pm_no_pre⟩ rfl rfl hl.1 rfl (lv_room (Nat.le_of_ble_eq_true rfl)) dX2_putMark_118 ⟨Nat.le_of_ble_eq_true rfl, Nat.le_of_ble_eq_true rfl⟩) (fun r68 h69 => ?_)
                    obtain rfl : r68 = pm_we (nI (pm_ck ((S 4) j7))) (nI j3) (nI 1) := h69
                    refine lv_topi (fun x70 e71 => ?_)
                    obtain rfl : x70 = nI (pm_ck (pm_sm (S 4 j7) j3 j9)) := e71.trans ((by have h9 := pm_wec (hI.okm j7 hj7) hj3 hj9; first | (rw [if_pos (by assumption)] at h9; exact h9) | (rw [if_neg (by assumption)] at h9; exact h9)))
                    refine kx_iast (ws' := pm_sh y q (pm_vn (S 9)) (pm_vn (S 0)) (pm_vt (updN (S 4) j7 (pm_sm (S 4 j7) j3 j9))) (pm_vc (updN (S 4) j7 (pm_sm (S 4 j7) j3 j9))) (pm_vn (S 1)) (pm_vn (S 2)) (pm_vi (S 3)) (pm_vn (S 5)) (pm_vn (S 6)) (pm_vn (S 7)) (pm_vn (S 8)) (pm_vn (S 11)) (nI (S 10 0)) (nI (S 10 1)) (nI (S 10 2))) hx hb hK hP hD hS 4 0 rfl rfl (by omega) (by decide) (pm_vc_u (S 4) j7 (pm_sm (S 4 j7) j3 j9)) rfl dX2_putMark_121 (fun H locs hP hD hS => ?_)
                    refine lv_iload hx hb dX2_putMark_122 (lv_at hl 0 rfl) ?_
                    have E : pm_aMark S (nI j3) (nI j7) (nI j9) = (nI (pm_mk (S 4 j7) j3), pm_st S 4 j7 (pm_sm (S 4 j7) j3 j9)) := by simp only [pm_aMark, pm_ix_in hj3 (show (3 : Nat) < 2 ^ 31 by decide), pm_ix_in hj7 (show (30 : Nat) < 2 ^ 31 by decide), pm_ix_in hj9 (show (3 : Nat) < 2 ^ 31 by decide)] <;> ((repeat' split) <;> first | rfl | (exfalso; omega))
                    exact W.iret hx hb hr (fun t ht _ => ⟨⟨_, (), rfl, (by rw [E]), (by show va_P D vwCl (pm_shS y q (pm_aMark S (nI j3) (nI j7) (nI j9)).2) t.heap; rw [ht]; exact (by rw [E]; exact hP))⟩, hS.F ht⟩) hS.2.2 dX2_putMark_124
              · skip
                refine lv_aload_n hx hb dX2_putMark_59 rfl (lv_at hl 1 rfl) ?_
                refine lv_iload_n hx hb dX2_putMark_60 rfl (lv_at hl 2 rfl) ?_
                refine vp_callSi (W.runV (As := [.int (nI j3)]) (rest := []) ⟨hx, hb, hml, hown, hts⟩ (k_X2_vetoesLeft l D y q S j3 hI (by omega)) (cwV 1 hts gX2_putMark_X2_vetoesLeft rfl rfl rfl hd_X2_vetoesLeft ⟨Nat.le_of_ble_eq_true rfl, Nat.le_of_ble_eq_true rfl⟩) ⟨pm_ro_blind, va_recv hK hP (ci := 2) (q0 := 0) rfl rfl, pm_ro_pre hP hK⟩ rfl rfl hl.1 rfl (lv_room (Nat.le_of_ble_eq_true rfl)) dX2_putMark_61 ⟨Nat.le_of_ble_eq_true rfl, Nat.le_of_ble_eq_true rfl⟩) (fun r72 h73 => ?_)
                obtain rfl : r72 = nI (S 9 1 - pm_cnt S j3 2 30) := h73
                have := hI.set9 1 (by decide)
                refine kx_if_ne (tgt := 70) hx hb (by omega) dX2_putMark_64 (by decide) (fun c74 => ?_) (fun c74 => ?_)
                · skip
                  refine lv_aload_n hx hb dX2_putMark_70 rfl (lv_at hl 1 rfl) ?_
                  refine va_get (D := D) (ci := 2) (v := .ref (q 3)) (C := RX2) (T := TX2) (N := 15) hx hb hts hin2 hown hK hP 0 rfl rfl 2 (by decide) (hts (.fieldLink RX2 18 "ProofMarks$Sheet" "ticks" "[I") (List.mem_of_getElem? (i := 2) rfl)) (fun _ h9 => h9) rfl dX2_putMark_71 ?_
                  refine lv_iload_n hx hb dX2_putMark_74 rfl (lv_at hl 3 rfl) ?_
                  refine lv_aload_n hx hb dX2_putMark_75 rfl (lv_at hl 1 rfl) ?_
                  refine va_get (D := D) (ci := 2) (v := .ref (q 3)) (C := RX2) (T := TX2) (N := 15) hx hb hts hin2 hown hK hP 0 rfl rfl 2 (by decide) (hts (.fieldLink RX2 18 "ProofMarks$Sheet" "ticks" "[I") (List.mem_of_getElem? (i := 2) rfl)) (fun _ h9 => h9) rfl dX2_putMark_76 ?_
                  refine lv_iload_n hx hb dX2_putMark_79 rfl (lv_at hl 3 rfl) ?_
                  refine kx_iald (v := nI (pm_tk ((S 4) j7))) hx hb hK hP 3 0 rfl rfl (by omega) (by decide) rfl dX2_putMark_80 ?_
                  have := pm_tk8 ((S 4) j7)
                  refine lv_iload_n hx hb dX2_putMark_81 rfl (lv_at hl 2 rfl) ?_
                  refine lv_iload_n hx hb dX2_putMark_82 rfl (lv_at hl 4 rfl) ?_
                  refine lv_iconst (v := nI 1) hx hb dX2_putMark_83 (by decide) ?_
                  refine kx_icmp_ne (tgt := 91) hx hb (by omega) (by decide) dX2_putMark_84 (by decide) (fun c75 => ?_) (fun c75 => ?_)
                  · skip
                    refine lv_iconst (v := nI 0) hx hb dX2_putMark_91 (by decide) ?_
                    refine vp_callSi (W.runS (As := [.int (nI (pm_tk ((S 4) j7))), .int (nI j3), .int (nI 0)]) (rest := [.int (nI j7), .ref (q 3)]) ⟨hx, hb, hml, hown, hts⟩ (k_X2_withEditor l (nI (pm_tk ((S 4) j7))) (nI j3) (nI 0)) (va_cwS 3 hts gX2_putMark_X2_withEditor rfl rfl rfl hd_X2_withEditor ⟨Nat.le_of_ble_eq_true rfl, Nat.le_of_ble_eq_true rfl⟩) ⟨pm_no_blind, pm_no_pre⟩ rfl rfl hl.1 rfl (lv_room (Nat.le_of_ble_eq_true rfl)) dX2_putMark_92 ⟨Nat.le_of_ble_eq_true rfl, Nat.le_of_ble_eq_true rfl⟩) (fun r76 h77 => ?_)
                    obtain rfl : r76 = pm_we (nI (pm_tk ((S 4) j7))) (nI j3) (nI 0) := h77
                    refine lv_topi (fun x78 e79 => ?_)
                    obtain rfl : x78 = nI (pm_tk (pm_sm (S 4 j7) j3 j9)) := e79.trans ((by have h9 := pm_wet (hI.okm j7 hj7) hj3 hj9; first | (rw [if_pos (by assumption)] at h9; exact h9) | (rw [if_neg (by assumption)] at h9; exact h9)))
                    refine kx_iast (ws' := pm_sh y q (pm_vn (S 9)) (pm_vn (S 0)) (pm_vt (updN (S 4) j7 (pm_sm (S 4 j7) j3 j9))) (pm_vc (S 4)) (pm_vn (S 1)) (pm_vn (S 2)) (pm_vi (S 3)) (pm_vn (S 5)) (pm_vn (S 6)) (pm_vn (S 7)) (pm_vn (S 8)) (pm_vn (S 11)) (nI (S 10 0)) (nI (S 10 1)) (nI (S 10 2))) hx hb hK hP hD hS 3 0 rfl rfl (by omega) (by decide) (pm_vt_u (S 4) j7 (pm_sm (S 4 j7) j3 j9)) rfl dX2_putMark_95 (fun H locs hP hD hS => ?_)
                    refine lv_aload_n hx hb dX2_putMark_96 rfl (lv_at hl 1 rfl) ?_
                    refine va_get (D := D) (ci := 2) (v := .ref (q 4)) (C := RX2) (T := TX2) (N := 15) hx hb hts hin2 hown hK hP 0 rfl rfl 3 (by decide) (hts (.fieldLink RX2 21 "ProofMarks$Sheet" "crosses" "[I") (List.mem_of_getElem? (i := 3) rfl)) (fun _ h9 => h9) rfl dX2_putMark_97 ?_
                    refine lv_iload_n hx hb dX2_putMark_100 rfl (lv_at hl 3 rfl) ?_
                    refine lv_aload_n hx hb dX2_putMark_101 rfl (lv_at hl 1 rfl) ?_
                    refine va_get (D := D) (ci := 2) (v := .ref (q 4)) (C := RX2) (T := TX2) (N := 15) hx hb hts hin2 hown hK hP 0 rfl rfl 3 (by decide) (hts (.fieldLink RX2 21 "ProofMarks$Sheet" "crosses" "[I") (List.mem_of_getElem? (i := 3) rfl)) (fun _ h9 => h9) rfl dX2_putMark_102 ?_
                    refine lv_iload_n hx hb dX2_putMark_105 rfl (lv_at hl 3 rfl) ?_
                    refine kx_iald (v := nI (pm_ck ((S 4) j7))) hx hb hK hP 4 0 rfl rfl (by omega) (by decide) rfl dX2_putMark_106 ?_
                    have := pm_ck8 ((S 4) j7)
                    refine lv_iload_n hx hb dX2_putMark_107 rfl (lv_at hl 2 rfl) ?_
                    refine lv_iload_n hx hb dX2_putMark_108 rfl (lv_at hl 4 rfl) ?_
                    refine lv_iconst (v := nI 2) hx hb dX2_putMark_109 (by decide) ?_
                    refine kx_icmp_ne (tgt := 117) hx hb (by omega) (by decide) dX2_putMark_110 (by decide) (fun c80 => ?_) (fun c80 => ?_)
                    · skip
                      refine lv_iconst (v := nI 0) hx hb dX2_putMark_117 (by decide) ?_
                      refine vp_callSi (W.runS (As := [.int (nI (pm_ck ((S 4) j7))), .int (nI j3), .int (nI 0)]) (rest := [.int (nI j7), .ref (q 4)]) ⟨hx, hb, hml, hown, hts⟩ (k_X2_withEditor l (nI (pm_ck ((S 4) j7))) (nI j3) (nI 0)) (va_cwS 3 hts gX2_putMark_X2_withEditor rfl rfl rfl hd_X2_withEditor ⟨Nat.le_of_ble_eq_true rfl, Nat.le_of_ble_eq_true rfl⟩) ⟨pm_no_blind, pm_no_pre⟩ rfl rfl hl.1 rfl (lv_room (Nat.le_of_ble_eq_true rfl)) dX2_putMark_118 ⟨Nat.le_of_ble_eq_true rfl, Nat.le_of_ble_eq_true rfl⟩) (fun r81 h82 => ?_)
                      obtain rfl : r81 = pm_we (nI (pm_ck ((S 4) j7))) (nI j3) (nI 0) := h82
                      refine lv_topi (fun x83 e84 => ?_)
                      obtain rfl : x83 = nI (pm_ck (pm_sm (S 4 j7) j3 j9)) := e84.trans ((by have h9 := pm_wec (hI.okm j7 hj7) hj3 hj9; first | (rw [if_pos (by assumption)] at h9; exact h9) | (rw [if_neg (by assumption)] at h9; exact h9)))
                      refine kx_iast (ws' := pm_sh y q (pm_vn (S 9)) (pm_vn (S 0)) (pm_vt (updN (S 4) j7 (pm_sm (S 4 j7) j3 j9))) (pm_vc (updN (S 4) j7 (pm_sm (S 4 j7) j3 j9))) (pm_vn (S 1)) (pm_vn (S 2)) (pm_vi (S 3)) (pm_vn (S 5)) (pm_vn (S 6)) (pm_vn (S 7)) (pm_vn (S 8)) (pm_vn (S 11)) (nI (S 10 0)) (nI (S 10 1)) (nI (S 10 2))) hx hb hK hP hD hS 4 0 rfl rfl (by omega) (by decide) (pm_vc_u (S 4) j7 (pm_sm (S 4 j7) j3 j9)) rfl dX2_putMark_121 (fun H locs hP hD hS => ?_)
                      refine lv_iload hx hb dX2_putMark_122 (lv_at hl 0 rfl) ?_
                      have E : pm_aMark S (nI j3) (nI j7) (nI j9) = (nI (pm_mk (S 4 j7) j3), pm_st S 4 j7 (pm_sm (S 4 j7) j3 j9)) := by simp only [pm_aMark, pm_ix_in hj3 (show (3 : Nat) < 2 ^ 31 by decide), pm_ix_in hj7 (show (30 : Nat) < 2 ^ 31 by decide), pm_ix_in hj9 (show (3 : Nat) < 2 ^ 31 by decide)] <;> ((repeat' split) <;> first | rfl | (exfalso; omega))
                      exact W.iret hx hb hr (fun t ht _ => ⟨⟨_, (), rfl, (by rw [E]), (by show va_P D vwCl (pm_shS y q (pm_aMark S (nI j3) (nI j7) (nI j9)).2) t.heap; rw [ht]; exact (by rw [E]; exact hP))⟩, hS.F ht⟩) hS.2.2 dX2_putMark_124
                    · skip
                      refine lv_iconst (v := nI 1) hx hb dX2_putMark_113 (by decide) ?_
                      refine lv_goto (tgt := 118) hx hb dX2_putMark_114 (by decide) ?_
                      refine vp_callSi (W.runS (As := [.int (nI (pm_ck ((S 4) j7))), .int (nI j3), .int (nI 1)]) (rest := [.int (nI j7), .ref (q 4)]) ⟨hx, hb, hml, hown, hts⟩ (k_X2_withEditor l (nI (pm_ck ((S 4) j7))) (nI j3) (nI 1)) (va_cwS 3 hts gX2_putMark_X2_withEditor rfl rfl rfl hd_X2_withEditor ⟨Nat.le_of_ble_eq_true rfl, Nat.le_of_ble_eq_true rfl⟩) ⟨pm_no_blind, pm_no_pre⟩ rfl rfl hl.1 rfl (lv_room (Nat.le_of_ble_eq_true rfl)) dX2_putMark_118 ⟨Nat.le_of_ble_eq_true rfl, Nat.le_of_ble_eq_true rfl⟩) (fun r85 h86 => ?_)
                      obtain rfl : r85 = pm_we (nI (pm_ck ((S 4) j7))) (nI j3) (nI 1) := h86
                      refine lv_topi (fun x87 e88 => ?_)
                      obtain rfl : x87 = nI (pm_ck (pm_sm (S 4 j7) j3 j9)) := e88.trans ((by have h9 := pm_wec (hI.okm j7 hj7) hj3 hj9; first | (rw [if_pos (by assumption)] at h9; exact h9) | (rw [if_neg (by assumption)] at h9; exact h9)))
                      refine kx_iast (ws' := pm_sh y q (pm_vn (S 9)) (pm_vn (S 0)) (pm_vt (updN (S 4) j7 (pm_sm (S 4 j7) j3 j9))) (pm_vc (updN (S 4) j7 (pm_sm (S 4 j7) j3 j9))) (pm_vn (S 1)) (pm_vn (S 2)) (pm_vi (S 3)) (pm_vn (S 5)) (pm_vn (S 6)) (pm_vn (S 7)) (pm_vn (S 8)) (pm_vn (S 11)) (nI (S 10 0)) (nI (S 10 1)) (nI (S 10 2))) hx hb hK hP hD hS 4 0 rfl rfl (by omega) (by decide) (pm_vc_u (S 4) j7 (pm_sm (S 4 j7) j3 j9)) rfl dX2_putMark_121 (fun H locs hP hD hS => ?_)
                      refine lv_iload hx hb dX2_putMark_122 (lv_at hl 0 rfl) ?_
                      have E : pm_aMark S (nI j3) (nI j7) (nI j9) = (nI (pm_mk (S 4 j7) j3), pm_st S 4 j7 (pm_sm (S 4 j7) j3 j9)) := by simp only [pm_aMark, pm_ix_in hj3 (show (3 : Nat) < 2 ^ 31 by decide), pm_ix_in hj7 (show (30 : Nat) < 2 ^ 31 by decide), pm_ix_in hj9 (show (3 : Nat) < 2 ^ 31 by decide)] <;> ((repeat' split) <;> first | rfl | (exfalso; omega))
                      exact W.iret hx hb hr (fun t ht _ => ⟨⟨_, (), rfl, (by rw [E]), (by show va_P D vwCl (pm_shS y q (pm_aMark S (nI j3) (nI j7) (nI j9)).2) t.heap; rw [ht]; exact (by rw [E]; exact hP))⟩, hS.F ht⟩) hS.2.2 dX2_putMark_124
                  · skip
                    refine lv_iconst (v := nI 1) hx hb dX2_putMark_87 (by decide) ?_
                    refine lv_goto (tgt := 92) hx hb dX2_putMark_88 (by decide) ?_
                    refine vp_callSi (W.runS (As := [.int (nI (pm_tk ((S 4) j7))), .int (nI j3), .int (nI 1)]) (rest := [.int (nI j7), .ref (q 3)]) ⟨hx, hb, hml, hown, hts⟩ (k_X2_withEditor l (nI (pm_tk ((S 4) j7))) (nI j3) (nI 1)) (va_cwS 3 hts gX2_putMark_X2_withEditor rfl rfl rfl hd_X2_withEditor ⟨Nat.le_of_ble_eq_true rfl, Nat.le_of_ble_eq_true rfl⟩) ⟨pm_no_blind, pm_no_pre⟩ rfl rfl hl.1 rfl (lv_room (Nat.le_of_ble_eq_true rfl)) dX2_putMark_92 ⟨Nat.le_of_ble_eq_true rfl, Nat.le_of_ble_eq_true rfl⟩) (fun r89 h90 => ?_)
                    obtain rfl : r89 = pm_we (nI (pm_tk ((S 4) j7))) (nI j3) (nI 1) := h90
                    refine lv_topi (fun x91 e92 => ?_)
                    obtain rfl : x91 = nI (pm_tk (pm_sm (S 4 j7) j3 j9)) := e92.trans ((by have h9 := pm_wet (hI.okm j7 hj7) hj3 hj9; first | (rw [if_pos (by assumption)] at h9; exact h9) | (rw [if_neg (by assumption)] at h9; exact h9)))
                    refine kx_iast (ws' := pm_sh y q (pm_vn (S 9)) (pm_vn (S 0)) (pm_vt (updN (S 4) j7 (pm_sm (S 4 j7) j3 j9))) (pm_vc (S 4)) (pm_vn (S 1)) (pm_vn (S 2)) (pm_vi (S 3)) (pm_vn (S 5)) (pm_vn (S 6)) (pm_vn (S 7)) (pm_vn (S 8)) (pm_vn (S 11)) (nI (S 10 0)) (nI (S 10 1)) (nI (S 10 2))) hx hb hK hP hD hS 3 0 rfl rfl (by omega) (by decide) (pm_vt_u (S 4) j7 (pm_sm (S 4 j7) j3 j9)) rfl dX2_putMark_95 (fun H locs hP hD hS => ?_)
                    refine lv_aload_n hx hb dX2_putMark_96 rfl (lv_at hl 1 rfl) ?_
                    refine va_get (D := D) (ci := 2) (v := .ref (q 4)) (C := RX2) (T := TX2) (N := 15) hx hb hts hin2 hown hK hP 0 rfl rfl 3 (by decide) (hts (.fieldLink RX2 21 "ProofMarks$Sheet" "crosses" "[I") (List.mem_of_getElem? (i := 3) rfl)) (fun _ h9 => h9) rfl dX2_putMark_97 ?_
                    refine lv_iload_n hx hb dX2_putMark_100 rfl (lv_at hl 3 rfl) ?_
                    refine lv_aload_n hx hb dX2_putMark_101 rfl (lv_at hl 1 rfl) ?_
                    refine va_get (D := D) (ci := 2) (v := .ref (q 4)) (C := RX2) (T := TX2) (N := 15) hx hb hts hin2 hown hK hP 0 rfl rfl 3 (by decide) (hts (.fieldLink RX2 21 "ProofMarks$Sheet" "crosses" "[I") (List.mem_of_getElem? (i := 3) rfl)) (fun _ h9 => h9) rfl dX2_putMark_102 ?_
                    refine lv_iload_n hx hb dX2_putMark_105 rfl (lv_at hl 3 rfl) ?_
                    refine kx_iald (v := nI (pm_ck ((S 4) j7))) hx hb hK hP 4 0 rfl rfl (by omega) (by decide) rfl dX2_putMark_106 ?_
                    have := pm_ck8 ((S 4) j7)
                    refine lv_iload_n hx hb dX2_putMark_107 rfl (lv_at hl 2 rfl) ?_
                    refine lv_iload_n hx hb dX2_putMark_108 rfl (lv_at hl 4 rfl) ?_
                    refine lv_iconst (v := nI 2) hx hb dX2_putMark_109 (by decide) ?_
                    refine kx_icmp_ne (tgt := 117) hx hb (by omega) (by decide) dX2_putMark_110 (by decide) (fun c93 => ?_) (fun c93 => ?_)
                    · skip
                      refine lv_iconst (v := nI 0) hx hb dX2_putMark_117 (by decide) ?_
                      refine vp_callSi (W.runS (As := [.int (nI (pm_ck ((S 4) j7))), .int (nI j3), .int (nI 0)]) (rest := [.int (nI j7), .ref (q 4)]) ⟨hx, hb, hml, hown, hts⟩ (k_X2_withEditor l (nI (pm_ck ((S 4) j7))) (nI j3) (nI 0)) (va_cwS 3 hts gX2_putMark_X2_withEditor rfl rfl rfl hd_X2_withEditor ⟨Nat.le_of_ble_eq_true rfl, Nat.le_of_ble_eq_true rfl⟩) ⟨pm_no_blind, pm_no_pre⟩ rfl rfl hl.1 rfl (lv_room (Nat.le_of_ble_eq_true rfl)) dX2_putMark_118 ⟨Nat.le_of_ble_eq_true rfl, Nat.le_of_ble_eq_true rfl⟩) (fun r94 h95 => ?_)
                      obtain rfl : r94 = pm_we (nI (pm_ck ((S 4) j7))) (nI j3) (nI 0) := h95
                      refine lv_topi (fun x96 e97 => ?_)
                      obtain rfl : x96 = nI (pm_ck (pm_sm (S 4 j7) j3 j9)) := e97.trans ((by have h9 := pm_wec (hI.okm j7 hj7) hj3 hj9; first | (rw [if_pos (by assumption)] at h9; exact h9) | (rw [if_neg (by assumption)] at h9; exact h9)))
                      refine kx_iast (ws' := pm_sh y q (pm_vn (S 9)) (pm_vn (S 0)) (pm_vt (updN (S 4) j7 (pm_sm (S 4 j7) j3 j9))) (pm_vc (updN (S 4) j7 (pm_sm (S 4 j7) j3 j9))) (pm_vn (S 1)) (pm_vn (S 2)) (pm_vi (S 3)) (pm_vn (S 5)) (pm_vn (S 6)) (pm_vn (S 7)) (pm_vn (S 8)) (pm_vn (S 11)) (nI (S 10 0)) (nI (S 10 1)) (nI (S 10 2))) hx hb hK hP hD hS 4 0 rfl rfl (by omega) (by decide) (pm_vc_u (S 4) j7 (pm_sm (S 4 j7) j3 j9)) rfl dX2_putMark_121 (fun H locs hP hD hS => ?_)
                      refine lv_iload hx hb dX2_putMark_122 (lv_at hl 0 rfl) ?_
                      have E : pm_aMark S (nI j3) (nI j7) (nI j9) = (nI (pm_mk (S 4 j7) j3), pm_st S 4 j7 (pm_sm (S 4 j7) j3 j9)) := by simp only [pm_aMark, pm_ix_in hj3 (show (3 : Nat) < 2 ^ 31 by decide), pm_ix_in hj7 (show (30 : Nat) < 2 ^ 31 by decide), pm_ix_in hj9 (show (3 : Nat) < 2 ^ 31 by decide)] <;> ((repeat' split) <;> first | rfl | (exfalso; omega))
                      exact W.iret hx hb hr (fun t ht _ => ⟨⟨_, (), rfl, (by rw [E]), (by show va_P D vwCl (pm_shS y q (pm_aMark S (nI j3) (nI j7) (nI j9)).2) t.heap; rw [ht]; exact (by rw [E]; exact hP))⟩, hS.F ht⟩) hS.2.2 dX2_putMark_124
                    · skip
                      refine lv_iconst (v := nI 1) hx hb dX2_putMark_113 (by decide) ?_
                      refine lv_goto (tgt := 118) hx hb dX2_putMark_114 (by decide) ?_
                      refine vp_callSi (W.runS (As := [.int (nI (pm_ck ((S 4) j7))), .int (nI j3), .int (nI 1)]) (rest := [.int (nI j7), .ref (q 4)]) ⟨hx, hb, hml, hown, hts⟩ (k_X2_withEditor l (nI (pm_ck ((S 4) j7))) (nI j3) (nI 1)) (va_cwS 3 hts gX2_putMark_X2_withEditor rfl rfl rfl hd_X2_withEditor ⟨Nat.le_of_ble_eq_true rfl, Nat.le_of_ble_eq_true rfl⟩) ⟨pm_no_blind, pm_no_pre⟩ rfl rfl hl.1 rfl (lv_room (Nat.le_of_ble_eq_true rfl)) dX2_putMark_118 ⟨Nat.le_of_ble_eq_true rfl, Nat.le_of_ble_eq_true rfl⟩) (fun r98 h99 => ?_)
                      obtain rfl : r98 = pm_we (nI (pm_ck ((S 4) j7))) (nI j3) (nI 1) := h99
                      refine lv_topi (fun x100 e101 => ?_)
                      obtain rfl : x100 = nI (pm_ck (pm_sm (S 4 j7) j3 j9)) := e101.trans ((by have h9 := pm_wec (hI.okm j7 hj7) hj3 hj9; first | (rw [if_pos (by assumption)] at h9; exact h9) | (rw [if_neg (by assumption)] at h9; exact h9)))
                      refine kx_iast (ws' := pm_sh y q (pm_vn (S 9)) (pm_vn (S 0)) (pm_vt (updN (S 4) j7 (pm_sm (S 4 j7) j3 j9))) (pm_vc (updN (S 4) j7 (pm_sm (S 4 j7) j3 j9))) (pm_vn (S 1)) (pm_vn (S 2)) (pm_vi (S 3)) (pm_vn (S 5)) (pm_vn (S 6)) (pm_vn (S 7)) (pm_vn (S 8)) (pm_vn (S 11)) (nI (S 10 0)) (nI (S 10 1)) (nI (S 10 2))) hx hb hK hP hD hS 4 0 rfl rfl (by omega) (by decide) (pm_vc_u (S 4) j7 (pm_sm (S 4 j7) j3 j9)) rfl dX2_putMark_121 (fun H locs hP hD hS => ?_)
                      refine lv_iload hx hb dX2_putMark_122 (lv_at hl 0 rfl) ?_
                      have E : pm_aMark S (nI j3) (nI j7) (nI j9) = (nI (pm_mk (S 4 j7) j3), pm_st S 4 j7 (pm_sm (S 4 j7) j3 j9)) := by simp only [pm_aMark, pm_ix_in hj3 (show (3 : Nat) < 2 ^ 31 by decide), pm_ix_in hj7 (show (30 : Nat) < 2 ^ 31 by decide), pm_ix_in hj9 (show (3 : Nat) < 2 ^ 31 by decide)] <;> ((repeat' split) <;> first | rfl | (exfalso; omega))
                      exact W.iret hx hb hr (fun t ht _ => ⟨⟨_, (), rfl, (by rw [E]), (by show va_P D vwCl (pm_shS y q (pm_aMark S (nI j3) (nI j7) (nI j9)).2) t.heap; rw [ht]; exact (by rw [E]; exact hP))⟩, hS.F ht⟩) hS.2.2 dX2_putMark_124
                · skip
                  refine lv_bipush (v := (-4)) hx hb dX2_putMark_67 (by decide) ?_
                  have E : pm_aMark S (nI j3) (nI j7) (nI j9) = ((-4), S) := by simp only [pm_aMark, pm_ix_in hj3 (show (3 : Nat) < 2 ^ 31 by decide), pm_ix_in hj7 (show (30 : Nat) < 2 ^ 31 by decide), pm_ix_in hj9 (show (3 : Nat) < 2 ^ 31 by decide)] <;> ((repeat' split) <;> first | rfl | (exfalso; omega))
                  exact W.iret hx hb hr (fun t ht _ => ⟨⟨_, (), rfl, (by rw [E]), (by show va_P D vwCl (pm_shS y q (pm_aMark S (nI j3) (nI j7) (nI j9)).2) t.heap; rw [ht]; exact (by rw [E]; exact hP))⟩, hS.F ht⟩) hS.2.2 dX2_putMark_69
          · skip
            refine lv_bipush (v := (-5)) hx hb dX2_putMark_37 (by decide) ?_
            have E : pm_aMark S (nI j3) (nI j7) (nI j9) = ((-5), S) := by simp only [pm_aMark, pm_ix_in hj3 (show (3 : Nat) < 2 ^ 31 by decide), pm_ix_in hj7 (show (30 : Nat) < 2 ^ 31 by decide), pm_ix_in hj9 (show (3 : Nat) < 2 ^ 31 by decide)] <;> ((repeat' split) <;> first | rfl | (exfalso; omega))
            exact W.iret hx hb hr (fun t ht _ => ⟨⟨_, (), rfl, (by rw [E]), (by show va_P D vwCl (pm_shS y q (pm_aMark S (nI j3) (nI j7) (nI j9)).2) t.heap; rw [ht]; exact (by rw [E]; exact hP))⟩, hS.F ht⟩) hS.2.2 dX2_putMark_39
        · skip
          refine lv_bipush (v := (-2)) hx hb dX2_putMark_25 (by decide) ?_
          have E : pm_aMark S (nI j3) (nI j7) (nI j9) = ((-2), S) := by simp only [pm_aMark, pm_ix_in hj3 (show (3 : Nat) < 2 ^ 31 by decide), pm_ix_in hj7 (show (30 : Nat) < 2 ^ 31 by decide), pm_ix_in hj9 (show (3 : Nat) < 2 ^ 31 by decide)] <;> ((repeat' split) <;> first | rfl | (exfalso; omega))
          exact W.iret hx hb hr (fun t ht _ => ⟨⟨_, (), rfl, (by rw [E]), (by show va_P D vwCl (pm_shS y q (pm_aMark S (nI j3) (nI j7) (nI j9)).2) t.heap; rw [ht]; exact (by rw [E]; exact hP))⟩, hS.F ht⟩) hS.2.2 dX2_putMark_27
    · skip
      refine lv_if_ne (tgt := 16) hx hb dX2_putMark_11 (by decide) (fun c102 => (c102 (by decide)).elim) (fun _ => ?_)
      refine lv_iconst (v := -1) hx hb dX2_putMark_14 (by decide) ?_
      have E : pm_aMark S (nI j3) xf xm = (-1, S) := by simp only [pm_aMark, pm_ix_in hj3 (show (3 : Nat) < 2 ^ 31 by decide), pm_ix_out hnj7] <;> ((repeat' split) <;> first | rfl | (exfalso; omega))
      exact W.iret hx hb hr (fun t ht _ => ⟨⟨_, (), rfl, (by rw [E]), (by show va_P D vwCl (pm_shS y q (pm_aMark S (nI j3) xf xm).2) t.heap; rw [ht]; exact (by rw [E]; exact hP))⟩, hS.F ht⟩) hS.2.2 dX2_putMark_15
  · skip
    refine lv_if_eq (tgt := 14) hx hb dX2_putMark_4 (by decide) (fun _ => ?_) (fun c103 => (c103 (by decide)).elim)
    refine lv_iconst (v := -1) hx hb dX2_putMark_14 (by decide) ?_
    have E : pm_aMark S xe xf xm = (-1, S) := by simp only [pm_aMark, pm_ix_out hnj3] <;> ((repeat' split) <;> first | rfl | (exfalso; omega))
    exact W.iret hx hb hr (fun t ht _ => ⟨⟨_, (), rfl, (by rw [E]), (by show va_P D vwCl (pm_shS y q (pm_aMark S xe xf xm).2) t.heap; rw [ht]; exact (by rw [E]; exact hP))⟩, hS.F ht⟩) hS.2.2 dX2_putMark_15

set_option maxHeartbeats 4000000 in
set_option maxRecDepth 100000 in
theorem k_X2_printFrame (l : Launch) (D : va_G) (y : Nat → ClassId) (q : Nat → Nat) (S : Nat → Nat → Nat) (xf xz : Int32) (hI : pm_Inv S) : Met l yX2_printFrame wsX2_printFrame ({ frames := 1, cells := 0, slots := 0, locals := 20 } : Room) (pm_wr D (pm_ty y) [.ref (q 0), .int xf, .int xz] (pm_shS y q S)) (pm_Qi D (fun (r : Int32) (_ : Unit) => r = (pm_aPrint S xf xz).1) (fun (_ : Unit) => pm_shS y q (pm_aPrint S xf xz).2) (pm_shS y q S)) 0 0 (pm_ad (pm_shS y q S)) := by
  refine Met.ofW (cc := cX2_printFrame) (maxL := 4) (ret := (some .int)) (by decide) rfl ?_
  intro p e s m args below meth c s₁ B hml hpre
  obtain ⟨rfl, hP, hK, hD0⟩ := hpre
  have hx := B.exec
  have hb := B.bytes
  have hr := B.returns
  have hts := atoms_spec (ws := wsX2_printFrame) B.pre
  have hown : s.vm.findClass RX2 = some m.cls := findClass_of_methodNamed B.named
  have hlocks := B.notSynchronized
  have hin2 : ∀ w ∈ u_ws RX2 TX2 15, w ∈ wsX2_printFrame := fun w h => List.mem_cons_of_mem _ (List.mem_append_right _ h)
  have hD := pm_ad_self hD0
  have hS : va_S (pm_ad (pm_shS y q S)) s.heap s.heap [] := va_S.rf
  have hP : va_P D vwCl (pm_shS y q S) s.heap := hP
  have hl := lv_entry ([.ref (q 0), .int xf, .int xz]) (n := 4) (Nat.le_of_ble_eq_true rfl)
  rw [lg_entry_eq]
  generalize (lg_sl ([.ref (q 0), .int xf, .int xz]) ++ List.replicate (4 - (lg_sl ([.ref (q 0), .int xf, .int xz])).length) Slot.unset).toArray = ls at hl ⊢
  have hl : lv_has ls 4 [(0, .ref (q 0)), (1, .int xf), (2, .int xz)] := hl
  refine lv_iload_n hx hb dX2_printFrame_0 rfl (lv_at hl 1 rfl) ?_
  refine vp_callSi (W.runS (As := [.int xf]) (rest := []) ⟨hx, hb, hml, hown, hts⟩ (k_X2_isFrame l xf) (va_cwS 1 hts gX2_printFrame_X2_isFrame rfl rfl rfl hd_X2_isFrame ⟨Nat.le_of_ble_eq_true rfl, Nat.le_of_ble_eq_true rfl⟩) ⟨pm_no_blind, pm_no_pre⟩ rfl rfl hl.1 rfl (lv_room (Nat.le_of_ble_eq_true rfl)) dX2_printFrame_1 ⟨Nat.le_of_ble_eq_true rfl, Nat.le_of_ble_eq_true rfl⟩) (fun r1 h2 => ?_)
  rcases h2 with ⟨j3, hj3, ej3, rfl⟩ | ⟨hnj3, rfl⟩
  · subst ej3
    refine lv_if_ne (tgt := 9) hx hb dX2_printFrame_4 (by decide) (fun _ => ?_) (fun c4 => absurd c4 (by decide))
    rcases pm_cases xz (n := 4) (by decide) with hnj5 | ⟨j5, hj5, rfl⟩
    · skip
      refine lv_iload_n hx hb dX2_printFrame_9 rfl (lv_at hl 2 rfl) ?_
      refine lv_iconst (v := nI 1) hx hb dX2_printFrame_10 (by decide) ?_
      refine lv_icmp_lt (tgt := 19) hx hb dX2_printFrame_11 (by decide) (fun c6 => ?_) (fun c6 => ?_)
      · skip
        refine lv_bipush (v := (-2)) hx hb dX2_printFrame_19 (by decide) ?_
        have E : pm_aPrint S (nI j3) xz = ((-2), S) := by simp only [pm_aPrint, pm_ix_in hj3 (show (30 : Nat) < 2 ^ 31 by decide), pm_ix_out hnj5] <;> ((repeat' split) <;> first | rfl | (exfalso; omega))
        exact W.iret hx hb hr (fun t ht _ => ⟨⟨_, (), rfl, (by rw [E]), (by show va_P D vwCl (pm_shS y q (pm_aPrint S (nI j3) xz).2) t.heap; rw [ht]; exact (by rw [E]; exact hP))⟩, hS.F ht⟩) hS.2.2 dX2_printFrame_21
      · skip
        refine lv_iload_n hx hb dX2_printFrame_14 rfl (lv_at hl 2 rfl) ?_
        refine lv_iconst (v := nI 3) hx hb dX2_printFrame_15 (by decide) ?_
        refine lv_icmp_le (tgt := 22) hx hb dX2_printFrame_16 (by decide) (fun c7 => by exfalso; exact pm_lead1 (n := 3) hnj5 (by decide) (by assumption) (by assumption)) (fun c7 => ?_)
        refine lv_bipush (v := (-2)) hx hb dX2_printFrame_19 (by decide) ?_
        have E : pm_aPrint S (nI j3) xz = ((-2), S) := by simp only [pm_aPrint, pm_ix_in hj3 (show (30 : Nat) < 2 ^ 31 by decide), pm_ix_out hnj5] <;> ((repeat' split) <;> first | rfl | (exfalso; omega))
        exact W.iret hx hb hr (fun t ht _ => ⟨⟨_, (), rfl, (by rw [E]), (by show va_P D vwCl (pm_shS y q (pm_aPrint S (nI j3) xz).2) t.heap; rw [ht]; exact (by rw [E]; exact hP))⟩, hS.F ht⟩) hS.2.2 dX2_printFrame_21
    · skip
      refine lv_iload_n hx hb dX2_printFrame_9 rfl (lv_at hl 2 rfl) ?_
      refine lv_iconst (v := nI 1) hx hb dX2_printFrame_10 (by decide) ?_
      refine kx_icmp_lt (tgt := 19) hx hb (by omega) (by decide) dX2_printFrame_11 (by decide) (fun c8 => ?_) (fun c8 => ?_)
      · skip
        refine lv_bipush (v := (-2)) hx hb dX2_printFrame_19 (by decide) ?_
        have E : pm_aPrint S (nI j3) (nI j5) = ((-2), S) := by simp only [pm_aPrint, pm_ix_in hj3 (show (30 : Nat) < 2 ^ 31 by decide), pm_ix_in hj5 (show (4 : Nat) < 2 ^ 31 by decide)] <;> ((repeat' split) <;> first | rfl | (exfalso; omega))
        exact W.iret hx hb hr (fun t ht _ => ⟨⟨_, (), rfl, (by rw [E]), (by show va_P D vwCl (pm_shS y q (pm_aPrint S (nI j3) (nI j5)).2) t.heap; rw [ht]; exact (by rw [E]; exact hP))⟩, hS.F ht⟩) hS.2.2 dX2_printFrame_21
      · skip
        refine lv_iload_n hx hb dX2_printFrame_14 rfl (lv_at hl 2 rfl) ?_
        refine lv_iconst (v := nI 3) hx hb dX2_printFrame_15 (by decide) ?_
        refine kx_icmp_le (tgt := 22) hx hb (by omega) (by decide) dX2_printFrame_16 (by decide) (fun c9 => ?_) (fun c9 => ?_)
        · skip
          refine lv_iload_n hx hb dX2_printFrame_22 rfl (lv_at hl 2 rfl) ?_
          refine vp_callSi (W.runS (As := [.int (nI j5)]) (rest := []) ⟨hx, hb, hml, hown, hts⟩ (k_X2_paperOf l j5) (va_cwS 1 hts gX2_printFrame_X2_paperOf rfl rfl rfl hd_X2_paperOf ⟨Nat.le_of_ble_eq_true rfl, Nat.le_of_ble_eq_true rfl⟩) ⟨pm_no_blind, pm_no_pre⟩ rfl rfl hl.1 rfl (lv_room (Nat.le_of_ble_eq_true rfl)) dX2_printFrame_23 ⟨Nat.le_of_ble_eq_true rfl, Nat.le_of_ble_eq_true rfl⟩) (fun r10 h11 => ?_)
          obtain rfl : r10 = nI (10 * j5 * j5) := h11
          have hz90 : 10 * j5 * j5 ≤ 90 := by rcases (show j5 = 0 ∨ j5 = 1 ∨ j5 = 2 ∨ j5 = 3 by omega) with h | h | h | h <;> rw [h] <;> decide
          refine lv_istore_n (lv' := [(3, .int (nI (10 * j5 * j5))), (0, .ref (q 0)), (1, .int (nI j3)), (2, .int (nI j5))]) hx hb dX2_printFrame_26 rfl hl (by decide) rfl (fun ls hl => ?_)
          refine lv_aload_n hx hb dX2_printFrame_27 rfl (lv_at hl 1 rfl) ?_
          refine va_get (D := D) (ci := 2) (v := .ref (q 2)) (C := RX2) (T := TX2) (N := 15) hx hb hts hin2 hown hK hP 0 rfl rfl 1 (by decide) (hts (.fieldLink RX2 15 "ProofMarks$Sheet" "how" "[I") (List.mem_of_getElem? (i := 1) rfl)) (fun _ h9 => h9) rfl dX2_printFrame_28 ?_
          refine lv_iload_n hx hb dX2_printFrame_31 rfl (lv_at hl 2 rfl) ?_
          refine kx_iald (v := nI ((S 0) j3)) hx hb hK hP 2 0 rfl rfl (by omega) (by decide) rfl dX2_printFrame_32 ?_
          have := hI.how j3 (by omega)
          refine lv_iconst (v := nI 1) hx hb dX2_printFrame_33 (by decide) ?_
          refine kx_icmp_ne (tgt := 55) hx hb (by omega) (by decide) dX2_printFrame_34 (by decide) (fun c12 => ?_) (fun c12 => ?_)
          · skip
            refine lv_bipush (v := (-5)) hx hb dX2_printFrame_55 (by decide) ?_
            have E : pm_aPrint S (nI j3) (nI j5) = ((-5), S) := by simp only [pm_aPrint, pm_ix_in hj3 (show (30 : Nat) < 2 ^ 31 by decide), pm_ix_in hj5 (show (4 : Nat) < 2 ^ 31 by decide)] <;> ((repeat' split) <;> first | rfl | (exfalso; omega))
            exact W.iret hx hb hr (fun t ht _ => ⟨⟨_, (), rfl, (by rw [E]), (by show va_P D vwCl (pm_shS y q (pm_aPrint S (nI j3) (nI j5)).2) t.heap; rw [ht]; exact (by rw [E]; exact hP))⟩, hS.F ht⟩) hS.2.2 dX2_printFrame_57
          · skip
            refine lv_iload_n hx hb dX2_printFrame_37 rfl (lv_at hl 3 rfl) ?_
            refine lv_aload_n hx hb dX2_printFrame_38 rfl (lv_at hl 1 rfl) ?_
            refine va_get (D := D) (ci := 2) (v := .ref (q 6)) (C := RX2) (T := TX2) (N := 15) hx hb hts hin2 hown hK hP 0 rfl rfl 5 (by decide) (hts (.fieldLink RX2 27 "ProofMarks$Sheet" "sizes" "[I") (List.mem_of_getElem? (i := 2) rfl)) (fun _ h9 => h9) rfl dX2_printFrame_39 ?_
            refine lv_iload_n hx hb dX2_printFrame_42 rfl (lv_at hl 2 rfl) ?_
            refine kx_iald (v := nI ((S 2) j3)) hx hb hK hP 6 0 rfl rfl (by omega) (by decide) rfl dX2_printFrame_43 ?_
            have := hI.size j3 (by omega)
            refine kx_icmp_gt (tgt := 55) hx hb (by omega) (by omega) dX2_printFrame_44 (by decide) (fun c13 => ?_) (fun c13 => ?_)
            · skip
              refine lv_bipush (v := (-5)) hx hb dX2_printFrame_55 (by decide) ?_
              have E : pm_aPrint S (nI j3) (nI j5) = ((-5), S) := by simp only [pm_aPrint, pm_ix_in hj3 (show (30 : Nat) < 2 ^ 31 by decide), pm_ix_in hj5 (show (4 : Nat) < 2 ^ 31 by decide)] <;> ((repeat' split) <;> first | rfl | (exfalso; omega))
              exact W.iret hx hb hr (fun t ht _ => ⟨⟨_, (), rfl, (by rw [E]), (by show va_P D vwCl (pm_shS y q (pm_aPrint S (nI j3) (nI j5)).2) t.heap; rw [ht]; exact (by rw [E]; exact hP))⟩, hS.F ht⟩) hS.2.2 dX2_printFrame_57
            · skip
              refine lv_iload_n hx hb dX2_printFrame_47 rfl (lv_at hl 0 rfl) ?_
              refine lv_aload_n hx hb dX2_printFrame_48 rfl (lv_at hl 1 rfl) ?_
              refine va_get (D := D) (ci := 2) (v := .int (nI (S 10 1))) (C := RX2) (T := TX2) (N := 15) hx hb hts hin2 hown hK hP 0 rfl rfl 13 (by decide) (hts (.fieldLink RX2 52 "ProofMarks$Sheet" "paper" "I") (List.mem_of_getElem? (i := 3) rfl)) (fun _ h9 => h9) rfl dX2_printFrame_49 ?_
              have := hI.pap
              refine kx_icmp_le (tgt := 58) hx hb (by omega) (by omega) dX2_printFrame_52 (by decide) (fun c14 => ?_) (fun c14 => ?_)
              · skip
                refine lv_aload_n hx hb dX2_printFrame_58 rfl (lv_at hl 1 rfl) ?_
                refine va_get (D := D) (ci := 2) (v := .ref (q 2)) (C := RX2) (T := TX2) (N := 15) hx hb hts hin2 hown hK hP 0 rfl rfl 1 (by decide) (hts (.fieldLink RX2 15 "ProofMarks$Sheet" "how" "[I") (List.mem_of_getElem? (i := 1) rfl)) (fun _ h9 => h9) rfl dX2_printFrame_59 ?_
                refine lv_iload_n hx hb dX2_printFrame_62 rfl (lv_at hl 2 rfl) ?_
                refine lv_iconst (v := nI 3) hx hb dX2_printFrame_63 (by decide) ?_
                refine kx_iast (ws' := pm_sh y q (pm_vn (S 9)) (pm_vn (updN (S 0) j3 3)) (pm_vt (S 4)) (pm_vc (S 4)) (pm_vn (S 1)) (pm_vn (S 2)) (pm_vi (S 3)) (pm_vn (S 5)) (pm_vn (S 6)) (pm_vn (S 7)) (pm_vn (S 8)) (pm_vn (S 11)) (nI (S 10 0)) (nI (S 10 1)) (nI (S 10 2))) hx hb hK hP hD hS 2 0 rfl rfl (by omega) (by decide) (pm_vn_u (S 0) j3 3) rfl dX2_printFrame_64 (fun H locs hP hD hS => ?_)
                refine lv_aload_n hx hb dX2_printFrame_65 rfl (lv_at hl 1 rfl) ?_
                refine va_get (D := D) (ci := 2) (v := .ref (q 6)) (C := RX2) (T := TX2) (N := 15) hx hb hts hin2 hown hK hP 0 rfl rfl 5 (by decide) (hts (.fieldLink RX2 27 "ProofMarks$Sheet" "sizes" "[I") (List.mem_of_getElem? (i := 2) rfl)) (fun _ h9 => h9) rfl dX2_printFrame_66 ?_
                refine lv_iload_n hx hb dX2_printFrame_69 rfl (lv_at hl 2 rfl) ?_
                refine lv_iload_n hx hb dX2_printFrame_70 rfl (lv_at hl 3 rfl) ?_
                refine kx_iast (ws' := pm_sh y q (pm_vn (S 9)) (pm_vn (updN (S 0) j3 3)) (pm_vt (S 4)) (pm_vc (S 4)) (pm_vn (S 1)) (pm_vn (updN (S 2) j3 j5)) (pm_vi (S 3)) (pm_vn (S 5)) (pm_vn (S 6)) (pm_vn (S 7)) (pm_vn (S 8)) (pm_vn (S 11)) (nI (S 10 0)) (nI (S 10 1)) (nI (S 10 2))) hx hb hK hP hD hS 6 0 rfl rfl (by omega) (by decide) (pm_vn_u (S 2) j3 j5) rfl dX2_printFrame_71 (fun H locs hP hD hS => ?_)
                refine lv_aload_n hx hb dX2_printFrame_72 rfl (lv_at hl 1 rfl) ?_
                refine va_get (D := D) (ci := 2) (v := .ref (q 12)) (C := RX2) (T := TX2) (N := 15) hx hb hts hin2 hown hK hP 0 rfl rfl 11 (by decide) (hts (.fieldLink RX2 45 "ProofMarks$Sheet" "prints" "[I") (List.mem_of_getElem? (i := 4) rfl)) (fun _ h9 => h9) rfl dX2_printFrame_73 ?_
                refine lv_iload_n hx hb dX2_printFrame_76 rfl (lv_at hl 3 rfl) ?_
                refine lv_dup2_11 hx hb dX2_printFrame_77 rfl rfl ?_
                refine kx_iald (v := nI ((S 11) j5)) hx hb hK hP 12 0 rfl rfl (by omega) (by decide) rfl dX2_printFrame_78 ?_
                refine lv_iconst (v := nI 1) hx hb dX2_printFrame_79 (by decide) ?_
                refine kx_iadd hx hb dX2_printFrame_80 ?_
                refine kx_iast (ws' := pm_sh y q (pm_vn (S 9)) (pm_vn (updN (S 0) j3 3)) (pm_vt (S 4)) (pm_vc (S 4)) (pm_vn (S 1)) (pm_vn (updN (S 2) j3 j5)) (pm_vi (S 3)) (pm_vn (S 5)) (pm_vn (S 6)) (pm_vn (S 7)) (pm_vn (S 8)) (pm_vn (updN (S 11) j5 (((S 11) j5) + 1))) (nI (S 10 0)) (nI (S 10 1)) (nI (S 10 2))) hx hb hK hP hD hS 12 0 rfl rfl (by omega) (by decide) (pm_vn_u (S 11) j5 (((S 11) j5) + 1)) rfl dX2_printFrame_81 (fun H locs hP hD hS => ?_)
                refine lv_aload_n hx hb dX2_printFrame_82 rfl (lv_at hl 1 rfl) ?_
                refine lv_dup hx hb dX2_printFrame_83 rfl ?_
                refine va_get (D := D) (ci := 2) (v := .int (nI (S 10 1))) (C := RX2) (T := TX2) (N := 15) hx hb hts hin2 hown hK hP 0 rfl rfl 13 (by decide) (hts (.fieldLink RX2 52 "ProofMarks$Sheet" "paper" "I") (List.mem_of_getElem? (i := 3) rfl)) (fun _ h9 => h9) rfl dX2_printFrame_84 ?_
                refine lv_iload_n hx hb dX2_printFrame_87 rfl (lv_at hl 0 rfl) ?_
                refine kx_isub hx hb (by omega) dX2_printFrame_88 ?_
                refine kx_put (D := D) (ci := 2) (v := .int (nI ((S 10 1) - (10 * j5 * j5)))) (ty := .int) (ws' := pm_sh y q (pm_vn (S 9)) (pm_vn (updN (S 0) j3 3)) (pm_vt (S 4)) (pm_vc (S 4)) (pm_vn (S 1)) (pm_vn (updN (S 2) j3 j5)) (pm_vi (S 3)) (pm_vn (S 5)) (pm_vn (S 6)) (pm_vn (S 7)) (pm_vn (S 8)) (pm_vn (updN (S 11) j5 (((S 11) j5) + 1))) (nI (S 10 0)) (nI ((S 10 1) - (10 * j5 * j5))) (nI (S 10 2))) (C := RX2) (T := TX2) (N := 15) hx hb hts hin2 tyX2 tyX2_ok nmX2 hown hK hP hD hS 0 rfl rfl 13 (by decide) (hts (.fieldLink RX2 52 "ProofMarks$Sheet" "paper" "I") (List.mem_of_getElem? (i := 3) rfl)) (fun _ h9 => h9) rfl (by decide +kernel) rfl rfl (Nat.le_of_ble_eq_true rfl) rfl dX2_printFrame_89 (fun H locs hP hD hS => ?_)
                refine lv_aload_n hx hb dX2_printFrame_92 rfl (lv_at hl 1 rfl) ?_
                refine lv_dup hx hb dX2_printFrame_93 rfl ?_
                refine va_get (D := D) (ci := 2) (v := .int (nI (S 10 2))) (C := RX2) (T := TX2) (N := 15) hx hb hts hin2 hown hK hP 0 rfl rfl 14 (by decide) (hts (.fieldLink RX2 55 "ProofMarks$Sheet" "paperTaken" "I") (List.mem_of_getElem? (i := 5) rfl)) (fun _ h9 => h9) rfl dX2_printFrame_94 ?_
                refine lv_iload_n hx hb dX2_printFrame_97 rfl (lv_at hl 0 rfl) ?_
                refine kx_iadd hx hb dX2_printFrame_98 ?_
                refine kx_put (D := D) (ci := 2) (v := .int (nI ((S 10 2) + (10 * j5 * j5)))) (ty := .int) (ws' := pm_sh y q (pm_vn (S 9)) (pm_vn (updN (S 0) j3 3)) (pm_vt (S 4)) (pm_vc (S 4)) (pm_vn (S 1)) (pm_vn (updN (S 2) j3 j5)) (pm_vi (S 3)) (pm_vn (S 5)) (pm_vn (S 6)) (pm_vn (S 7)) (pm_vn (S 8)) (pm_vn (updN (S 11) j5 (((S 11) j5) + 1))) (nI (S 10 0)) (nI ((S 10 1) - (10 * j5 * j5))) (nI ((S 10 2) + (10 * j5 * j5)))) (C := RX2) (T := TX2) (N := 15) hx hb hts hin2 tyX2 tyX2_ok nmX2 hown hK hP hD hS 0 rfl rfl 14 (by decide) (hts (.fieldLink RX2 55 "ProofMarks$Sheet" "paperTaken" "I") (List.mem_of_getElem? (i := 5) rfl)) (fun _ h9 => h9) rfl (by decide +kernel) rfl rfl (Nat.le_of_ble_eq_true rfl) rfl dX2_printFrame_99 (fun H locs hP hD hS => ?_)
                refine lv_aload_n hx hb dX2_printFrame_102 rfl (lv_at hl 1 rfl) ?_
                refine va_get (D := D) (ci := 2) (v := .int (nI ((S 10 1) - (10 * j5 * j5)))) (C := RX2) (T := TX2) (N := 15) hx hb hts hin2 hown hK hP 0 rfl rfl 13 (by decide) (hts (.fieldLink RX2 52 "ProofMarks$Sheet" "paper" "I") (List.mem_of_getElem? (i := 3) rfl)) (fun _ h9 => h9) rfl dX2_printFrame_103 ?_
                have E : pm_aPrint S (nI j3) (nI j5) = (nI ((S 10 1) - (10 * j5 * j5)), pm_st (pm_st (pm_st (pm_st (pm_st S 0 j3 3) 2 j3 j5) 11 j5 (S 11 j5 + 1)) 10 1 (S 10 1 - 10 * j5 * j5)) 10 2 (S 10 2 + 10 * j5 * j5)) := by simp only [pm_aPrint, pm_ix_in hj3 (show (30 : Nat) < 2 ^ 31 by decide), pm_ix_in hj5 (show (4 : Nat) < 2 ^ 31 by decide)] <;> ((repeat' split) <;> first | rfl | (exfalso; omega))
                exact W.iret hx hb hr (fun t ht _ => ⟨⟨_, (), rfl, (by rw [E]), (by show va_P D vwCl (pm_shS y q (pm_aPrint S (nI j3) (nI j5)).2) t.heap; rw [ht]; exact (by rw [E]; exact hP))⟩, hS.F ht⟩) hS.2.2 dX2_printFrame_106
              · skip
                refine lv_bipush (v := (-5)) hx hb dX2_printFrame_55 (by decide) ?_
                have E : pm_aPrint S (nI j3) (nI j5) = ((-5), S) := by simp only [pm_aPrint, pm_ix_in hj3 (show (30 : Nat) < 2 ^ 31 by decide), pm_ix_in hj5 (show (4 : Nat) < 2 ^ 31 by decide)] <;> ((repeat' split) <;> first | rfl | (exfalso; omega))
                exact W.iret hx hb hr (fun t ht _ => ⟨⟨_, (), rfl, (by rw [E]), (by show va_P D vwCl (pm_shS y q (pm_aPrint S (nI j3) (nI j5)).2) t.heap; rw [ht]; exact (by rw [E]; exact hP))⟩, hS.F ht⟩) hS.2.2 dX2_printFrame_57
        · skip
          refine lv_bipush (v := (-2)) hx hb dX2_printFrame_19 (by decide) ?_
          have E : pm_aPrint S (nI j3) (nI j5) = ((-2), S) := by simp only [pm_aPrint, pm_ix_in hj3 (show (30 : Nat) < 2 ^ 31 by decide), pm_ix_in hj5 (show (4 : Nat) < 2 ^ 31 by decide)] <;> ((repeat' split) <;> first | rfl | (exfalso; omega))
          exact W.iret hx hb hr (fun t ht _ => ⟨⟨_, (), rfl, (by rw [E]), (by show va_P D vwCl (pm_shS y q (pm_aPrint S (nI j3) (nI j5)).2) t.heap; rw [ht]; exact (by rw [E]; exact hP))⟩, hS.F ht⟩) hS.2.2 dX2_printFrame_21
  · skip
    refine lv_if_ne (tgt := 9) hx hb dX2_printFrame_4 (by decide) (fun c15 => (c15 (by decide)).elim) (fun _ => ?_)
    refine lv_iconst (v := -1) hx hb dX2_printFrame_7 (by decide) ?_
    have E : pm_aPrint S xf xz = (-1, S) := by simp only [pm_aPrint, pm_ix_out hnj3] <;> ((repeat' split) <;> first | rfl | (exfalso; omega))
    exact W.iret hx hb hr (fun t ht _ => ⟨⟨_, (), rfl, (by rw [E]), (by show va_P D vwCl (pm_shS y q (pm_aPrint S xf xz).2) t.heap; rw [ht]; exact (by rw [E]; exact hP))⟩, hS.F ht⟩) hS.2.2 dX2_printFrame_8

set_option maxHeartbeats 4000000 in
set_option maxRecDepth 100000 in
theorem k_X2_addPaper (l : Launch) (D : va_G) (y : Nat → ClassId) (q : Nat → Nat) (S : Nat → Nat → Nat) (xb : Int32) (hI : pm_Inv S) : Met l yX2_addPaper wsX2_addPaper ({ frames := 1, cells := 0, slots := 0, locals := 14 } : Room) (pm_wr D (pm_ty y) [.ref (q 0), .int xb] (pm_shS y q S)) (pm_Qi D (fun (r : Int32) (_ : Unit) => r = (pm_aBuy S xb).1) (fun (_ : Unit) => pm_shS y q (pm_aBuy S xb).2) (pm_shS y q S)) 0 0 (pm_ad (pm_shS y q S)) := by
  refine Met.ofW (cc := cX2_addPaper) (maxL := 2) (ret := (some .int)) (by decide) rfl ?_
  intro p e s m args below meth c s₁ B hml hpre
  obtain ⟨rfl, hP, hK, hD0⟩ := hpre
  have hx := B.exec
  have hb := B.bytes
  have hr := B.returns
  have hts := atoms_spec (ws := wsX2_addPaper) B.pre
  have hown : s.vm.findClass RX2 = some m.cls := findClass_of_methodNamed B.named
  have hlocks := B.notSynchronized
  have hin2 : ∀ w ∈ u_ws RX2 TX2 15, w ∈ wsX2_addPaper := fun w h => List.mem_cons_of_mem _ (List.mem_append_right _ h)
  have hD := pm_ad_self hD0
  have hS : va_S (pm_ad (pm_shS y q S)) s.heap s.heap [] := va_S.rf
  have hP : va_P D vwCl (pm_shS y q S) s.heap := hP
  have hl := lv_entry ([.ref (q 0), .int xb]) (n := 2) (Nat.le_of_ble_eq_true rfl)
  rw [lg_entry_eq]
  generalize (lg_sl ([.ref (q 0), .int xb]) ++ List.replicate (2 - (lg_sl ([.ref (q 0), .int xb])).length) Slot.unset).toArray = ls at hl ⊢
  have hl : lv_has ls 2 [(0, .ref (q 0)), (1, .int xb)] := hl
  rcases pm_cases xb (n := 100) (by decide) with hnj1 | ⟨j1, hj1, rfl⟩
  · skip
    refine lv_iload_n hx hb dX2_addPaper_0 rfl (lv_at hl 1 rfl) ?_
    refine lv_iconst (v := nI 1) hx hb dX2_addPaper_1 (by decide) ?_
    refine lv_icmp_lt (tgt := 11) hx hb dX2_addPaper_2 (by decide) (fun c2 => ?_) (fun c2 => ?_)
    · skip
      refine lv_bipush (v := (-2)) hx hb dX2_addPaper_11 (by decide) ?_
      have E : pm_aBuy S xb = ((-2), S) := by simp only [pm_aBuy, pm_ix_out hnj1] <;> ((repeat' split) <;> first | rfl | (exfalso; omega))
      exact W.iret hx hb hr (fun t ht _ => ⟨⟨_, (), rfl, (by rw [E]), (by show va_P D vwCl (pm_shS y q (pm_aBuy S xb).2) t.heap; rw [ht]; exact (by rw [E]; exact hP))⟩, hS.F ht⟩) hS.2.2 dX2_addPaper_13
    · skip
      refine lv_iload_n hx hb dX2_addPaper_5 rfl (lv_at hl 1 rfl) ?_
      refine lv_bipush (v := nI 99) hx hb dX2_addPaper_6 (by decide) ?_
      refine lv_icmp_le (tgt := 14) hx hb dX2_addPaper_8 (by decide) (fun c3 => by exfalso; exact pm_lead1 (n := 99) hnj1 (by decide) (by assumption) (by assumption)) (fun c3 => ?_)
      refine lv_bipush (v := (-2)) hx hb dX2_addPaper_11 (by decide) ?_
      have E : pm_aBuy S xb = ((-2), S) := by simp only [pm_aBuy, pm_ix_out hnj1] <;> ((repeat' split) <;> first | rfl | (exfalso; omega))
      exact W.iret hx hb hr (fun t ht _ => ⟨⟨_, (), rfl, (by rw [E]), (by show va_P D vwCl (pm_shS y q (pm_aBuy S xb).2) t.heap; rw [ht]; exact (by rw [E]; exact hP))⟩, hS.F ht⟩) hS.2.2 dX2_addPaper_13
  · skip
    refine lv_iload_n hx hb dX2_addPaper_0 rfl (lv_at hl 1 rfl) ?_
    refine lv_iconst (v := nI 1) hx hb dX2_addPaper_1 (by decide) ?_
    refine kx_icmp_lt (tgt := 11) hx hb (by omega) (by decide) dX2_addPaper_2 (by decide) (fun c4 => ?_) (fun c4 => ?_)
    · skip
      refine lv_bipush (v := (-2)) hx hb dX2_addPaper_11 (by decide) ?_
      have E : pm_aBuy S (nI j1) = ((-2), S) := by simp only [pm_aBuy, pm_ix_in hj1 (show (100 : Nat) < 2 ^ 31 by decide)] <;> ((repeat' split) <;> first | rfl | (exfalso; omega))
      exact W.iret hx hb hr (fun t ht _ => ⟨⟨_, (), rfl, (by rw [E]), (by show va_P D vwCl (pm_shS y q (pm_aBuy S (nI j1)).2) t.heap; rw [ht]; exact (by rw [E]; exact hP))⟩, hS.F ht⟩) hS.2.2 dX2_addPaper_13
    · skip
      refine lv_iload_n hx hb dX2_addPaper_5 rfl (lv_at hl 1 rfl) ?_
      refine lv_bipush (v := nI 99) hx hb dX2_addPaper_6 (by decide) ?_
      refine kx_icmp_le (tgt := 14) hx hb (by omega) (by decide) dX2_addPaper_8 (by decide) (fun c5 => ?_) (fun c5 => ?_)
      · skip
        refine lv_aload_n hx hb dX2_addPaper_14 rfl (lv_at hl 0 rfl) ?_
        refine lv_aload_n hx hb dX2_addPaper_15 rfl (lv_at hl 0 rfl) ?_
        refine va_get (D := D) (ci := 2) (v := .int (nI (S 10 1))) (C := RX2) (T := TX2) (N := 15) hx hb hts hin2 hown hK hP 0 rfl rfl 13 (by decide) (hts (.fieldLink RX2 52 "ProofMarks$Sheet" "paper" "I") (List.mem_of_getElem? (i := 1) rfl)) (fun _ h9 => h9) rfl dX2_addPaper_16 ?_
        have := hI.pap
        refine lv_iload_n hx hb dX2_addPaper_19 rfl (lv_at hl 1 rfl) ?_
        refine kx_iadd hx hb dX2_addPaper_20 ?_
        refine lv_sipush (v := nI 999) hx hb dX2_addPaper_21 (by decide) ?_
        refine va_mmin hx hb (by rw [hml]; exact hl.1.symm) hown (hts (.methodLink RX2 92 Lib.Math.min.name) (List.mem_of_getElem? (i := 2) rfl)) (hts (.static Lib.Math.min.name) (List.mem_of_getElem? (i := 3) rfl)) (hts (.initialized "java/lang/Math") (List.mem_of_getElem? (i := 4) rfl)) (hts (.code Lib.Math.min.name Lib.Math.min.code 2 (some .int)) (List.mem_of_getElem? (i := 5) rfl)) (Nat.le_of_ble_eq_true rfl) (Nat.le_of_ble_eq_true rfl) (Nat.le_of_ble_eq_true rfl) (Nat.le_of_ble_eq_true rfl) dX2_addPaper_24 ?_
        refine lv_topi (fun x6 e7 => ?_)
        obtain rfl : x6 = nI (if 999 < S 10 1 + j1 then 999 else S 10 1 + j1) := e7.trans (pm_min (by omega) (by decide))
        refine kx_put (D := D) (ci := 2) (v := .int (nI (if 999 < S 10 1 + j1 then 999 else S 10 1 + j1))) (ty := .int) (ws' := pm_sh y q (pm_vn (S 9)) (pm_vn (S 0)) (pm_vt (S 4)) (pm_vc (S 4)) (pm_vn (S 1)) (pm_vn (S 2)) (pm_vi (S 3)) (pm_vn (S 5)) (pm_vn (S 6)) (pm_vn (S 7)) (pm_vn (S 8)) (pm_vn (S 11)) (nI (S 10 0)) (nI (if 999 < S 10 1 + j1 then 999 else S 10 1 + j1)) (nI (S 10 2))) (C := RX2) (T := TX2) (N := 15) hx hb hts hin2 tyX2 tyX2_ok nmX2 hown hK hP hD hS 0 rfl rfl 13 (by decide) (hts (.fieldLink RX2 52 "ProofMarks$Sheet" "paper" "I") (List.mem_of_getElem? (i := 1) rfl)) (fun _ h9 => h9) rfl (by decide +kernel) rfl rfl (Nat.le_of_ble_eq_true rfl) rfl dX2_addPaper_27 (fun H locs hP hD hS => ?_)
        refine lv_aload_n hx hb dX2_addPaper_30 rfl (lv_at hl 0 rfl) ?_
        refine va_get (D := D) (ci := 2) (v := .int (nI (if 999 < S 10 1 + j1 then 999 else S 10 1 + j1))) (C := RX2) (T := TX2) (N := 15) hx hb hts hin2 hown hK hP 0 rfl rfl 13 (by decide) (hts (.fieldLink RX2 52 "ProofMarks$Sheet" "paper" "I") (List.mem_of_getElem? (i := 1) rfl)) (fun _ h9 => h9) rfl dX2_addPaper_31 ?_
        have E : pm_aBuy S (nI j1) = (nI (if 999 < S 10 1 + j1 then 999 else S 10 1 + j1), pm_st S 10 1 (if 999 < S 10 1 + j1 then 999 else S 10 1 + j1)) := by simp only [pm_aBuy, pm_ix_in hj1 (show (100 : Nat) < 2 ^ 31 by decide)] <;> ((repeat' split) <;> first | rfl | (exfalso; omega))
        exact W.iret hx hb hr (fun t ht _ => ⟨⟨_, (), rfl, (by rw [E]), (by show va_P D vwCl (pm_shS y q (pm_aBuy S (nI j1)).2) t.heap; rw [ht]; exact (by rw [E]; exact hP))⟩, hS.F ht⟩) hS.2.2 dX2_addPaper_34
      · skip
        refine lv_bipush (v := (-2)) hx hb dX2_addPaper_11 (by decide) ?_
        have E : pm_aBuy S (nI j1) = ((-2), S) := by simp only [pm_aBuy, pm_ix_in hj1 (show (100 : Nat) < 2 ^ 31 by decide)] <;> ((repeat' split) <;> first | rfl | (exfalso; omega))
        exact W.iret hx hb hr (fun t ht _ => ⟨⟨_, (), rfl, (by rw [E]), (by show va_P D vwCl (pm_shS y q (pm_aBuy S (nI j1)).2) t.heap; rw [ht]; exact (by rw [E]; exact hP))⟩, hS.F ht⟩) hS.2.2 dX2_addPaper_13

set_option maxHeartbeats 4000000 in
set_option maxRecDepth 100000 in
theorem k_X2_openAgain (l : Launch) (D : va_G) (y : Nat → ClassId) (q : Nat → Nat) (S : Nat → Nat → Nat) (xf : Int32) (hI : pm_Inv S) : Met l yX2_openAgain wsX2_openAgain ({ frames := 1, cells := 0, slots := 0, locals := 20 } : Room) (pm_wr D (pm_ty y) [.ref (q 0), .int xf] (pm_shS y q S)) (pm_Qi D (fun (r : Int32) (_ : Unit) => r = (pm_aReopen S xf).1) (fun (_ : Unit) => pm_shS y q (pm_aReopen S xf).2) (pm_shS y q S)) 0 0 (pm_ad (pm_shS y q S)) := by
  refine Met.ofW (cc := cX2_openAgain) (maxL := 3) (ret := (some .int)) (by decide) rfl ?_
  intro p e s m args below meth c s₁ B hml hpre
  obtain ⟨rfl, hP, hK, hD0⟩ := hpre
  have hx := B.exec
  have hb := B.bytes
  have hr := B.returns
  have hts := atoms_spec (ws := wsX2_openAgain) B.pre
  have hown : s.vm.findClass RX2 = some m.cls := findClass_of_methodNamed B.named
  have hlocks := B.notSynchronized
  have hin2 : ∀ w ∈ u_ws RX2 TX2 15, w ∈ wsX2_openAgain := fun w h => List.mem_cons_of_mem _ (List.mem_append_right _ h)
  have hD := pm_ad_self hD0
  have hS : va_S (pm_ad (pm_shS y q S)) s.heap s.heap [] := va_S.rf
  have hP : va_P D vwCl (pm_shS y q S) s.heap := hP
  have hl := lv_entry ([.ref (q 0), .int xf]) (n := 3) (Nat.le_of_ble_eq_true rfl)
  rw [lg_entry_eq]
  generalize (lg_sl ([.ref (q 0), .int xf]) ++ List.replicate (3 - (lg_sl ([.ref (q 0), .int xf])).length) Slot.unset).toArray = ls at hl ⊢
  have hl : lv_has ls 3 [(0, .ref (q 0)), (1, .int xf)] := hl
  refine lv_iload_n hx hb dX2_openAgain_0 rfl (lv_at hl 1 rfl) ?_
  refine vp_callSi (W.runS (As := [.int xf]) (rest := []) ⟨hx, hb, hml, hown, hts⟩ (k_X2_isFrame l xf) (va_cwS 1 hts gX2_openAgain_X2_isFrame rfl rfl rfl hd_X2_isFrame ⟨Nat.le_of_ble_eq_true rfl, Nat.le_of_ble_eq_true rfl⟩) ⟨pm_no_blind, pm_no_pre⟩ rfl rfl hl.1 rfl (lv_room (Nat.le_of_ble_eq_true rfl)) dX2_openAgain_1 ⟨Nat.le_of_ble_eq_true rfl, Nat.le_of_ble_eq_true rfl⟩) (fun r1 h2 => ?_)
  rcases h2 with ⟨j3, hj3, ej3, rfl⟩ | ⟨hnj3, rfl⟩
  · subst ej3
    refine lv_if_ne (tgt := 9) hx hb dX2_openAgain_4 (by decide) (fun _ => ?_) (fun c4 => absurd c4 (by decide))
    refine lv_aload_n hx hb dX2_openAgain_9 rfl (lv_at hl 0 rfl) ?_
    refine va_get (D := D) (ci := 2) (v := .ref (q 2)) (C := RX2) (T := TX2) (N := 15) hx hb hts hin2 hown hK hP 0 rfl rfl 1 (by decide) (hts (.fieldLink RX2 15 "ProofMarks$Sheet" "how" "[I") (List.mem_of_getElem? (i := 1) rfl)) (fun _ h9 => h9) rfl dX2_openAgain_10 ?_
    refine lv_iload_n hx hb dX2_openAgain_13 rfl (lv_at hl 1 rfl) ?_
    refine kx_iald (v := nI ((S 0) j3)) hx hb hK hP 2 0 rfl rfl (by omega) (by decide) rfl dX2_openAgain_14 ?_
    have := hI.how j3 (by omega)
    refine lv_istore_n (lv' := [(2, .int (nI ((S 0) j3))), (0, .ref (q 0)), (1, .int (nI j3))]) hx hb dX2_openAgain_15 rfl hl (by decide) rfl (fun ls hl => ?_)
    refine lv_iload_n hx hb dX2_openAgain_16 rfl (lv_at hl 0 rfl) ?_
    refine kx_if_eq (tgt := 25) hx hb (by omega) dX2_openAgain_17 (by decide) (fun c5 => ?_) (fun c5 => ?_)
    · skip
      refine lv_bipush (v := (-5)) hx hb dX2_openAgain_25 (by decide) ?_
      have E : pm_aReopen S (nI j3) = ((-5), S) := by simp only [pm_aReopen, pm_ix_in hj3 (show (30 : Nat) < 2 ^ 31 by decide)] <;> ((repeat' split) <;> first | rfl | (exfalso; omega))
      exact W.iret hx hb hr (fun t ht _ => ⟨⟨_, (), rfl, (by rw [E]), (by show va_P D vwCl (pm_shS y q (pm_aReopen S (nI j3)).2) t.heap; rw [ht]; exact (by rw [E]; exact hP))⟩, hS.F ht⟩) hS.2.2 dX2_openAgain_27
    · skip
      refine lv_iload_n hx hb dX2_openAgain_20 rfl (lv_at hl 0 rfl) ?_
      refine lv_iconst (v := nI 3) hx hb dX2_openAgain_21 (by decide) ?_
      refine kx_icmp_ne (tgt := 28) hx hb (by omega) (by decide) dX2_openAgain_22 (by decide) (fun c6 => ?_) (fun c6 => ?_)
      · skip
        refine lv_aload_n hx hb dX2_openAgain_28 rfl (lv_at hl 1 rfl) ?_
        refine va_get (D := D) (ci := 2) (v := .ref (q 2)) (C := RX2) (T := TX2) (N := 15) hx hb hts hin2 hown hK hP 0 rfl rfl 1 (by decide) (hts (.fieldLink RX2 15 "ProofMarks$Sheet" "how" "[I") (List.mem_of_getElem? (i := 1) rfl)) (fun _ h9 => h9) rfl dX2_openAgain_29 ?_
        refine lv_iload_n hx hb dX2_openAgain_32 rfl (lv_at hl 2 rfl) ?_
        refine lv_iconst (v := nI 0) hx hb dX2_openAgain_33 (by decide) ?_
        refine kx_iast (ws' := pm_sh y q (pm_vn (S 9)) (pm_vn (updN (S 0) j3 0)) (pm_vt (S 4)) (pm_vc (S 4)) (pm_vn (S 1)) (pm_vn (S 2)) (pm_vi (S 3)) (pm_vn (S 5)) (pm_vn (S 6)) (pm_vn (S 7)) (pm_vn (S 8)) (pm_vn (S 11)) (nI (S 10 0)) (nI (S 10 1)) (nI (S 10 2))) hx hb hK hP hD hS 2 0 rfl rfl (by omega) (by decide) (pm_vn_u (S 0) j3 0) rfl dX2_openAgain_34 (fun H locs hP hD hS => ?_)
        refine lv_aload_n hx hb dX2_openAgain_35 rfl (lv_at hl 1 rfl) ?_
        refine va_get (D := D) (ci := 2) (v := .ref (q 5)) (C := RX2) (T := TX2) (N := 15) hx hb hts hin2 hown hK hP 0 rfl rfl 4 (by decide) (hts (.fieldLink RX2 24 "ProofMarks$Sheet" "dull" "[I") (List.mem_of_getElem? (i := 2) rfl)) (fun _ h9 => h9) rfl dX2_openAgain_36 ?_
        refine lv_iload_n hx hb dX2_openAgain_39 rfl (lv_at hl 2 rfl) ?_
        refine lv_iconst (v := nI 0) hx hb dX2_openAgain_40 (by decide) ?_
        refine kx_iast (ws' := pm_sh y q (pm_vn (S 9)) (pm_vn (updN (S 0) j3 0)) (pm_vt (S 4)) (pm_vc (S 4)) (pm_vn (updN (S 1) j3 0)) (pm_vn (S 2)) (pm_vi (S 3)) (pm_vn (S 5)) (pm_vn (S 6)) (pm_vn (S 7)) (pm_vn (S 8)) (pm_vn (S 11)) (nI (S 10 0)) (nI (S 10 1)) (nI (S 10 2))) hx hb hK hP hD hS 5 0 rfl rfl (by omega) (by decide) (pm_vn_u (S 1) j3 0) rfl dX2_openAgain_41 (fun H locs hP hD hS => ?_)
        refine lv_aload_n hx hb dX2_openAgain_42 rfl (lv_at hl 1 rfl) ?_
        refine va_get (D := D) (ci := 2) (v := .ref (q 6)) (C := RX2) (T := TX2) (N := 15) hx hb hts hin2 hown hK hP 0 rfl rfl 5 (by decide) (hts (.fieldLink RX2 27 "ProofMarks$Sheet" "sizes" "[I") (List.mem_of_getElem? (i := 3) rfl)) (fun _ h9 => h9) rfl dX2_openAgain_43 ?_
        refine lv_iload_n hx hb dX2_openAgain_46 rfl (lv_at hl 2 rfl) ?_
        refine lv_iconst (v := nI 0) hx hb dX2_openAgain_47 (by decide) ?_
        refine kx_iast (ws' := pm_sh y q (pm_vn (S 9)) (pm_vn (updN (S 0) j3 0)) (pm_vt (S 4)) (pm_vc (S 4)) (pm_vn (updN (S 1) j3 0)) (pm_vn (updN (S 2) j3 0)) (pm_vi (S 3)) (pm_vn (S 5)) (pm_vn (S 6)) (pm_vn (S 7)) (pm_vn (S 8)) (pm_vn (S 11)) (nI (S 10 0)) (nI (S 10 1)) (nI (S 10 2))) hx hb hK hP hD hS 6 0 rfl rfl (by omega) (by decide) (pm_vn_u (S 2) j3 0) rfl dX2_openAgain_48 (fun H locs hP hD hS => ?_)
        refine lv_iload_n hx hb dX2_openAgain_49 rfl (lv_at hl 0 rfl) ?_
        have E : pm_aReopen S (nI j3) = (nI ((S 0) j3), pm_st (pm_st (pm_st S 0 j3 0) 1 j3 0) 2 j3 0) := by simp only [pm_aReopen, pm_ix_in hj3 (show (30 : Nat) < 2 ^ 31 by decide)] <;> ((repeat' split) <;> first | rfl | (exfalso; omega))
        exact W.iret hx hb hr (fun t ht _ => ⟨⟨_, (), rfl, (by rw [E]), (by show va_P D vwCl (pm_shS y q (pm_aReopen S (nI j3)).2) t.heap; rw [ht]; exact (by rw [E]; exact hP))⟩, hS.F ht⟩) hS.2.2 dX2_openAgain_50
      · skip
        refine lv_bipush (v := (-5)) hx hb dX2_openAgain_25 (by decide) ?_
        have E : pm_aReopen S (nI j3) = ((-5), S) := by simp only [pm_aReopen, pm_ix_in hj3 (show (30 : Nat) < 2 ^ 31 by decide)] <;> ((repeat' split) <;> first | rfl | (exfalso; omega))
        exact W.iret hx hb hr (fun t ht _ => ⟨⟨_, (), rfl, (by rw [E]), (by show va_P D vwCl (pm_shS y q (pm_aReopen S (nI j3)).2) t.heap; rw [ht]; exact (by rw [E]; exact hP))⟩, hS.F ht⟩) hS.2.2 dX2_openAgain_27
  · skip
    refine lv_if_ne (tgt := 9) hx hb dX2_openAgain_4 (by decide) (fun c7 => (c7 (by decide)).elim) (fun _ => ?_)
    refine lv_iconst (v := -1) hx hb dX2_openAgain_7 (by decide) ?_
    have E : pm_aReopen S xf = (-1, S) := by simp only [pm_aReopen, pm_ix_out hnj3] <;> ((repeat' split) <;> first | rfl | (exfalso; omega))
    exact W.iret hx hb hr (fun t ht _ => ⟨⟨_, (), rfl, (by rw [E]), (by show va_P D vwCl (pm_shS y q (pm_aReopen S xf).2) t.heap; rw [ht]; exact (by rw [E]; exact hP))⟩, hS.F ht⟩) hS.2.2 dX2_openAgain_8

set_option maxHeartbeats 4000000 in
set_option maxRecDepth 100000 in
theorem k_X2_argueAgainst (l : Launch) (D : va_G) (y : Nat → ClassId) (q : Nat → Nat) (S : Nat → Nat → Nat) (xe xo xf : Int32) (hI : pm_Inv S) : Met l yX2_argueAgainst wsX2_argueAgainst ({ frames := 1, cells := 0, slots := 0, locals := 23 } : Room) (pm_wr D (pm_ty y) [.ref (q 0), .int xe, .int xo, .int xf] (pm_shS y q S)) (pm_Qi D (fun (r : Int32) (_ : Unit) => r = (pm_aArgue S xe xo xf).1) (fun (_ : Unit) => pm_shS y q (pm_aArgue S xe xo xf).2) (pm_shS y q S)) 0 0 (pm_ad (pm_shS y q S)) := by
  refine Met.ofW (cc := cX2_argueAgainst) (maxL := 5) (ret := (some .int)) (by decide) rfl ?_
  intro p e s m args below meth c s₁ B hml hpre
  obtain ⟨rfl, hP, hK, hD0⟩ := hpre
  have hx := B.exec
  have hb := B.bytes
  have hr := B.returns
  have hts := atoms_spec (ws := wsX2_argueAgainst) B.pre
  have hown : s.vm.findClass RX2 = some m.cls := findClass_of_methodNamed B.named
  have hlocks := B.notSynchronized
  have hin2 : ∀ w ∈ u_ws RX2 TX2 15, w ∈ wsX2_argueAgainst := fun w h => List.mem_cons_of_mem _ (List.mem_append_right _ h)
  have hD := pm_ad_self hD0
  have hS : va_S (pm_ad (pm_shS y q S)) s.heap s.heap [] := va_S.rf
  have hP : va_P D vwCl (pm_shS y q S) s.heap := hP
  have hl := lv_entry ([.ref (q 0), .int xe, .int xo, .int xf]) (n := 5) (Nat.le_of_ble_eq_true rfl)
  rw [lg_entry_eq]
  generalize (lg_sl ([.ref (q 0), .int xe, .int xo, .int xf]) ++ List.replicate (5 - (lg_sl ([.ref (q 0), .int xe, .int xo, .int xf])).length) Slot.unset).toArray = ls at hl ⊢
  have hl : lv_has ls 5 [(0, .ref (q 0)), (1, .int xe), (2, .int xo), (3, .int xf)] := hl
  refine lv_iload_n hx hb dX2_argueAgainst_0 rfl (lv_at hl 1 rfl) ?_
  refine vp_callSi (W.runS (As := [.int xe]) (rest := []) ⟨hx, hb, hml, hown, hts⟩ (k_X2_isEditor l xe) (va_cwS 1 hts gX2_argueAgainst_X2_isEditor rfl rfl rfl hd_X2_isEditor ⟨Nat.le_of_ble_eq_true rfl, Nat.le_of_ble_eq_true rfl⟩) ⟨pm_no_blind, pm_no_pre⟩ rfl rfl hl.1 rfl (lv_room (Nat.le_of_ble_eq_true rfl)) dX2_argueAgainst_1 ⟨Nat.le_of_ble_eq_true rfl, Nat.le_of_ble_eq_true rfl⟩) (fun r1 h2 => ?_)
  rcases h2 with ⟨j3, hj3, ej3, rfl⟩ | ⟨hnj3, rfl⟩
  · subst ej3
    refine lv_if_eq (tgt := 21) hx hb dX2_argueAgainst_4 (by decide) (fun c4 => absurd c4 (by decide)) (fun _ => ?_)
    refine lv_iload_n hx hb dX2_argueAgainst_7 rfl (lv_at hl 2 rfl) ?_
    refine vp_callSi (W.runS (As := [.int xo]) (rest := []) ⟨hx, hb, hml, hown, hts⟩ (k_X2_isEditor l xo) (va_cwS 1 hts gX2_argueAgainst_X2_isEditor rfl rfl rfl hd_X2_isEditor ⟨Nat.le_of_ble_eq_true rfl, Nat.le_of_ble_eq_true rfl⟩) ⟨pm_no_blind, pm_no_pre⟩ rfl rfl hl.1 rfl (lv_room (Nat.le_of_ble_eq_true rfl)) dX2_argueAgainst_8 ⟨Nat.le_of_ble_eq_true rfl, Nat.le_of_ble_eq_true rfl⟩) (fun r5 h6 => ?_)
    rcases h6 with ⟨j7, hj7, ej7, rfl⟩ | ⟨hnj7, rfl⟩
    · subst ej7
      refine lv_if_eq (tgt := 21) hx hb dX2_argueAgainst_11 (by decide) (fun c8 => absurd c8 (by decide)) (fun _ => ?_)
      refine lv_iload_n hx hb dX2_argueAgainst_14 rfl (lv_at hl 3 rfl) ?_
      refine vp_callSi (W.runS (As := [.int xf]) (rest := []) ⟨hx, hb, hml, hown, hts⟩ (k_X2_isFrame l xf) (va_cwS 1 hts gX2_argueAgainst_X2_isFrame rfl rfl rfl hd_X2_isFrame ⟨Nat.le_of_ble_eq_true rfl, Nat.le_of_ble_eq_true rfl⟩) ⟨pm_no_blind, pm_no_pre⟩ rfl rfl hl.1 rfl (lv_room (Nat.le_of_ble_eq_true rfl)) dX2_argueAgainst_15 ⟨Nat.le_of_ble_eq_true rfl, Nat.le_of_ble_eq_true rfl⟩) (fun r9 h10 => ?_)
      rcases h10 with ⟨j11, hj11, ej11, rfl⟩ | ⟨hnj11, rfl⟩
      · subst ej11
        refine lv_if_ne (tgt := 23) hx hb dX2_argueAgainst_18 (by decide) (fun _ => ?_) (fun c12 => absurd c12 (by decide))
        refine lv_iload_n hx hb dX2_argueAgainst_23 rfl (lv_at hl 1 rfl) ?_
        refine lv_iload_n hx hb dX2_argueAgainst_24 rfl (lv_at hl 2 rfl) ?_
        refine kx_icmp_ne (tgt := 31) hx hb (by omega) (by omega) dX2_argueAgainst_25 (by decide) (fun c13 => ?_) (fun c13 => ?_)
        · skip
          refine lv_aload_n hx hb dX2_argueAgainst_31 rfl (lv_at hl 0 rfl) ?_
          refine va_get (D := D) (ci := 2) (v := .ref (q 1)) (C := RX2) (T := TX2) (N := 15) hx hb hts hin2 hown hK hP 0 rfl rfl 0 (by decide) (hts (.fieldLink RX2 11 "ProofMarks$Sheet" "settings" "[I") (List.mem_of_getElem? (i := 1) rfl)) (fun _ h9 => h9) rfl dX2_argueAgainst_32 ?_
          refine lv_iconst (v := nI 2) hx hb dX2_argueAgainst_35 (by decide) ?_
          refine kx_iald (v := nI ((S 9) 2)) hx hb hK hP 1 0 rfl rfl (by omega) (by decide) rfl dX2_argueAgainst_36 ?_
          have := hI.set9 2 (by omega)
          refine lv_istore (lv' := [(4, .int (nI ((S 9) 2))), (0, .ref (q 0)), (1, .int (nI j3)), (2, .int (nI j7)), (3, .int (nI j11))]) hx hb dX2_argueAgainst_37 hl (by decide) rfl (fun ls hl => ?_)
          refine lv_aload_n hx hb dX2_argueAgainst_39 rfl (lv_at hl 1 rfl) ?_
          refine lv_iload_n hx hb dX2_argueAgainst_40 rfl (lv_at hl 3 rfl) ?_
          refine lv_iload_n hx hb dX2_argueAgainst_41 rfl (lv_at hl 4 rfl) ?_
          refine vp_callSi (W.runV (As := [.int (nI j7), .int (nI j11)]) (rest := []) ⟨hx, hb, hml, hown, hts⟩ (k_X2_markOf l D y q S j7 j11 (hI.okm j11 (by omega)) (by omega) (by omega)) (cwV 2 hts gX2_argueAgainst_X2_markOf rfl rfl rfl hd_X2_markOf ⟨Nat.le_of_ble_eq_true rfl, Nat.le_of_ble_eq_true rfl⟩) ⟨pm_ro_blind, va_recv hK hP (ci := 2) (q0 := 0) rfl rfl, pm_ro_pre hP hK⟩ rfl rfl hl.1 rfl (lv_room (Nat.le_of_ble_eq_true rfl)) dX2_argueAgainst_42 ⟨Nat.le_of_ble_eq_true rfl, Nat.le_of_ble_eq_true rfl⟩) (fun r14 h15 => ?_)
          obtain rfl : r14 = nI (pm_mk (S 4 j11) j7) := h15
          have := pm_lt4 (S 4 j11) j7
          refine lv_iconst (v := nI 2) hx hb dX2_argueAgainst_45 (by decide) ?_
          refine kx_icmp_ne (tgt := 60) hx hb (by omega) (by decide) dX2_argueAgainst_46 (by decide) (fun c16 => ?_) (fun c16 => ?_)
          · skip
            refine lv_bipush (v := (-5)) hx hb dX2_argueAgainst_60 (by decide) ?_
            have E : pm_aArgue S (nI j3) (nI j7) (nI j11) = ((-5), S) := by simp only [pm_aArgue, pm_ix_in hj3 (show (3 : Nat) < 2 ^ 31 by decide), pm_ix_in hj7 (show (3 : Nat) < 2 ^ 31 by decide), pm_ix_in hj11 (show (30 : Nat) < 2 ^ 31 by decide)] <;> ((repeat' split) <;> first | rfl | (exfalso; omega))
            exact W.iret hx hb hr (fun t ht _ => ⟨⟨_, (), rfl, (by rw [E]), (by show va_P D vwCl (pm_shS y q (pm_aArgue S (nI j3) (nI j7) (nI j11)).2) t.heap; rw [ht]; exact (by rw [E]; exact hP))⟩, hS.F ht⟩) hS.2.2 dX2_argueAgainst_62
          · skip
            refine lv_aload_n hx hb dX2_argueAgainst_49 rfl (lv_at hl 1 rfl) ?_
            refine va_get (D := D) (ci := 2) (v := .ref (q 8)) (C := RX2) (T := TX2) (N := 15) hx hb hts hin2 hown hK hP 0 rfl rfl 7 (by decide) (hts (.fieldLink RX2 33 "ProofMarks$Sheet" "points" "[I") (List.mem_of_getElem? (i := 2) rfl)) (fun _ h9 => h9) rfl dX2_argueAgainst_50 ?_
            refine lv_iload_n hx hb dX2_argueAgainst_53 rfl (lv_at hl 2 rfl) ?_
            refine kx_iald (v := nI ((S 5) j3)) hx hb hK hP 8 0 rfl rfl (by omega) (by decide) rfl dX2_argueAgainst_54 ?_
            have := hI.pts j3 (by omega)
            refine lv_iload hx hb dX2_argueAgainst_55 (lv_at hl 0 rfl) ?_
            refine kx_icmp_ge (tgt := 63) hx hb (by omega) (by omega) dX2_argueAgainst_57 (by decide) (fun c17 => ?_) (fun c17 => ?_)
            · skip
              refine lv_aload_n hx hb dX2_argueAgainst_63 rfl (lv_at hl 1 rfl) ?_
              refine va_get (D := D) (ci := 2) (v := .ref (q 8)) (C := RX2) (T := TX2) (N := 15) hx hb hts hin2 hown hK hP 0 rfl rfl 7 (by decide) (hts (.fieldLink RX2 33 "ProofMarks$Sheet" "points" "[I") (List.mem_of_getElem? (i := 2) rfl)) (fun _ h9 => h9) rfl dX2_argueAgainst_64 ?_
              refine lv_iload_n hx hb dX2_argueAgainst_67 rfl (lv_at hl 2 rfl) ?_
              refine lv_dup2_11 hx hb dX2_argueAgainst_68 rfl rfl ?_
              refine kx_iald (v := nI ((S 5) j3)) hx hb hK hP 8 0 rfl rfl (by omega) (by decide) rfl dX2_argueAgainst_69 ?_
              have := hI.pts j3 (by omega)
              refine lv_iload hx hb dX2_argueAgainst_70 (lv_at hl 0 rfl) ?_
              refine kx_isub hx hb (by omega) dX2_argueAgainst_72 ?_
              refine kx_iast (ws' := pm_sh y q (pm_vn (S 9)) (pm_vn (S 0)) (pm_vt (S 4)) (pm_vc (S 4)) (pm_vn (S 1)) (pm_vn (S 2)) (pm_vi (S 3)) (pm_vn (updN (S 5) j3 (((S 5) j3) - ((S 9) 2)))) (pm_vn (S 6)) (pm_vn (S 7)) (pm_vn (S 8)) (pm_vn (S 11)) (nI (S 10 0)) (nI (S 10 1)) (nI (S 10 2))) hx hb hK hP hD hS 8 0 rfl rfl (by omega) (by decide) (pm_vn_u (S 5) j3 (((S 5) j3) - ((S 9) 2))) rfl dX2_argueAgainst_73 (fun H locs hP hD hS => ?_)
              refine lv_aload_n hx hb dX2_argueAgainst_74 rfl (lv_at hl 1 rfl) ?_
              refine va_get (D := D) (ci := 2) (v := .ref (q 9)) (C := RX2) (T := TX2) (N := 15) hx hb hts hin2 hown hK hP 0 rfl rfl 8 (by decide) (hts (.fieldLink RX2 36 "ProofMarks$Sheet" "arguments" "[I") (List.mem_of_getElem? (i := 3) rfl)) (fun _ h9 => h9) rfl dX2_argueAgainst_75 ?_
              refine lv_iload_n hx hb dX2_argueAgainst_78 rfl (lv_at hl 2 rfl) ?_
              refine lv_dup2_11 hx hb dX2_argueAgainst_79 rfl rfl ?_
              refine kx_iald (v := nI ((S 6) j3)) hx hb hK hP 9 0 rfl rfl (by omega) (by decide) rfl dX2_argueAgainst_80 ?_
              refine lv_iconst (v := nI 1) hx hb dX2_argueAgainst_81 (by decide) ?_
              refine kx_iadd hx hb dX2_argueAgainst_82 ?_
              refine kx_iast (ws' := pm_sh y q (pm_vn (S 9)) (pm_vn (S 0)) (pm_vt (S 4)) (pm_vc (S 4)) (pm_vn (S 1)) (pm_vn (S 2)) (pm_vi (S 3)) (pm_vn (updN (S 5) j3 (((S 5) j3) - ((S 9) 2)))) (pm_vn (updN (S 6) j3 (((S 6) j3) + 1))) (pm_vn (S 7)) (pm_vn (S 8)) (pm_vn (S 11)) (nI (S 10 0)) (nI (S 10 1)) (nI (S 10 2))) hx hb hK hP hD hS 9 0 rfl rfl (by omega) (by decide) (pm_vn_u (S 6) j3 (((S 6) j3) + 1)) rfl dX2_argueAgainst_83 (fun H locs hP hD hS => ?_)
              refine lv_aload_n hx hb dX2_argueAgainst_84 rfl (lv_at hl 1 rfl) ?_
              refine va_get (D := D) (ci := 2) (v := .ref (q 8)) (C := RX2) (T := TX2) (N := 15) hx hb hts hin2 hown hK hP 0 rfl rfl 7 (by decide) (hts (.fieldLink RX2 33 "ProofMarks$Sheet" "points" "[I") (List.mem_of_getElem? (i := 2) rfl)) (fun _ h9 => h9) rfl dX2_argueAgainst_85 ?_
              refine lv_iload_n hx hb dX2_argueAgainst_88 rfl (lv_at hl 3 rfl) ?_
              refine kx_iald (v := nI ((updN (S 5) j3 (((S 5) j3) - ((S 9) 2))) j7)) hx hb hK hP 8 0 rfl rfl (by omega) (by decide) rfl dX2_argueAgainst_89 ?_
              refine lv_topi (fun x18 e19 => ?_)
              obtain rfl : x18 = nI (S 5 j7) := e19.trans (congrArg nI (updN_n _ _ (by omega)))
              have := hI.pts j7 hj7
              refine lv_iload hx hb dX2_argueAgainst_90 (lv_at hl 0 rfl) ?_
              refine kx_icmp_lt (tgt := 108) hx hb (by omega) (by omega) dX2_argueAgainst_92 (by decide) (fun c20 => ?_) (fun c20 => ?_)
              · skip
                refine lv_aload_n hx hb dX2_argueAgainst_108 rfl (lv_at hl 1 rfl) ?_
                refine va_get (D := D) (ci := 2) (v := .ref (q 4)) (C := RX2) (T := TX2) (N := 15) hx hb hts hin2 hown hK hP 0 rfl rfl 3 (by decide) (hts (.fieldLink RX2 21 "ProofMarks$Sheet" "crosses" "[I") (List.mem_of_getElem? (i := 4) rfl)) (fun _ h9 => h9) rfl dX2_argueAgainst_109 ?_
                refine lv_iload_n hx hb dX2_argueAgainst_112 rfl (lv_at hl 4 rfl) ?_
                refine lv_aload_n hx hb dX2_argueAgainst_113 rfl (lv_at hl 1 rfl) ?_
                refine va_get (D := D) (ci := 2) (v := .ref (q 4)) (C := RX2) (T := TX2) (N := 15) hx hb hts hin2 hown hK hP 0 rfl rfl 3 (by decide) (hts (.fieldLink RX2 21 "ProofMarks$Sheet" "crosses" "[I") (List.mem_of_getElem? (i := 4) rfl)) (fun _ h9 => h9) rfl dX2_argueAgainst_114 ?_
                refine lv_iload_n hx hb dX2_argueAgainst_117 rfl (lv_at hl 4 rfl) ?_
                refine kx_iald (v := nI (pm_ck ((S 4) j11))) hx hb hK hP 4 0 rfl rfl (by omega) (by decide) rfl dX2_argueAgainst_118 ?_
                have := pm_ck8 ((S 4) j11)
                refine lv_iload_n hx hb dX2_argueAgainst_119 rfl (lv_at hl 3 rfl) ?_
                refine lv_iconst (v := nI 0) hx hb dX2_argueAgainst_120 (by decide) ?_
                refine vp_callSi (W.runS (As := [.int (nI (pm_ck ((S 4) j11))), .int (nI j7), .int (nI 0)]) (rest := [.int (nI j11), .ref (q 4)]) ⟨hx, hb, hml, hown, hts⟩ (k_X2_withEditor l (nI (pm_ck ((S 4) j11))) (nI j7) (nI 0)) (va_cwS 3 hts gX2_argueAgainst_X2_withEditor rfl rfl rfl hd_X2_withEditor ⟨Nat.le_of_ble_eq_true rfl, Nat.le_of_ble_eq_true rfl⟩) ⟨pm_no_blind, pm_no_pre⟩ rfl rfl hl.1 rfl (lv_room (Nat.le_of_ble_eq_true rfl)) dX2_argueAgainst_121 ⟨Nat.le_of_ble_eq_true rfl, Nat.le_of_ble_eq_true rfl⟩) (fun r21 h22 => ?_)
                obtain rfl : r21 = pm_we (nI (pm_ck ((S 4) j11))) (nI j7) (nI 0) := h22
                refine lv_topi (fun x23 e24 => ?_)
                obtain rfl : x23 = nI (pm_ck (pm_sm (S 4 j11) j7 0)) := e24.trans (pm_wec (hI.okm j11 hj11) hj7 (v := 0) (by decide))
                refine kx_iast (ws' := pm_sh y q (pm_vn (S 9)) (pm_vn (S 0)) (pm_vt (S 4)) (pm_vc (updN (S 4) j11 (pm_sm (S 4 j11) j7 0))) (pm_vn (S 1)) (pm_vn (S 2)) (pm_vi (S 3)) (pm_vn (updN (S 5) j3 (((S 5) j3) - ((S 9) 2)))) (pm_vn (updN (S 6) j3 (((S 6) j3) + 1))) (pm_vn (S 7)) (pm_vn (S 8)) (pm_vn (S 11)) (nI (S 10 0)) (nI (S 10 1)) (nI (S 10 2))) hx hb hK hP hD hS 4 0 rfl rfl (by omega) (by decide) (pm_vc_u (S 4) j11 (pm_sm (S 4 j11) j7 0)) rfl dX2_argueAgainst_124 (fun H locs hP hD hS => ?_)
                refine lv_aload_n hx hb dX2_argueAgainst_125 rfl (lv_at hl 1 rfl) ?_
                refine va_get (D := D) (ci := 2) (v := .ref (q 10)) (C := RX2) (T := TX2) (N := 15) hx hb hts hin2 hown hK hP 0 rfl rfl 9 (by decide) (hts (.fieldLink RX2 39 "ProofMarks$Sheet" "lifted" "[I") (List.mem_of_getElem? (i := 5) rfl)) (fun _ h9 => h9) rfl dX2_argueAgainst_126 ?_
                refine lv_iload_n hx hb dX2_argueAgainst_129 rfl (lv_at hl 3 rfl) ?_
                refine lv_dup2_11 hx hb dX2_argueAgainst_130 rfl rfl ?_
                refine kx_iald (v := nI ((S 7) j7)) hx hb hK hP 10 0 rfl rfl (by omega) (by decide) rfl dX2_argueAgainst_131 ?_
                refine lv_iconst (v := nI 1) hx hb dX2_argueAgainst_132 (by decide) ?_
                refine kx_iadd hx hb dX2_argueAgainst_133 ?_
                refine kx_iast (ws' := pm_sh y q (pm_vn (S 9)) (pm_vn (S 0)) (pm_vt (S 4)) (pm_vc (updN (S 4) j11 (pm_sm (S 4 j11) j7 0))) (pm_vn (S 1)) (pm_vn (S 2)) (pm_vi (S 3)) (pm_vn (updN (S 5) j3 (((S 5) j3) - ((S 9) 2)))) (pm_vn (updN (S 6) j3 (((S 6) j3) + 1))) (pm_vn (updN (S 7) j7 (((S 7) j7) + 1))) (pm_vn (S 8)) (pm_vn (S 11)) (nI (S 10 0)) (nI (S 10 1)) (nI (S 10 2))) hx hb hK hP hD hS 10 0 rfl rfl (by omega) (by decide) (pm_vn_u (S 7) j7 (((S 7) j7) + 1)) rfl dX2_argueAgainst_134 (fun H locs hP hD hS => ?_)
                have eT : pm_vt (S 4) = pm_vt (updN (S 4) j11 (pm_sm (S 4 j11) j7 0)) := pm_vt_eq (pm_tk_sm0 (hI.okm j11 hj11) hj7 (by assumption))
                have hP : va_P D vwCl (pm_sh y q (pm_vn (S 9)) (pm_vn (S 0)) (pm_vt (updN (S 4) j11 (pm_sm (S 4 j11) j7 0))) (pm_vc (updN (S 4) j11 (pm_sm (S 4 j11) j7 0))) (pm_vn (S 1)) (pm_vn (S 2)) (pm_vi (S 3)) (pm_vn (updN (S 5) j3 (((S 5) j3) - ((S 9) 2)))) (pm_vn (updN (S 6) j3 (((S 6) j3) + 1))) (pm_vn (updN (S 7) j7 (((S 7) j7) + 1))) (pm_vn (S 8)) (pm_vn (S 11)) (nI (S 10 0)) (nI (S 10 1)) (nI (S 10 2))) H := by rw [← eT]; exact hP
                refine lv_iconst (v := nI 1) hx hb dX2_argueAgainst_135 (by decide) ?_
                have E : pm_aArgue S (nI j3) (nI j7) (nI j11) = (nI 1, pm_st (pm_st (pm_st (pm_st S 5 j3 (S 5 j3 - S 9 2)) 6 j3 (S 6 j3 + 1)) 4 j11 (pm_sm (S 4 j11) j7 0)) 7 j7 (S 7 j7 + 1)) := by simp only [pm_aArgue, pm_ix_in hj3 (show (3 : Nat) < 2 ^ 31 by decide), pm_ix_in hj7 (show (3 : Nat) < 2 ^ 31 by decide), pm_ix_in hj11 (show (30 : Nat) < 2 ^ 31 by decide)] <;> ((repeat' split) <;> first | rfl | (exfalso; omega))
                exact W.iret hx hb hr (fun t ht _ => ⟨⟨_, (), rfl, (by rw [E]), (by show va_P D vwCl (pm_shS y q (pm_aArgue S (nI j3) (nI j7) (nI j11)).2) t.heap; rw [ht]; exact (by rw [E]; exact hP))⟩, hS.F ht⟩) hS.2.2 dX2_argueAgainst_136
              · skip
                refine lv_aload_n hx hb dX2_argueAgainst_95 rfl (lv_at hl 1 rfl) ?_
                refine va_get (D := D) (ci := 2) (v := .ref (q 8)) (C := RX2) (T := TX2) (N := 15) hx hb hts hin2 hown hK hP 0 rfl rfl 7 (by decide) (hts (.fieldLink RX2 33 "ProofMarks$Sheet" "points" "[I") (List.mem_of_getElem? (i := 2) rfl)) (fun _ h9 => h9) rfl dX2_argueAgainst_96 ?_
                refine lv_iload_n hx hb dX2_argueAgainst_99 rfl (lv_at hl 3 rfl) ?_
                refine lv_dup2_11 hx hb dX2_argueAgainst_100 rfl rfl ?_
                refine kx_iald (v := nI ((updN (S 5) j3 (((S 5) j3) - ((S 9) 2))) j7)) hx hb hK hP 8 0 rfl rfl (by omega) (by decide) rfl dX2_argueAgainst_101 ?_
                refine lv_topi (fun x25 e26 => ?_)
                obtain rfl : x25 = nI (S 5 j7) := e26.trans (congrArg nI (updN_n _ _ (by omega)))
                have := hI.pts j7 hj7
                refine lv_iload hx hb dX2_argueAgainst_102 (lv_at hl 0 rfl) ?_
                refine kx_isub hx hb (by omega) dX2_argueAgainst_104 ?_
                refine kx_iast (ws' := pm_sh y q (pm_vn (S 9)) (pm_vn (S 0)) (pm_vt (S 4)) (pm_vc (S 4)) (pm_vn (S 1)) (pm_vn (S 2)) (pm_vi (S 3)) (pm_vn (updN (updN (S 5) j3 (((S 5) j3) - ((S 9) 2))) j7 ((S 5 j7) - ((S 9) 2)))) (pm_vn (updN (S 6) j3 (((S 6) j3) + 1))) (pm_vn (S 7)) (pm_vn (S 8)) (pm_vn (S 11)) (nI (S 10 0)) (nI (S 10 1)) (nI (S 10 2))) hx hb hK hP hD hS 8 0 rfl rfl (by omega) (by decide) (pm_vn_u (updN (S 5) j3 (((S 5) j3) - ((S 9) 2))) j7 ((S 5 j7) - ((S 9) 2))) rfl dX2_argueAgainst_105 (fun H locs hP hD hS => ?_)
                refine lv_iconst (v := nI 0) hx hb dX2_argueAgainst_106 (by decide) ?_
                have E : pm_aArgue S (nI j3) (nI j7) (nI j11) = (nI 0, pm_st (pm_st (pm_st S 5 j3 (S 5 j3 - S 9 2)) 6 j3 (S 6 j3 + 1)) 5 j7 (S 5 j7 - S 9 2)) := by simp only [pm_aArgue, pm_ix_in hj3 (show (3 : Nat) < 2 ^ 31 by decide), pm_ix_in hj7 (show (3 : Nat) < 2 ^ 31 by decide), pm_ix_in hj11 (show (30 : Nat) < 2 ^ 31 by decide)] <;> ((repeat' split) <;> first | rfl | (exfalso; omega))
                exact W.iret hx hb hr (fun t ht _ => ⟨⟨_, (), rfl, (by rw [E]), (by show va_P D vwCl (pm_shS y q (pm_aArgue S (nI j3) (nI j7) (nI j11)).2) t.heap; rw [ht]; exact (by rw [E]; exact hP))⟩, hS.F ht⟩) hS.2.2 dX2_argueAgainst_107
            · skip
              refine lv_bipush (v := (-5)) hx hb dX2_argueAgainst_60 (by decide) ?_
              have E : pm_aArgue S (nI j3) (nI j7) (nI j11) = ((-5), S) := by simp only [pm_aArgue, pm_ix_in hj3 (show (3 : Nat) < 2 ^ 31 by decide), pm_ix_in hj7 (show (3 : Nat) < 2 ^ 31 by decide), pm_ix_in hj11 (show (30 : Nat) < 2 ^ 31 by decide)] <;> ((repeat' split) <;> first | rfl | (exfalso; omega))
              exact W.iret hx hb hr (fun t ht _ => ⟨⟨_, (), rfl, (by rw [E]), (by show va_P D vwCl (pm_shS y q (pm_aArgue S (nI j3) (nI j7) (nI j11)).2) t.heap; rw [ht]; exact (by rw [E]; exact hP))⟩, hS.F ht⟩) hS.2.2 dX2_argueAgainst_62
        · skip
          refine lv_bipush (v := (-2)) hx hb dX2_argueAgainst_28 (by decide) ?_
          have E : pm_aArgue S (nI j3) (nI j7) (nI j11) = ((-2), S) := by simp only [pm_aArgue, pm_ix_in hj3 (show (3 : Nat) < 2 ^ 31 by decide), pm_ix_in hj7 (show (3 : Nat) < 2 ^ 31 by decide), pm_ix_in hj11 (show (30 : Nat) < 2 ^ 31 by decide)] <;> ((repeat' split) <;> first | rfl | (exfalso; omega))
          exact W.iret hx hb hr (fun t ht _ => ⟨⟨_, (), rfl, (by rw [E]), (by show va_P D vwCl (pm_shS y q (pm_aArgue S (nI j3) (nI j7) (nI j11)).2) t.heap; rw [ht]; exact (by rw [E]; exact hP))⟩, hS.F ht⟩) hS.2.2 dX2_argueAgainst_30
      · skip
        refine lv_if_ne (tgt := 23) hx hb dX2_argueAgainst_18 (by decide) (fun c27 => (c27 (by decide)).elim) (fun _ => ?_)
        refine lv_iconst (v := -1) hx hb dX2_argueAgainst_21 (by decide) ?_
        have E : pm_aArgue S (nI j3) (nI j7) xf = (-1, S) := by simp only [pm_aArgue, pm_ix_in hj3 (show (3 : Nat) < 2 ^ 31 by decide), pm_ix_in hj7 (show (3 : Nat) < 2 ^ 31 by decide), pm_ix_out hnj11] <;> ((repeat' split) <;> first | rfl | (exfalso; omega))
        exact W.iret hx hb hr (fun t ht _ => ⟨⟨_, (), rfl, (by rw [E]), (by show va_P D vwCl (pm_shS y q (pm_aArgue S (nI j3) (nI j7) xf).2) t.heap; rw [ht]; exact (by rw [E]; exact hP))⟩, hS.F ht⟩) hS.2.2 dX2_argueAgainst_22
    · skip
      refine lv_if_eq (tgt := 21) hx hb dX2_argueAgainst_11 (by decide) (fun _ => ?_) (fun c28 => (c28 (by decide)).elim)
      refine lv_iconst (v := -1) hx hb dX2_argueAgainst_21 (by decide) ?_
      have E : pm_aArgue S (nI j3) xo xf = (-1, S) := by simp only [pm_aArgue, pm_ix_in hj3 (show (3 : Nat) < 2 ^ 31 by decide), pm_ix_out hnj7] <;> ((repeat' split) <;> first | rfl | (exfalso; omega))
      exact W.iret hx hb hr (fun t ht _ => ⟨⟨_, (), rfl, (by rw [E]), (by show va_P D vwCl (pm_shS y q (pm_aArgue S (nI j3) xo xf).2) t.heap; rw [ht]; exact (by rw [E]; exact hP))⟩, hS.F ht⟩) hS.2.2 dX2_argueAgainst_22
  · skip
    refine lv_if_eq (tgt := 21) hx hb dX2_argueAgainst_4 (by decide) (fun _ => ?_) (fun c29 => (c29 (by decide)).elim)
    refine lv_iconst (v := -1) hx hb dX2_argueAgainst_21 (by decide) ?_
    have E : pm_aArgue S xe xo xf = (-1, S) := by simp only [pm_aArgue, pm_ix_out hnj3] <;> ((repeat' split) <;> first | rfl | (exfalso; omega))
    exact W.iret hx hb hr (fun t ht _ => ⟨⟨_, (), rfl, (by rw [E]), (by show va_P D vwCl (pm_shS y q (pm_aArgue S xe xo xf).2) t.heap; rw [ht]; exact (by rw [E]; exact hP))⟩, hS.F ht⟩) hS.2.2 dX2_argueAgainst_22
end
