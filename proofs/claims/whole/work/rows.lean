section
-- ===== PART A: goes FIRST, ahead of the names: the tables' words, and 'selects' of the private methods out of them =====
/-- a private method of a class that the tables say can be made, by its rows of tables_1 -/
def lw_okq (q : MethodName × Nat) : Prop := (q.1.cls ≠ "java/lang/invoke/MethodHandle" ∧ q.1.cls ≠ "java/lang/invoke/VarHandle") ∧ Cond.instantiable q.1.cls q.2 ∈ tables_1 ∧ Cond.privateMethod q.1 ∈ tables_1 ∧ Cond.instanceMethod q.1 ∈ tables_1
theorem lw_p0 : lw_okq (⟨"SparseChecks$Reading", "takesBits", "(I)Z"⟩, 7) := ⟨⟨by decide +kernel, by decide +kernel⟩, List.mem_of_getElem? (i := 30) (by decide +kernel), List.mem_of_getElem? (i := 277) (by decide +kernel), List.mem_of_getElem? (i := 278) (by decide +kernel)⟩
theorem lw_p1 : lw_okq (⟨"SparseChecks$Reading", "takesOffset", "(I)Z"⟩, 7) := ⟨⟨by decide +kernel, by decide +kernel⟩, List.mem_of_getElem? (i := 30) (by decide +kernel), List.mem_of_getElem? (i := 281) (by decide +kernel), List.mem_of_getElem? (i := 282) (by decide +kernel)⟩
theorem lw_p2 : lw_okq (⟨"SparseChecks$Reading", "takesInCheck", "(I)Z"⟩, 7) := ⟨⟨by decide +kernel, by decide +kernel⟩, List.mem_of_getElem? (i := 30) (by decide +kernel), List.mem_of_getElem? (i := 285) (by decide +kernel), List.mem_of_getElem? (i := 286) (by decide +kernel)⟩
theorem lw_p3 : lw_okq (⟨"SparseChecks$Reading", "takesCheck", "(I)Z"⟩, 7) := ⟨⟨by decide +kernel, by decide +kernel⟩, List.mem_of_getElem? (i := 30) (by decide +kernel), List.mem_of_getElem? (i := 289) (by decide +kernel), List.mem_of_getElem? (i := 290) (by decide +kernel)⟩
theorem lw_p4 : lw_okq (⟨"SparseChecks$Ways", "ringOver", "(II)I"⟩, 1) := ⟨⟨by decide +kernel, by decide +kernel⟩, List.mem_of_getElem? (i := 154) (by decide +kernel), List.mem_of_getElem? (i := 359) (by decide +kernel), List.mem_of_getElem? (i := 360) (by decide +kernel)⟩
theorem lw_p5 : lw_okq (⟨"SparseChecks$Ways", "bitsUnder", "(I)I"⟩, 1) := ⟨⟨by decide +kernel, by decide +kernel⟩, List.mem_of_getElem? (i := 154) (by decide +kernel), List.mem_of_getElem? (i := 367) (by decide +kernel), List.mem_of_getElem? (i := 368) (by decide +kernel)⟩
theorem lw_p6 : lw_okq (⟨"SparseChecks$Ways", "checksOverAny", "(I)I"⟩, 1) := ⟨⟨by decide +kernel, by decide +kernel⟩, List.mem_of_getElem? (i := 154) (by decide +kernel), List.mem_of_getElem? (i := 371) (by decide +kernel), List.mem_of_getElem? (i := 372) (by decide +kernel)⟩
theorem lw_p7 : lw_okq (⟨"SparseChecks$Sums", "joinsBasis", "(I)Z"⟩, 2) := ⟨⟨by decide +kernel, by decide +kernel⟩, List.mem_of_getElem? (i := 164) (by decide +kernel), List.mem_of_getElem? (i := 383) (by decide +kernel), List.mem_of_getElem? (i := 384) (by decide +kernel)⟩
theorem lw_p8 : lw_okq (⟨"SparseChecks", "needs", "()I"⟩, 11) := ⟨⟨by decide +kernel, by decide +kernel⟩, List.mem_of_getElem? (i := 16) (by decide +kernel), List.mem_of_getElem? (i := 399) (by decide +kernel), List.mem_of_getElem? (i := 400) (by decide +kernel)⟩
theorem lw_p9 : lw_okq (⟨"SparseChecks$Decoder", "findOthers", "(LSparseChecks$State;II)I"⟩, 5) := ⟨⟨by decide +kernel, by decide +kernel⟩, List.mem_of_getElem? (i := 128) (by decide +kernel), List.mem_of_getElem? (i := 417) (by decide +kernel), List.mem_of_getElem? (i := 418) (by decide +kernel)⟩
theorem lw_p10 : lw_okq (⟨"SparseChecks$Decoder", "sendMessages", "(LSparseChecks$State;III)Z"⟩, 5) := ⟨⟨by decide +kernel, by decide +kernel⟩, List.mem_of_getElem? (i := 128) (by decide +kernel), List.mem_of_getElem? (i := 421) (by decide +kernel), List.mem_of_getElem? (i := 422) (by decide +kernel)⟩
theorem lw_p11 : lw_okq (⟨"SparseChecks", "ends", "()I"⟩, 11) := ⟨⟨by decide +kernel, by decide +kernel⟩, List.mem_of_getElem? (i := 16) (by decide +kernel), List.mem_of_getElem? (i := 428) (by decide +kernel), List.mem_of_getElem? (i := 429) (by decide +kernel)⟩
theorem lw_p12 : lw_okq (⟨"SparseChecks", "best", "()I"⟩, 11) := ⟨⟨by decide +kernel, by decide +kernel⟩, List.mem_of_getElem? (i := 16) (by decide +kernel), List.mem_of_getElem? (i := 432) (by decide +kernel), List.mem_of_getElem? (i := 433) (by decide +kernel)⟩
theorem lw_p13 : lw_okq (⟨"SparseChecks$Ways", "farthestChecks", "(I)I"⟩, 1) := ⟨⟨by decide +kernel, by decide +kernel⟩, List.mem_of_getElem? (i := 154) (by decide +kernel), List.mem_of_getElem? (i := 491) (by decide +kernel), List.mem_of_getElem? (i := 492) (by decide +kernel)⟩
theorem lw_p14 : lw_okq (⟨"SparseChecks$Sums", "isTrap", "(III)Z"⟩, 2) := ⟨⟨by decide +kernel, by decide +kernel⟩, List.mem_of_getElem? (i := 164) (by decide +kernel), List.mem_of_getElem? (i := 517) (by decide +kernel), List.mem_of_getElem? (i := 518) (by decide +kernel)⟩
theorem lw_p15 : lw_okq (⟨"SparseChecks$Seen", "mostRounds", "()I"⟩, 3) := ⟨⟨by decide +kernel, by decide +kernel⟩, List.mem_of_getElem? (i := 197) (by decide +kernel), List.mem_of_getElem? (i := 586) (by decide +kernel), List.mem_of_getElem? (i := 587) (by decide +kernel)⟩
def lw_privs_1 : List (MethodName × Nat) := [(⟨"SparseChecks$Reading", "takesBits", "(I)Z"⟩, 7), (⟨"SparseChecks$Reading", "takesOffset", "(I)Z"⟩, 7), (⟨"SparseChecks$Reading", "takesInCheck", "(I)Z"⟩, 7), (⟨"SparseChecks$Reading", "takesCheck", "(I)Z"⟩, 7), (⟨"SparseChecks$Ways", "ringOver", "(II)I"⟩, 1), (⟨"SparseChecks$Ways", "bitsUnder", "(I)I"⟩, 1), (⟨"SparseChecks$Ways", "checksOverAny", "(I)I"⟩, 1), (⟨"SparseChecks$Sums", "joinsBasis", "(I)Z"⟩, 2), (⟨"SparseChecks", "needs", "()I"⟩, 11), (⟨"SparseChecks$Decoder", "findOthers", "(LSparseChecks$State;II)I"⟩, 5), (⟨"SparseChecks$Decoder", "sendMessages", "(LSparseChecks$State;III)Z"⟩, 5), (⟨"SparseChecks", "ends", "()I"⟩, 11), (⟨"SparseChecks", "best", "()I"⟩, 11), (⟨"SparseChecks$Ways", "farthestChecks", "(I)I"⟩, 1), (⟨"SparseChecks$Sums", "isTrap", "(III)Z"⟩, 2), (⟨"SparseChecks$Seen", "mostRounds", "()I"⟩, 3)]
theorem lw_r1 : ∀ q ∈ lw_privs_1, lw_okq q := List.forall_mem_cons.mpr ⟨lw_p0, List.forall_mem_cons.mpr ⟨lw_p1, List.forall_mem_cons.mpr ⟨lw_p2, List.forall_mem_cons.mpr ⟨lw_p3, List.forall_mem_cons.mpr ⟨lw_p4, List.forall_mem_cons.mpr ⟨lw_p5, List.forall_mem_cons.mpr ⟨lw_p6, List.forall_mem_cons.mpr ⟨lw_p7, List.forall_mem_cons.mpr ⟨lw_p8, List.forall_mem_cons.mpr ⟨lw_p9, List.forall_mem_cons.mpr ⟨lw_p10, List.forall_mem_cons.mpr ⟨lw_p11, List.forall_mem_cons.mpr ⟨lw_p12, List.forall_mem_cons.mpr ⟨lw_p13, List.forall_mem_cons.mpr ⟨lw_p14, List.forall_mem_cons.mpr ⟨lw_p15, fun _ h => absurd h List.not_mem_nil⟩⟩⟩⟩⟩⟩⟩⟩⟩⟩⟩⟩⟩⟩⟩⟩
theorem lw_p16 : lw_okq (⟨"SparseChecks$Seen", "isSoBehind", "(II)Z"⟩, 3) := ⟨⟨by decide +kernel, by decide +kernel⟩, List.mem_of_getElem? (i := 197) (by decide +kernel), List.mem_of_getElem? (i := 595) (by decide +kernel), List.mem_of_getElem? (i := 596) (by decide +kernel)⟩
theorem lw_p17 : lw_okq (⟨"SparseChecks", "endsEmpty", "(II)Z"⟩, 11) := ⟨⟨by decide +kernel, by decide +kernel⟩, List.mem_of_getElem? (i := 16) (by decide +kernel), List.mem_of_getElem? (i := 624) (by decide +kernel), List.mem_of_getElem? (i := 625) (by decide +kernel)⟩
theorem lw_p18 : lw_okq (⟨"SparseChecksModel", "layOrder", "()V"⟩, 26) := ⟨⟨by decide +kernel, by decide +kernel⟩, List.mem_of_getElem? (i := 646) (by decide +kernel), List.mem_of_getElem? (i := 652) (by decide +kernel), List.mem_of_getElem? (i := 653) (by decide +kernel)⟩
theorem lw_p19 : lw_okq (⟨"SparseChecksModel", "readText", "()I"⟩, 26) := ⟨⟨by decide +kernel, by decide +kernel⟩, List.mem_of_getElem? (i := 646) (by decide +kernel), List.mem_of_getElem? (i := 751) (by decide +kernel), List.mem_of_getElem? (i := 752) (by decide +kernel)⟩
theorem lw_p20 : lw_okq (⟨"SparseChecksModel", "take", "(I)Z"⟩, 26) := ⟨⟨by decide +kernel, by decide +kernel⟩, List.mem_of_getElem? (i := 646) (by decide +kernel), List.mem_of_getElem? (i := 755) (by decide +kernel), List.mem_of_getElem? (i := 756) (by decide +kernel)⟩
theorem lw_p21 : lw_okq (⟨"SparseChecksModel", "wordOf", "([I)I"⟩, 26) := ⟨⟨by decide +kernel, by decide +kernel⟩, List.mem_of_getElem? (i := 646) (by decide +kernel), List.mem_of_getElem? (i := 769) (by decide +kernel), List.mem_of_getElem? (i := 770) (by decide +kernel)⟩
theorem lw_p22 : lw_okq (⟨"SparseChecksModel", "openOf", "([I)I"⟩, 26) := ⟨⟨by decide +kernel, by decide +kernel⟩, List.mem_of_getElem? (i := 646) (by decide +kernel), List.mem_of_getElem? (i := 773) (by decide +kernel), List.mem_of_getElem? (i := 774) (by decide +kernel)⟩
theorem lw_p23 : lw_okq (⟨"SparseChecksModel", "openBy", "([II)I"⟩, 26) := ⟨⟨by decide +kernel, by decide +kernel⟩, List.mem_of_getElem? (i := 646) (by decide +kernel), List.mem_of_getElem? (i := 777) (by decide +kernel), List.mem_of_getElem? (i := 778) (by decide +kernel)⟩
theorem lw_p24 : lw_okq (⟨"SparseChecksModel", "ring", "()I"⟩, 26) := ⟨⟨by decide +kernel, by decide +kernel⟩, List.mem_of_getElem? (i := 646) (by decide +kernel), List.mem_of_getElem? (i := 784) (by decide +kernel), List.mem_of_getElem? (i := 785) (by decide +kernel)⟩
theorem lw_p25 : lw_okq (⟨"SparseChecksModel", "layWays", "([IIII)V"⟩, 26) := ⟨⟨by decide +kernel, by decide +kernel⟩, List.mem_of_getElem? (i := 646) (by decide +kernel), List.mem_of_getElem? (i := 791) (by decide +kernel), List.mem_of_getElem? (i := 792) (by decide +kernel)⟩
theorem lw_p26 : lw_okq (⟨"SparseChecksModel", "rankBy", "(I)I"⟩, 26) := ⟨⟨by decide +kernel, by decide +kernel⟩, List.mem_of_getElem? (i := 646) (by decide +kernel), List.mem_of_getElem? (i := 795) (by decide +kernel), List.mem_of_getElem? (i := 796) (by decide +kernel)⟩
theorem lw_p27 : lw_okq (⟨"SparseChecksModel", "distance", "()I"⟩, 26) := ⟨⟨by decide +kernel, by decide +kernel⟩, List.mem_of_getElem? (i := 646) (by decide +kernel), List.mem_of_getElem? (i := 799) (by decide +kernel), List.mem_of_getElem? (i := 800) (by decide +kernel)⟩
theorem lw_p28 : lw_okq (⟨"SparseChecksModel", "needs", "()I"⟩, 26) := ⟨⟨by decide +kernel, by decide +kernel⟩, List.mem_of_getElem? (i := 646) (by decide +kernel), List.mem_of_getElem? (i := 803) (by decide +kernel), List.mem_of_getElem? (i := 804) (by decide +kernel)⟩
theorem lw_p29 : lw_okq (⟨"SparseChecksModel", "solve", "()I"⟩, 26) := ⟨⟨by decide +kernel, by decide +kernel⟩, List.mem_of_getElem? (i := 646) (by decide +kernel), List.mem_of_getElem? (i := 810) (by decide +kernel), List.mem_of_getElem? (i := 811) (by decide +kernel)⟩
theorem lw_p30 : lw_okq (⟨"SparseChecksModel", "goOn", "([I)V"⟩, 26) := ⟨⟨by decide +kernel, by decide +kernel⟩, List.mem_of_getElem? (i := 646) (by decide +kernel), List.mem_of_getElem? (i := 817) (by decide +kernel), List.mem_of_getElem? (i := 818) (by decide +kernel)⟩
theorem lw_p31 : lw_okq (⟨"SparseChecksModel", "goCheck", "([II)V"⟩, 26) := ⟨⟨by decide +kernel, by decide +kernel⟩, List.mem_of_getElem? (i := 646) (by decide +kernel), List.mem_of_getElem? (i := 821) (by decide +kernel), List.mem_of_getElem? (i := 822) (by decide +kernel)⟩
def lw_privs_2 : List (MethodName × Nat) := [(⟨"SparseChecks$Seen", "isSoBehind", "(II)Z"⟩, 3), (⟨"SparseChecks", "endsEmpty", "(II)Z"⟩, 11), (⟨"SparseChecksModel", "layOrder", "()V"⟩, 26), (⟨"SparseChecksModel", "readText", "()I"⟩, 26), (⟨"SparseChecksModel", "take", "(I)Z"⟩, 26), (⟨"SparseChecksModel", "wordOf", "([I)I"⟩, 26), (⟨"SparseChecksModel", "openOf", "([I)I"⟩, 26), (⟨"SparseChecksModel", "openBy", "([II)I"⟩, 26), (⟨"SparseChecksModel", "ring", "()I"⟩, 26), (⟨"SparseChecksModel", "layWays", "([IIII)V"⟩, 26), (⟨"SparseChecksModel", "rankBy", "(I)I"⟩, 26), (⟨"SparseChecksModel", "distance", "()I"⟩, 26), (⟨"SparseChecksModel", "needs", "()I"⟩, 26), (⟨"SparseChecksModel", "solve", "()I"⟩, 26), (⟨"SparseChecksModel", "goOn", "([I)V"⟩, 26), (⟨"SparseChecksModel", "goCheck", "([II)V"⟩, 26)]
theorem lw_r2 : ∀ q ∈ lw_privs_2, lw_okq q := List.forall_mem_cons.mpr ⟨lw_p16, List.forall_mem_cons.mpr ⟨lw_p17, List.forall_mem_cons.mpr ⟨lw_p18, List.forall_mem_cons.mpr ⟨lw_p19, List.forall_mem_cons.mpr ⟨lw_p20, List.forall_mem_cons.mpr ⟨lw_p21, List.forall_mem_cons.mpr ⟨lw_p22, List.forall_mem_cons.mpr ⟨lw_p23, List.forall_mem_cons.mpr ⟨lw_p24, List.forall_mem_cons.mpr ⟨lw_p25, List.forall_mem_cons.mpr ⟨lw_p26, List.forall_mem_cons.mpr ⟨lw_p27, List.forall_mem_cons.mpr ⟨lw_p28, List.forall_mem_cons.mpr ⟨lw_p29, List.forall_mem_cons.mpr ⟨lw_p30, List.forall_mem_cons.mpr ⟨lw_p31, fun _ h => absurd h List.not_mem_nil⟩⟩⟩⟩⟩⟩⟩⟩⟩⟩⟩⟩⟩⟩⟩⟩
theorem lw_p32 : lw_okq (⟨"SparseChecksModel", "ends", "()I"⟩, 26) := ⟨⟨by decide +kernel, by decide +kernel⟩, List.mem_of_getElem? (i := 646) (by decide +kernel), List.mem_of_getElem? (i := 828) (by decide +kernel), List.mem_of_getElem? (i := 829) (by decide +kernel)⟩
theorem lw_p33 : lw_okq (⟨"SparseChecksModel", "best", "()I"⟩, 26) := ⟨⟨by decide +kernel, by decide +kernel⟩, List.mem_of_getElem? (i := 646) (by decide +kernel), List.mem_of_getElem? (i := 832) (by decide +kernel), List.mem_of_getElem? (i := 833) (by decide +kernel)⟩
theorem lw_p34 : lw_okq (⟨"SparseChecksModel", "isBit", "(I)Z"⟩, 26) := ⟨⟨by decide +kernel, by decide +kernel⟩, List.mem_of_getElem? (i := 646) (by decide +kernel), List.mem_of_getElem? (i := 840) (by decide +kernel), List.mem_of_getElem? (i := 841) (by decide +kernel)⟩
theorem lw_p35 : lw_okq (⟨"SparseChecksModel", "checksOver", "([II)I"⟩, 26) := ⟨⟨by decide +kernel, by decide +kernel⟩, List.mem_of_getElem? (i := 646) (by decide +kernel), List.mem_of_getElem? (i := 844) (by decide +kernel), List.mem_of_getElem? (i := 845) (by decide +kernel)⟩
theorem lw_p36 : lw_okq (⟨"SparseChecksModel", "isCheck", "(I)Z"⟩, 26) := ⟨⟨by decide +kernel, by decide +kernel⟩, List.mem_of_getElem? (i := 646) (by decide +kernel), List.mem_of_getElem? (i := 852) (by decide +kernel), List.mem_of_getElem? (i := 853) (by decide +kernel)⟩
theorem lw_p37 : lw_okq (⟨"SparseChecksModel", "note", "()V"⟩, 26) := ⟨⟨by decide +kernel, by decide +kernel⟩, List.mem_of_getElem? (i := 646) (by decide +kernel), List.mem_of_getElem? (i := 866) (by decide +kernel), List.mem_of_getElem? (i := 867) (by decide +kernel)⟩
theorem lw_p38 : lw_okq (⟨"SparseChecksModel", "isBefore", "(II)Z"⟩, 26) := ⟨⟨by decide +kernel, by decide +kernel⟩, List.mem_of_getElem? (i := 646) (by decide +kernel), List.mem_of_getElem? (i := 890) (by decide +kernel), List.mem_of_getElem? (i := 891) (by decide +kernel)⟩
theorem lw_p39 : lw_okq (⟨"SparseChecksModel", "judged", "(III)Z"⟩, 26) := ⟨⟨by decide +kernel, by decide +kernel⟩, List.mem_of_getElem? (i := 646) (by decide +kernel), List.mem_of_getElem? (i := 920) (by decide +kernel), List.mem_of_getElem? (i := 921) (by decide +kernel)⟩
theorem lw_p40 : lw_okq (⟨"SparseChecksModel", "isSoBy", "(II)Z"⟩, 26) := ⟨⟨by decide +kernel, by decide +kernel⟩, List.mem_of_getElem? (i := 646) (by decide +kernel), List.mem_of_getElem? (i := 938) (by decide +kernel), List.mem_of_getElem? (i := 939) (by decide +kernel)⟩
def lw_privs_3 : List (MethodName × Nat) := [(⟨"SparseChecksModel", "ends", "()I"⟩, 26), (⟨"SparseChecksModel", "best", "()I"⟩, 26), (⟨"SparseChecksModel", "isBit", "(I)Z"⟩, 26), (⟨"SparseChecksModel", "checksOver", "([II)I"⟩, 26), (⟨"SparseChecksModel", "isCheck", "(I)Z"⟩, 26), (⟨"SparseChecksModel", "note", "()V"⟩, 26), (⟨"SparseChecksModel", "isBefore", "(II)Z"⟩, 26), (⟨"SparseChecksModel", "judged", "(III)Z"⟩, 26), (⟨"SparseChecksModel", "isSoBy", "(II)Z"⟩, 26)]
theorem lw_r3 : ∀ q ∈ lw_privs_3, lw_okq q := List.forall_mem_cons.mpr ⟨lw_p32, List.forall_mem_cons.mpr ⟨lw_p33, List.forall_mem_cons.mpr ⟨lw_p34, List.forall_mem_cons.mpr ⟨lw_p35, List.forall_mem_cons.mpr ⟨lw_p36, List.forall_mem_cons.mpr ⟨lw_p37, List.forall_mem_cons.mpr ⟨lw_p38, List.forall_mem_cons.mpr ⟨lw_p39, List.forall_mem_cons.mpr ⟨lw_p40, fun _ h => absurd h List.not_mem_nil⟩⟩⟩⟩⟩⟩⟩⟩⟩
def lw_privs : List (MethodName × Nat) := lw_privs_1 ++ (lw_privs_2 ++ (lw_privs_3))
def lw_tbl : List Cond := k2_sels lw_privs ++ tables_1
theorem lw_privs_ok : ∀ q ∈ lw_privs, lw_okq q := by
  show ∀ q ∈ lw_privs_1 ++ (lw_privs_2 ++ (lw_privs_3)), lw_okq q
  exact List.forall_mem_append.mpr ⟨lw_r1, List.forall_mem_append.mpr ⟨lw_r2, lw_r3⟩⟩

/-! ===== BEGIN printed: names, fields, word lists, decode rows ===== -/
def RX0 : String := "SparseChecks$Acts"
def TX0 : u_T := fun k => match k with
  | 0 => ("SparseChecks$Acts", "ahead", "[LSparseChecks$State;", true)
  | 1 => ("SparseChecks$Acts", "first", "I", false)
  | _ => ("SparseChecks$Acts", "count", "I", false)
def tyX0 : Nat → FieldType := fun k => match k with
  | 0 => .array (.object "SparseChecks$State")
  | 1 => .int
  | _ => .int
abbrev wsX00 : List Cond := u_ws RX0 TX0 3
theorem nmX0 : ∀ a, a < 3 → ∀ b, b < 3 → a ≠ b → (TX0 a).2.1 ≠ (TX0 b).2.1 := by decide +kernel
theorem tyX0_ok : ∀ k, k < 3 → parseFieldDescriptor (TX0 k).2.2.1 = some (tyX0 k) := by decide +kernel
abbrev cX0_init : ByteArray := prog_2_method_1_code
def yX0_init : MethodName := ⟨RX0, "<init>", "()V"⟩
abbrev cX0_remember : ByteArray := prog_2_method_2_code
def yX0_remember : MethodName := ⟨RX0, "remember", "(LSparseChecks$State;)V"⟩
abbrev cX0_giveBackLast : ByteArray := prog_2_method_3_code
def yX0_giveBackLast : MethodName := ⟨RX0, "giveBackLast", "(LSparseChecks$State;)V"⟩
abbrev cX0_forgetAll : ByteArray := prog_2_method_4_code
def yX0_forgetAll : MethodName := ⟨RX0, "forgetAll", "()V"⟩
def RX1 : String := "SparseChecks$Decoder"
def TX1 : u_T := fun k => match k with
  | 0 => ("SparseChecks$Decoder", "order", "[I", true)
  | 1 => ("SparseChecks$Decoder", "q", "[I", true)
  | 2 => ("SparseChecks$Decoder", "least", "I", false)
  | 3 => ("SparseChecks$Decoder", "second", "I", false)
  | _ => ("SparseChecks$Decoder", "leastBit", "I", false)
def tyX1 : Nat → FieldType := fun k => match k with
  | 0 => .array .int
  | 1 => .array .int
  | 2 => .int
  | 3 => .int
  | _ => .int
abbrev wsX10 : List Cond := u_ws RX1 TX1 5
theorem nmX1 : ∀ a, a < 5 → ∀ b, b < 5 → a ≠ b → (TX1 a).2.1 ≠ (TX1 b).2.1 := by decide +kernel
theorem tyX1_ok : ∀ k, k < 5 → parseFieldDescriptor (TX1 k).2.2.1 = some (tyX1 k) := by decide +kernel
abbrev cX1_init : ByteArray := prog_3_method_1_code
def yX1_init : MethodName := ⟨RX1, "<init>", "()V"⟩
abbrev cX1_orderAsNumbered : ByteArray := prog_3_method_2_code
def yX1_orderAsNumbered : MethodName := ⟨RX1, "orderAsNumbered", "()V"⟩
abbrev cX1_orderBy : ByteArray := prog_3_method_3_code
def yX1_orderBy : MethodName := ⟨RX1, "orderBy", "(II)Z"⟩
abbrev cX1_runRounds : ByteArray := prog_3_method_4_code
def yX1_runRounds : MethodName := ⟨RX1, "runRounds", "(LSparseChecks$State;I)V"⟩
abbrev cX1_runUntilSolved : ByteArray := prog_3_method_5_code
def yX1_runUntilSolved : MethodName := ⟨RX1, "runUntilSolved", "(LSparseChecks$State;)I"⟩
abbrev cX1_runRound : ByteArray := prog_3_method_6_code
def yX1_runRound : MethodName := ⟨RX1, "runRound", "(LSparseChecks$State;)Z"⟩
abbrev cX1_findOthers : ByteArray := prog_3_method_7_code
def yX1_findOthers : MethodName := ⟨RX1, "findOthers", "(LSparseChecks$State;II)I"⟩
abbrev cX1_sendMessages : ByteArray := prog_3_method_8_code
def yX1_sendMessages : MethodName := ⟨RX1, "sendMessages", "(LSparseChecks$State;III)Z"⟩
def RX2 : String := "SparseChecks$Doings"
def TX2 : u_T := fun k => match k with
  | _ => ("", "", "", false)
def tyX2 : Nat → FieldType := fun k => match k with
  | _ => .int
abbrev wsX20 : List Cond := u_ws RX2 TX2 0
theorem nmX2 : ∀ a, a < 0 → ∀ b, b < 0 → a ≠ b → (TX2 a).2.1 ≠ (TX2 b).2.1 := by decide +kernel
theorem tyX2_ok : ∀ k, k < 0 → parseFieldDescriptor (TX2 k).2.2.1 = some (tyX2 k) := by decide +kernel
abbrev cX2_withoutLast : ByteArray := prog_4_method_2_code
def yX2_withoutLast : MethodName := ⟨RX2, "withoutLast", "(JI)J"⟩
abbrev cX2_goesThrough : ByteArray := prog_4_method_3_code
def yX2_goesThrough : MethodName := ⟨RX2, "goesThrough", "(ILSparseChecks$State;LSparseChecks$Decoder;)Z"⟩
abbrev cX2_runs : ByteArray := prog_4_method_4_code
def yX2_runs : MethodName := ⟨RX2, "runs", "(ILSparseChecks$State;LSparseChecks$Decoder;)Z"⟩
abbrev cX2_begins : ByteArray := prog_4_method_5_code
def yX2_begins : MethodName := ⟨RX2, "begins", "(LSparseChecks$State;)Z"⟩
abbrev cX2_puts : ByteArray := prog_4_method_6_code
def yX2_puts : MethodName := ⟨RX2, "puts", "(IILSparseChecks$State;)Z"⟩
abbrev cX2_offsets : ByteArray := prog_4_method_7_code
def yX2_offsets : MethodName := ⟨RX2, "offsets", "(ILSparseChecks$State;)Z"⟩
def RX3 : String := "SparseChecks$Reading"
def TX3 : u_T := fun k => match k with
  | 0 => ("SparseChecks$Reading", "over", "[I", true)
  | 1 => ("SparseChecks$Reading", "place", "I", false)
  | 2 => ("SparseChecks$Reading", "bits", "I", false)
  | 3 => ("SparseChecks$Reading", "offset", "I", false)
  | 4 => ("SparseChecks$Reading", "checks", "I", false)
  | 5 => ("SparseChecks$Reading", "leastNextBit", "I", false)
  | _ => ("SparseChecks$Reading", "insideCheck", "Z", false)
def tyX3 : Nat → FieldType := fun k => match k with
  | 0 => .array .int
  | 1 => .int
  | 2 => .int
  | 3 => .int
  | 4 => .int
  | 5 => .int
  | _ => .boolean
abbrev wsX30 : List Cond := u_ws RX3 TX3 7
theorem nmX3 : ∀ a, a < 7 → ∀ b, b < 7 → a ≠ b → (TX3 a).2.1 ≠ (TX3 b).2.1 := by decide +kernel
theorem tyX3_ok : ∀ k, k < 7 → parseFieldDescriptor (TX3 k).2.2.1 = some (tyX3 k) := by decide +kernel
abbrev cX3_init : ByteArray := prog_5_method_1_code
def yX3_init : MethodName := ⟨RX3, "<init>", "()V"⟩
abbrev cX3_startAnew : ByteArray := prog_5_method_2_code
def yX3_startAnew : MethodName := ⟨RX3, "startAnew", "()V"⟩
abbrev cX3_takes : ByteArray := prog_5_method_3_code
def yX3_takes : MethodName := ⟨RX3, "takes", "(I)Z"⟩
abbrev cX3_mayEnd : ByteArray := prog_5_method_4_code
def yX3_mayEnd : MethodName := ⟨RX3, "mayEnd", "()Z"⟩
abbrev cX3_takesBits : ByteArray := prog_5_method_5_code
def yX3_takesBits : MethodName := ⟨RX3, "takesBits", "(I)Z"⟩
abbrev cX3_takesOffset : ByteArray := prog_5_method_6_code
def yX3_takesOffset : MethodName := ⟨RX3, "takesOffset", "(I)Z"⟩
abbrev cX3_takesCheck : ByteArray := prog_5_method_7_code
def yX3_takesCheck : MethodName := ⟨RX3, "takesCheck", "(I)Z"⟩
abbrev cX3_takesInCheck : ByteArray := prog_5_method_8_code
def yX3_takesInCheck : MethodName := ⟨RX3, "takesInCheck", "(I)Z"⟩
def RX4 : String := "SparseChecks$Seen"
def TX4 : u_T := fun k => match k with
  | 0 => ("SparseChecks$Seen", "rounds", "[I", true)
  | 1 => ("SparseChecks$Seen", "open", "[I", true)
  | _ => ("SparseChecks$Seen", "count", "I", false)
def tyX4 : Nat → FieldType := fun k => match k with
  | 0 => .array .int
  | 1 => .array .int
  | _ => .int
abbrev wsX40 : List Cond := u_ws RX4 TX4 3
theorem nmX4 : ∀ a, a < 3 → ∀ b, b < 3 → a ≠ b → (TX4 a).2.1 ≠ (TX4 b).2.1 := by decide +kernel
theorem tyX4_ok : ∀ k, k < 3 → parseFieldDescriptor (TX4 k).2.2.1 = some (tyX4 k) := by decide +kernel
abbrev cX4_init : ByteArray := prog_6_method_1_code
def yX4_init : MethodName := ⟨RX4, "<init>", "()V"⟩
abbrev cX4_add : ByteArray := prog_6_method_2_code
def yX4_add : MethodName := ⟨RX4, "add", "(II)I"⟩
abbrev cX4_isSoBy : ByteArray := prog_6_method_3_code
def yX4_isSoBy : MethodName := ⟨RX4, "isSoBy", "(LSparseChecks$State;LSparseChecks$Decoder;)Z"⟩
abbrev cX4_mostRounds : ByteArray := prog_6_method_4_code
def yX4_mostRounds : MethodName := ⟨RX4, "mostRounds", "()I"⟩
abbrev cX4_isSoBehind : ByteArray := prog_6_method_5_code
def yX4_isSoBehind : MethodName := ⟨RX4, "isSoBehind", "(II)Z"⟩
def RX5 : String := "SparseChecks$State"
def TX5 : u_T := fun k => match k with
  | 0 => ("SparseChecks$State", "over", "[I", true)
  | 1 => ("SparseChecks$State", "level", "[I", true)
  | 2 => ("SparseChecks$State", "total", "[I", true)
  | 3 => ("SparseChecks$State", "message", "[I", true)
  | 4 => ("SparseChecks$State", "bits", "I", false)
  | 5 => ("SparseChecks$State", "checks", "I", false)
  | 6 => ("SparseChecks$State", "offset", "I", false)
  | _ => ("SparseChecks$State", "rounds", "I", false)
def tyX5 : Nat → FieldType := fun k => match k with
  | 0 => .array .int
  | 1 => .array .int
  | 2 => .array .int
  | 3 => .array .int
  | 4 => .int
  | 5 => .int
  | 6 => .int
  | _ => .int
abbrev wsX50 : List Cond := u_ws RX5 TX5 8
theorem nmX5 : ∀ a, a < 8 → ∀ b, b < 8 → a ≠ b → (TX5 a).2.1 ≠ (TX5 b).2.1 := by decide +kernel
theorem tyX5_ok : ∀ k, k < 8 → parseFieldDescriptor (TX5 k).2.2.1 = some (tyX5 k) := by decide +kernel
abbrev cX5_init : ByteArray := prog_7_method_1_code
def yX5_init : MethodName := ⟨RX5, "<init>", "()V"⟩
abbrev cX5_becomeCode : ByteArray := prog_7_method_2_code
def yX5_becomeCode : MethodName := ⟨RX5, "becomeCode", "(LSparseChecks$Reading;)V"⟩
abbrev cX5_becomeLike : ByteArray := prog_7_method_3_code
def yX5_becomeLike : MethodName := ⟨RX5, "becomeLike", "(LSparseChecks$State;)V"⟩
abbrev cX5_beginAnew : ByteArray := prog_7_method_4_code
def yX5_beginAnew : MethodName := ⟨RX5, "beginAnew", "()V"⟩
abbrev cX5_hasBit : ByteArray := prog_7_method_5_code
def yX5_hasBit : MethodName := ⟨RX5, "hasBit", "(I)Z"⟩
abbrev cX5_hasCheck : ByteArray := prog_7_method_6_code
def yX5_hasCheck : MethodName := ⟨RX5, "hasCheck", "(I)Z"⟩
abbrev cX5_allChecks : ByteArray := prog_7_method_7_code
def yX5_allChecks : MethodName := ⟨RX5, "allChecks", "()I"⟩
abbrev cX5_isOver : ByteArray := prog_7_method_8_code
def yX5_isOver : MethodName := ⟨RX5, "isOver", "(II)Z"⟩
abbrev cX5_turnOver : ByteArray := prog_7_method_9_code
def yX5_turnOver : MethodName := ⟨RX5, "turnOver", "(II)V"⟩
abbrev cX5_checksOver : ByteArray := prog_7_method_10_code
def yX5_checksOver : MethodName := ⟨RX5, "checksOver", "(I)I"⟩
abbrev cX5_word : ByteArray := prog_7_method_11_code
def yX5_word : MethodName := ⟨RX5, "word", "()I"⟩
abbrev cX5_open : ByteArray := prog_7_method_12_code
def yX5_open : MethodName := ⟨RX5, "open", "()I"⟩
abbrev cX5_openBy : ByteArray := prog_7_method_13_code
def yX5_openBy : MethodName := ⟨RX5, "openBy", "(I)I"⟩
abbrev cX5_solved : ByteArray := prog_7_method_14_code
def yX5_solved : MethodName := ⟨RX5, "solved", "()Z"⟩
def RX6 : String := "SparseChecks$Sums"
def TX6 : u_T := fun k => match k with
  | 0 => ("SparseChecks$Sums", "state", "LSparseChecks$State;", true)
  | _ => ("SparseChecks$Sums", "basis", "[I", true)
def tyX6 : Nat → FieldType := fun k => match k with
  | 0 => .object "SparseChecks$State"
  | _ => .array .int
abbrev wsX60 : List Cond := u_ws RX6 TX6 2
theorem nmX6 : ∀ a, a < 2 → ∀ b, b < 2 → a ≠ b → (TX6 a).2.1 ≠ (TX6 b).2.1 := by decide +kernel
theorem tyX6_ok : ∀ k, k < 2 → parseFieldDescriptor (TX6 k).2.2.1 = some (tyX6 k) := by decide +kernel
abbrev cX6_init : ByteArray := prog_8_method_1_code
def yX6_init : MethodName := ⟨RX6, "<init>", "(LSparseChecks$State;)V"⟩
abbrev cX6_rankOf : ByteArray := prog_8_method_2_code
def yX6_rankOf : MethodName := ⟨RX6, "rankOf", "(I)I"⟩
abbrev cX6_joinsBasis : ByteArray := prog_8_method_3_code
def yX6_joinsBasis : MethodName := ⟨RX6, "joinsBasis", "(I)Z"⟩
abbrev cX6_howManyWords : ByteArray := prog_8_method_4_code
def yX6_howManyWords : MethodName := ⟨RX6, "howManyWords", "()I"⟩
abbrev cX6_distance : ByteArray := prog_8_method_5_code
def yX6_distance : MethodName := ⟨RX6, "distance", "()I"⟩
abbrev cX6_howManyTraps : ByteArray := prog_8_method_6_code
def yX6_howManyTraps : MethodName := ⟨RX6, "howManyTraps", "(II)I"⟩
abbrev cX6_leastTrap : ByteArray := prog_8_method_7_code
def yX6_leastTrap : MethodName := ⟨RX6, "leastTrap", "(II)I"⟩
abbrev cX6_isTrap : ByteArray := prog_8_method_8_code
def yX6_isTrap : MethodName := ⟨RX6, "isTrap", "(III)Z"⟩
abbrev cX6_ordersInWhichRankGrows : ByteArray := prog_8_method_9_code
def yX6_ordersInWhichRankGrows : MethodName := ⟨RX6, "ordersInWhichRankGrows", "(I)I"⟩
def RX7 : String := "SparseChecks$Text"
def TX7 : u_T := fun k => match k with
  | 0 => ("SparseChecks$Text", "letters", "[I", true)
  | 1 => ("SparseChecks$Text", "reading", "LSparseChecks$Reading;", true)
  | _ => ("SparseChecks$Text", "length", "I", false)
def tyX7 : Nat → FieldType := fun k => match k with
  | 0 => .array .int
  | 1 => .object "SparseChecks$Reading"
  | _ => .int
abbrev wsX70 : List Cond := u_ws RX7 TX7 3
theorem nmX7 : ∀ a, a < 3 → ∀ b, b < 3 → a ≠ b → (TX7 a).2.1 ≠ (TX7 b).2.1 := by decide +kernel
theorem tyX7_ok : ∀ k, k < 3 → parseFieldDescriptor (TX7 k).2.2.1 = some (tyX7 k) := by decide +kernel
abbrev cX7_init : ByteArray := prog_9_method_1_code
def yX7_init : MethodName := ⟨RX7, "<init>", "()V"⟩
abbrev cX7_append : ByteArray := prog_9_method_2_code
def yX7_append : MethodName := ⟨RX7, "append", "(I)I"⟩
abbrev cX7_firstFault : ByteArray := prog_9_method_3_code
def yX7_firstFault : MethodName := ⟨RX7, "firstFault", "()I"⟩
def RX8 : String := "SparseChecks$Ways"
def TX8 : u_T := fun k => match k with
  | _ => ("SparseChecks$Ways", "state", "LSparseChecks$State;", true)
def tyX8 : Nat → FieldType := fun k => match k with
  | _ => .object "SparseChecks$State"
abbrev wsX80 : List Cond := u_ws RX8 TX8 1
theorem nmX8 : ∀ a, a < 1 → ∀ b, b < 1 → a ≠ b → (TX8 a).2.1 ≠ (TX8 b).2.1 := by decide +kernel
theorem tyX8_ok : ∀ k, k < 1 → parseFieldDescriptor (TX8 k).2.2.1 = some (tyX8 k) := by decide +kernel
abbrev cX8_init : ByteArray := prog_10_method_1_code
def yX8_init : MethodName := ⟨RX8, "<init>", "(LSparseChecks$State;)V"⟩
abbrev cX8_ring : ByteArray := prog_10_method_2_code
def yX8_ring : MethodName := ⟨RX8, "ring", "()I"⟩
abbrev cX8_ringOver : ByteArray := prog_10_method_3_code
def yX8_ringOver : MethodName := ⟨RX8, "ringOver", "(II)I"⟩
abbrev cX8_checkToGrowInto : ByteArray := prog_10_method_4_code
def yX8_checkToGrowInto : MethodName := ⟨RX8, "checkToGrowInto", "(I)I"⟩
abbrev cX8_farthestChecks : ByteArray := prog_10_method_5_code
def yX8_farthestChecks : MethodName := ⟨RX8, "farthestChecks", "(I)I"⟩
abbrev cX8_bitsUnder : ByteArray := prog_10_method_6_code
def yX8_bitsUnder : MethodName := ⟨RX8, "bitsUnder", "(I)I"⟩
abbrev cX8_checksOverAny : ByteArray := prog_10_method_7_code
def yX8_checksOverAny : MethodName := ⟨RX8, "checksOverAny", "(I)I"⟩
def RX9 : String := "SparseChecks"
def TX9 : u_T := fun k => match k with
  | 0 => ("SparseChecks", "text", "LSparseChecks$Text;", true)
  | 1 => ("SparseChecks", "now", "LSparseChecks$State;", true)
  | 2 => ("SparseChecks", "trial", "LSparseChecks$State;", true)
  | 3 => ("SparseChecks", "decoder", "LSparseChecks$Decoder;", true)
  | 4 => ("SparseChecks", "ways", "LSparseChecks$Ways;", true)
  | 5 => ("SparseChecks", "sums", "LSparseChecks$Sums;", true)
  | 6 => ("SparseChecks", "acts", "LSparseChecks$Acts;", true)
  | 7 => ("SparseChecks", "seen", "LSparseChecks$Seen;", true)
  | 8 => ("SparseChecks", "slots", "[LSparseChecks$State;", true)
  | 9 => ("SparseChecks", "kept", "[Z", true)
  | _ => ("SparseChecks", "seedNow", "J", false)
def tyX9 : Nat → FieldType := fun k => match k with
  | 0 => .object "SparseChecks$Text"
  | 1 => .object "SparseChecks$State"
  | 2 => .object "SparseChecks$State"
  | 3 => .object "SparseChecks$Decoder"
  | 4 => .object "SparseChecks$Ways"
  | 5 => .object "SparseChecks$Sums"
  | 6 => .object "SparseChecks$Acts"
  | 7 => .object "SparseChecks$Seen"
  | 8 => .array (.object "SparseChecks$State")
  | 9 => .array .boolean
  | _ => .long
abbrev wsX90 : List Cond := u_ws RX9 TX9 11
theorem nmX9 : ∀ a, a < 11 → ∀ b, b < 11 → a ≠ b → (TX9 a).2.1 ≠ (TX9 b).2.1 := by decide +kernel
theorem tyX9_ok : ∀ k, k < 11 → parseFieldDescriptor (TX9 k).2.2.1 = some (tyX9 k) := by decide +kernel
abbrev cX9_init : ByteArray := prog_1_method_1_code
def yX9_init : MethodName := ⟨RX9, "<init>", "()V"⟩
abbrev cX9_write : ByteArray := prog_1_method_2_code
def yX9_write : MethodName := ⟨RX9, "write", "(I)I"⟩
abbrev cX9_wipe : ByteArray := prog_1_method_3_code
def yX9_wipe : MethodName := ⟨RX9, "wipe", "()I"⟩
abbrev cX9_fault : ByteArray := prog_1_method_4_code
def yX9_fault : MethodName := ⟨RX9, "fault", "()I"⟩
abbrev cX9_code : ByteArray := prog_1_method_5_code
def yX9_code : MethodName := ⟨RX9, "code", "()I"⟩
abbrev cX9_about : ByteArray := prog_1_method_6_code
def yX9_about : MethodName := ⟨RX9, "about", "(I)I"⟩
abbrev cX9_bit : ByteArray := prog_1_method_7_code
def yX9_bit : MethodName := ⟨RX9, "bit", "(II)I"⟩
abbrev cX9_check : ByteArray := prog_1_method_8_code
def yX9_check : MethodName := ⟨RX9, "check", "(I)I"⟩
abbrev cX9_message : ByteArray := prog_1_method_9_code
def yX9_message : MethodName := ⟨RX9, "message", "(II)I"⟩
abbrev cX9_level : ByteArray := prog_1_method_10_code
def yX9_level : MethodName := ⟨RX9, "level", "(II)I"⟩
abbrev cX9_begin : ByteArray := prog_1_method_11_code
def yX9_begin : MethodName := ⟨RX9, "begin", "()I"⟩
abbrev cX9_round : ByteArray := prog_1_method_12_code
def yX9_round : MethodName := ⟨RX9, "round", "(I)I"⟩
abbrev cX9_put : ByteArray := prog_1_method_13_code
def yX9_put : MethodName := ⟨RX9, "put", "(II)I"⟩
abbrev cX9_grow : ByteArray := prog_1_method_14_code
def yX9_grow : MethodName := ⟨RX9, "grow", "(II)I"⟩
abbrev cX9_offset : ByteArray := prog_1_method_15_code
def yX9_offset : MethodName := ⟨RX9, "offset", "(I)I"⟩
abbrev cX9_undo : ByteArray := prog_1_method_16_code
def yX9_undo : MethodName := ⟨RX9, "undo", "()I"⟩
abbrev cX9_traps : ByteArray := prog_1_method_17_code
def yX9_traps : MethodName := ⟨RX9, "traps", "(III)I"⟩
abbrev cX9_same : ByteArray := prog_1_method_18_code
def yX9_same : MethodName := ⟨RX9, "same", "(I)I"⟩
abbrev cX9_judge : ByteArray := prog_1_method_19_code
def yX9_judge : MethodName := ⟨RX9, "judge", "(IJ)I"⟩
abbrev cX9_see : ByteArray := prog_1_method_20_code
def yX9_see : MethodName := ⟨RX9, "see", "(II)I"⟩
abbrev cX9_unsee : ByteArray := prog_1_method_21_code
def yX9_unsee : MethodName := ⟨RX9, "unsee", "()I"⟩
abbrev cX9_which : ByteArray := prog_1_method_22_code
def yX9_which : MethodName := ⟨RX9, "which", "()I"⟩
abbrev cX9_share : ByteArray := prog_1_method_23_code
def yX9_share : MethodName := ⟨RX9, "share", "(IZ)I"⟩
abbrev cX9_chance : ByteArray := prog_1_method_24_code
def yX9_chance : MethodName := ⟨RX9, "chance", "(IIZ)I"⟩
abbrev cX9_seed : ByteArray := prog_1_method_25_code
def yX9_seed : MethodName := ⟨RX9, "seed", "(J)J"⟩
abbrev cX9_drawn : ByteArray := prog_1_method_26_code
def yX9_drawn : MethodName := ⟨RX9, "drawn", "(I)I"⟩
abbrev cX9_keep : ByteArray := prog_1_method_27_code
def yX9_keep : MethodName := ⟨RX9, "keep", "(I)I"⟩
abbrev cX9_again : ByteArray := prog_1_method_28_code
def yX9_again : MethodName := ⟨RX9, "again", "(I)I"⟩
abbrev cX9_needs : ByteArray := prog_1_method_29_code
def yX9_needs : MethodName := ⟨RX9, "needs", "()I"⟩
abbrev cX9_ends : ByteArray := prog_1_method_30_code
def yX9_ends : MethodName := ⟨RX9, "ends", "()I"⟩
abbrev cX9_best : ByteArray := prog_1_method_31_code
def yX9_best : MethodName := ⟨RX9, "best", "()I"⟩
abbrev cX9_endsEmpty : ByteArray := prog_1_method_32_code
def yX9_endsEmpty : MethodName := ⟨RX9, "endsEmpty", "(II)Z"⟩
abbrev cX9_power : ByteArray := prog_1_method_33_code
def yX9_power : MethodName := ⟨RX9, "power", "(II)J"⟩
abbrev cX9_inLeastTerms : ByteArray := prog_1_method_34_code
def yX9_inLeastTerms : MethodName := ⟨RX9, "inLeastTerms", "(JJZ)I"⟩
abbrev cX9_commonDivisor : ByteArray := prog_1_method_35_code
def yX9_commonDivisor : MethodName := ⟨RX9, "commonDivisor", "(JJ)J"⟩
abbrev cX9_held : ByteArray := prog_1_method_36_code
def yX9_held : MethodName := ⟨RX9, "held", "(III)I"⟩
def RX10 : String := "SparseChecksModel"
def TX10 : u_T := fun k => match k with
  | 0 => ("SparseChecksModel", "text", "[I", true)
  | 1 => ("SparseChecksModel", "length", "I", false)
  | 2 => ("SparseChecksModel", "bits", "I", false)
  | 3 => ("SparseChecksModel", "checks", "I", false)
  | 4 => ("SparseChecksModel", "now", "[I", true)
  | 5 => ("SparseChecksModel", "trial", "[I", true)
  | 6 => ("SparseChecksModel", "diary", "[I", true)
  | 7 => ("SparseChecksModel", "acts", "I", false)
  | 8 => ("SparseChecksModel", "next", "I", false)
  | 9 => ("SparseChecksModel", "kept", "[I", true)
  | 10 => ("SparseChecksModel", "isKept", "[Z", true)
  | 11 => ("SparseChecksModel", "seenBehind", "[I", true)
  | 12 => ("SparseChecksModel", "seenOpen", "[I", true)
  | 13 => ("SparseChecksModel", "seen", "I", false)
  | 14 => ("SparseChecksModel", "seed", "J", false)
  | 15 => ("SparseChecksModel", "order", "[I", true)
  | 16 => ("SparseChecksModel", "asked", "[I", true)
  | 17 => ("SparseChecksModel", "basis", "[I", true)
  | 18 => ("SparseChecksModel", "worth", "[I", true)
  | 19 => ("SparseChecksModel", "way", "[I", true)
  | 20 => ("SparseChecksModel", "readBits", "I", false)
  | 21 => ("SparseChecksModel", "readOffset", "I", false)
  | 22 => ("SparseChecksModel", "readChecks", "I", false)
  | 23 => ("SparseChecksModel", "readOver", "[I", true)
  | 24 => ("SparseChecksModel", "part", "I", false)
  | _ => ("SparseChecksModel", "lastBit", "I", false)
def tyX10 : Nat → FieldType := fun k => match k with
  | 0 => .array .int
  | 1 => .int
  | 2 => .int
  | 3 => .int
  | 4 => .array .int
  | 5 => .array .int
  | 6 => .array .int
  | 7 => .int
  | 8 => .int
  | 9 => .array .int
  | 10 => .array .boolean
  | 11 => .array .int
  | 12 => .array .int
  | 13 => .int
  | 14 => .long
  | 15 => .array .int
  | 16 => .array .int
  | 17 => .array .int
  | 18 => .array .int
  | 19 => .array .int
  | 20 => .int
  | 21 => .int
  | 22 => .int
  | 23 => .array .int
  | 24 => .int
  | _ => .int
abbrev wsX100 : List Cond := u_ws RX10 TX10 26
theorem nmX10 : ∀ a, a < 26 → ∀ b, b < 26 → a ≠ b → (TX10 a).2.1 ≠ (TX10 b).2.1 := by decide +kernel
theorem tyX10_ok : ∀ k, k < 26 → parseFieldDescriptor (TX10 k).2.2.1 = some (tyX10 k) := by decide +kernel
abbrev cX10_init : ByteArray := prog_12_method_1_code
def yX10_init : MethodName := ⟨RX10, "<init>", "()V"⟩
abbrev cX10_copy : ByteArray := prog_12_method_3_code
def yX10_copy : MethodName := ⟨RX10, "copy", "([I[I)V"⟩
abbrev cX10_in : ByteArray := prog_12_method_4_code
def yX10_in : MethodName := ⟨RX10, "in", "(JJJ)Z"⟩
abbrev cX10_has : ByteArray := prog_12_method_5_code
def yX10_has : MethodName := ⟨RX10, "has", "(II)Z"⟩
abbrev cX10_ones : ByteArray := prog_12_method_6_code
def yX10_ones : MethodName := ⟨RX10, "ones", "(I)I"⟩
abbrev cX10_held : ByteArray := prog_12_method_7_code
def yX10_held : MethodName := ⟨RX10, "held", "(III)I"⟩
abbrev cX10_power : ByteArray := prog_12_method_8_code
def yX10_power : MethodName := ⟨RX10, "power", "(II)I"⟩
abbrev cX10_factorial : ByteArray := prog_12_method_9_code
def yX10_factorial : MethodName := ⟨RX10, "factorial", "(I)I"⟩
abbrev cX10_fraction : ByteArray := prog_12_method_10_code
def yX10_fraction : MethodName := ⟨RX10, "fraction", "(IIZ)I"⟩
abbrev cX10_isBit : ByteArray := prog_12_method_11_code
def yX10_isBit : MethodName := ⟨RX10, "isBit", "(I)Z"⟩
abbrev cX10_isCheck : ByteArray := prog_12_method_12_code
def yX10_isCheck : MethodName := ⟨RX10, "isCheck", "(I)Z"⟩
abbrev cX10_layOrder : ByteArray := prog_12_method_13_code
def yX10_layOrder : MethodName := ⟨RX10, "layOrder", "()V"⟩
abbrev cX10_write : ByteArray := prog_12_method_14_code
def yX10_write : MethodName := ⟨RX10, "write", "(I)I"⟩
abbrev cX10_wipe : ByteArray := prog_12_method_15_code
def yX10_wipe : MethodName := ⟨RX10, "wipe", "()I"⟩
abbrev cX10_take : ByteArray := prog_12_method_16_code
def yX10_take : MethodName := ⟨RX10, "take", "(I)Z"⟩
abbrev cX10_readText : ByteArray := prog_12_method_17_code
def yX10_readText : MethodName := ⟨RX10, "readText", "()I"⟩
abbrev cX10_fault : ByteArray := prog_12_method_18_code
def yX10_fault : MethodName := ⟨RX10, "fault", "()I"⟩
abbrev cX10_code : ByteArray := prog_12_method_19_code
def yX10_code : MethodName := ⟨RX10, "code", "()I"⟩
abbrev cX10_goCheck : ByteArray := prog_12_method_20_code
def yX10_goCheck : MethodName := ⟨RX10, "goCheck", "([II)V"⟩
abbrev cX10_goOn : ByteArray := prog_12_method_21_code
def yX10_goOn : MethodName := ⟨RX10, "goOn", "([I)V"⟩
abbrev cX10_beginOn : ByteArray := prog_12_method_22_code
def yX10_beginOn : MethodName := ⟨RX10, "beginOn", "([I)V"⟩
abbrev cX10_wordOf : ByteArray := prog_12_method_23_code
def yX10_wordOf : MethodName := ⟨RX10, "wordOf", "([I)I"⟩
abbrev cX10_openBy : ByteArray := prog_12_method_24_code
def yX10_openBy : MethodName := ⟨RX10, "openBy", "([II)I"⟩
abbrev cX10_openOf : ByteArray := prog_12_method_25_code
def yX10_openOf : MethodName := ⟨RX10, "openOf", "([I)I"⟩
abbrev cX10_solve : ByteArray := prog_12_method_26_code
def yX10_solve : MethodName := ⟨RX10, "solve", "()I"⟩
abbrev cX10_needs : ByteArray := prog_12_method_27_code
def yX10_needs : MethodName := ⟨RX10, "needs", "()I"⟩
abbrev cX10_ends : ByteArray := prog_12_method_28_code
def yX10_ends : MethodName := ⟨RX10, "ends", "()I"⟩
abbrev cX10_best : ByteArray := prog_12_method_29_code
def yX10_best : MethodName := ⟨RX10, "best", "()I"⟩
abbrev cX10_layWays : ByteArray := prog_12_method_30_code
def yX10_layWays : MethodName := ⟨RX10, "layWays", "([IIII)V"⟩
abbrev cX10_ring : ByteArray := prog_12_method_31_code
def yX10_ring : MethodName := ⟨RX10, "ring", "()I"⟩
abbrev cX10_rankBy : ByteArray := prog_12_method_32_code
def yX10_rankBy : MethodName := ⟨RX10, "rankBy", "(I)I"⟩
abbrev cX10_distance : ByteArray := prog_12_method_33_code
def yX10_distance : MethodName := ⟨RX10, "distance", "()I"⟩
abbrev cX10_about : ByteArray := prog_12_method_34_code
def yX10_about : MethodName := ⟨RX10, "about", "(I)I"⟩
abbrev cX10_checksOver : ByteArray := prog_12_method_35_code
def yX10_checksOver : MethodName := ⟨RX10, "checksOver", "([II)I"⟩
abbrev cX10_bit : ByteArray := prog_12_method_36_code
def yX10_bit : MethodName := ⟨RX10, "bit", "(II)I"⟩
abbrev cX10_check : ByteArray := prog_12_method_37_code
def yX10_check : MethodName := ⟨RX10, "check", "(I)I"⟩
abbrev cX10_message : ByteArray := prog_12_method_38_code
def yX10_message : MethodName := ⟨RX10, "message", "(II)I"⟩
abbrev cX10_note : ByteArray := prog_12_method_39_code
def yX10_note : MethodName := ⟨RX10, "note", "()V"⟩
abbrev cX10_level : ByteArray := prog_12_method_40_code
def yX10_level : MethodName := ⟨RX10, "level", "(II)I"⟩
abbrev cX10_begin : ByteArray := prog_12_method_41_code
def yX10_begin : MethodName := ⟨RX10, "begin", "()I"⟩
abbrev cX10_round : ByteArray := prog_12_method_42_code
def yX10_round : MethodName := ⟨RX10, "round", "(I)I"⟩
abbrev cX10_putOn : ByteArray := prog_12_method_43_code
def yX10_putOn : MethodName := ⟨RX10, "putOn", "([III)V"⟩
abbrev cX10_put : ByteArray := prog_12_method_44_code
def yX10_put : MethodName := ⟨RX10, "put", "(II)I"⟩
abbrev cX10_isBefore : ByteArray := prog_12_method_45_code
def yX10_isBefore : MethodName := ⟨RX10, "isBefore", "(II)Z"⟩
abbrev cX10_grow : ByteArray := prog_12_method_46_code
def yX10_grow : MethodName := ⟨RX10, "grow", "(II)I"⟩
abbrev cX10_offset : ByteArray := prog_12_method_47_code
def yX10_offset : MethodName := ⟨RX10, "offset", "(I)I"⟩
abbrev cX10_undo : ByteArray := prog_12_method_48_code
def yX10_undo : MethodName := ⟨RX10, "undo", "()I"⟩
abbrev cX10_traps : ByteArray := prog_12_method_49_code
def yX10_traps : MethodName := ⟨RX10, "traps", "(III)I"⟩
abbrev cX10_same : ByteArray := prog_12_method_50_code
def yX10_same : MethodName := ⟨RX10, "same", "(I)I"⟩
abbrev cX10_judged : ByteArray := prog_12_method_51_code
def yX10_judged : MethodName := ⟨RX10, "judged", "(III)Z"⟩
abbrev cX10_thousands : ByteArray := prog_12_method_52_code
def yX10_thousands : MethodName := ⟨RX10, "thousands", "(I)J"⟩
abbrev cX10_judge : ByteArray := prog_12_method_53_code
def yX10_judge : MethodName := ⟨RX10, "judge", "(IJ)I"⟩
abbrev cX10_see : ByteArray := prog_12_method_54_code
def yX10_see : MethodName := ⟨RX10, "see", "(II)I"⟩
abbrev cX10_unsee : ByteArray := prog_12_method_55_code
def yX10_unsee : MethodName := ⟨RX10, "unsee", "()I"⟩
abbrev cX10_isSoBy : ByteArray := prog_12_method_56_code
def yX10_isSoBy : MethodName := ⟨RX10, "isSoBy", "(II)Z"⟩
abbrev cX10_which : ByteArray := prog_12_method_57_code
def yX10_which : MethodName := ⟨RX10, "which", "()I"⟩
abbrev cX10_share : ByteArray := prog_12_method_58_code
def yX10_share : MethodName := ⟨RX10, "share", "(IZ)I"⟩
abbrev cX10_chance : ByteArray := prog_12_method_59_code
def yX10_chance : MethodName := ⟨RX10, "chance", "(IIZ)I"⟩
abbrev cX10_seed : ByteArray := prog_12_method_60_code
def yX10_seed : MethodName := ⟨RX10, "seed", "(J)J"⟩
abbrev cX10_drawn : ByteArray := prog_12_method_61_code
def yX10_drawn : MethodName := ⟨RX10, "drawn", "(I)I"⟩
abbrev cX10_keep : ByteArray := prog_12_method_62_code
def yX10_keep : MethodName := ⟨RX10, "keep", "(I)I"⟩
abbrev cX10_again : ByteArray := prog_12_method_63_code
def yX10_again : MethodName := ⟨RX10, "again", "(I)I"⟩
def RJ6 : String := "java/lang/Integer"
def TJ6 : u_T := fun k => match k with
  | _ => ("", "", "", false)
def tyJ6 : Nat → FieldType := fun k => match k with
  | _ => .int
abbrev wsJ60 : List Cond := u_ws RJ6 TJ6 0
theorem nmJ6 : ∀ a, a < 0 → ∀ b, b < 0 → a ≠ b → (TJ6 a).2.1 ≠ (TJ6 b).2.1 := by decide +kernel
theorem tyJ6_ok : ∀ k, k < 0 → parseFieldDescriptor (TJ6 k).2.2.1 = some (tyJ6 k) := by decide +kernel
abbrev cJ6_bitCount_0f7a4 : ByteArray := prog_13_method_49_code
def yJ6_bitCount_0f7a4 : MethodName := ⟨RJ6, "bitCount", "(I)I"⟩
def RJ9 : String := "java/lang/Math"
def TJ9 : u_T := fun k => match k with
  | _ => ("", "", "", false)
def tyJ9 : Nat → FieldType := fun k => match k with
  | _ => .int
abbrev wsJ90 : List Cond := u_ws RJ9 TJ9 0
theorem nmJ9 : ∀ a, a < 0 → ∀ b, b < 0 → a ≠ b → (TJ9 a).2.1 ≠ (TJ9 b).2.1 := by decide +kernel
theorem tyJ9_ok : ∀ k, k < 0 → parseFieldDescriptor (TJ9 k).2.2.1 = some (tyJ9 k) := by decide +kernel
abbrev cJ9_max_7cf53 : ByteArray := prog_14_method_65_code
def yJ9_max_7cf53 : MethodName := ⟨RJ9, "max", "(II)I"⟩
def RJ10 : String := "java/lang/System"
def TJ10 : u_T := fun k => match k with
  | _ => ("", "", "", false)
def tyJ10 : Nat → FieldType := fun k => match k with
  | _ => .int
abbrev wsJ100 : List Cond := u_ws RJ10 TJ10 0
theorem nmJ10 : ∀ a, a < 0 → ∀ b, b < 0 → a ≠ b → (TJ10 a).2.1 ≠ (TJ10 b).2.1 := by decide +kernel
theorem tyJ10_ok : ∀ k, k < 0 → parseFieldDescriptor (TJ10 k).2.2.1 = some (tyJ10 k) := by decide +kernel
def RL : String := "SparseChecksLaw"
abbrev cL_law : ByteArray := code
def yL_law : MethodName := ⟨RL, "law", "([I)Z"⟩
end
section
/-! THE ABSTRACT MACHINE: values whose references are places of the world (9999: null), memory of typed rows, steps as predicate transformers -/
def tblG : List Cond := lw_tbl.filter goodWord
theorem tg {w : Cond} (i : Nat) (h : lw_tbl[i]? = some w) (g : goodWord w = true) : w ∈ tblG := List.mem_filter.mpr ⟨List.mem_of_getElem? h, g⟩
def kCl : List vw_C := [(RX0, TX0, 3), (RX1, TX1, 5), (RX2, TX2, 0), (RX3, TX3, 7), (RX4, TX4, 3), (RX5, TX5, 8), (RX6, TX6, 2), (RX7, TX7, 3), (RX8, TX8, 1), (RX9, TX9, 11), (RX10, TX10, 26)]
def tyC : Nat → Nat → FieldType := fun ci => match ci with
  | 0 => tyX0 | 1 => tyX1 | 2 => tyX2 | 3 => tyX3 | 4 => tyX4 | 5 => tyX5 | 6 => tyX6 | 7 => tyX7 | 8 => tyX8 | 9 => tyX9 | _ => tyX10
def nfC : Nat → Nat := fun ci => match ci with
  | 0 => 3 | 1 => 5 | 2 => 0 | 3 => 7 | 4 => 3 | 5 => 8 | 6 => 2 | 7 => 3 | 8 => 1 | 9 => 11 | _ => 26
def fkOf : FieldType → Nat := fun t => match t with
  | .int => 0 | .boolean => 0 | .long => 1 | _ => 2
abbrev Vals : Type := List (Option Value)
/-- cells, slots, kind and length (or class) of a place, references -/
abbrev Sh : Type := Nat × Nat × (Nat → Nat × Nat) × (Nat → Nat → Nat)
abbrev Mem : Type := Sh × (Nat → Nat → Int32) × (Nat → Nat → Int64)
def rO (ad : Nat → Nat) (r : Nat) : Option Nat := if r = 9999 then none else some (ad r)
def cv (ad : Nat → Nat) (v : Value) : Value := match v with
  | .ref k => va_rf (rO ad k)
  | v => v
def fV (ad : Nat → Nat) (M : Mem) (ci k j : Nat) : Value := if fkOf (tyC ci j) = 0 then .int (M.2.1 k j) else if fkOf (tyC ci j) = 1 then .long (M.2.2 k j) else cv ad (.ref (M.1.2.2.2 k j))
def fsM (ad : Nat → Nat) (M : Mem) (ci k : Nat) : List Value := (List.range (nfC ci)).map (fV ad M ci k)
def cEnc (ca : Nat → ClassId) (ad : Nat → Nat) (M : Mem) (k : Nat) : va_E :=
  if (M.1.2.2.1 k).1 = 0 then .inr ((M.1.2.2.1 k).2, fsM ad M (M.1.2.2.1 k).2 k)
  else if (M.1.2.2.1 k).1 = 3 then .inl (ca 3, (M.1.2.2.1 k).2, .inr (.inr (.inr (.inr (fun j => rO ad (M.1.2.2.2 k j))))))
  else .inl (ca (M.1.2.2.1 k).1, (M.1.2.2.1 k).2, .inl (M.2.1 k))
def wsM (ca : Nat → ClassId) (ad : Nat → Nat) (M : Mem) : va_W := (List.range M.1.1).map (fun k => (ad k, cEnc ca ad M k))
def tysC (ca : Nat → ClassId) : List (ClassId × FieldType) := [(ca 1, .int), (ca 2, .boolean), (ca 3, .object RX5)]
/-- the world: every place's cell, from ad 0 on, and nothing behind them -/
def Wd (D : va_G) (ca : Nat → ClassId) (ad : Nat → Nat) (M : Mem) (H : Heap) : Prop := va_P D kCl (wsM ca ad M) H ∧ M.1.1 ≤ 9000
def facI : Nat → Int32 := fun j => ([1, 1, 2, 6, 24, 120, 720] : List Int32).getD j 0
abbrev AA (ad : Nat → Nat) : Nat → Prop := fun q => ad 0 ≤ q
/-- what stays: the tables, the places' addresses, the static array, the script -/
def Ev (D : va_G) (ca : Nat → ClassId) (ad : Nat → Nat) (scr : Option (Nat × (Nat → Int32))) (s : State) : Prop :=
  va_K D kCl (tysC ca) s ∧ (∀ k, k < 9000 → ad k = ad 0 + k) ∧ va_Z RX9 "FACTORIALS" "[I" (.ref (ad 9001)) (AA ad) s s.heap ∧ va_T .int (ad 9001) 7 (fun j => .int (facI j)) (AA ad) s s.heap ∧
  va_Nw (.methodLinkNest RX1 73 yX9_held RX9) s ∧ va_Nw (.fieldLinkNest RX6 55 RX9 "FACTORIALS" "[I" RX9) s ∧ va_AO RX5 s ∧
  (∀ q, scr = some q → va_X (ad 9002) q.1 q.2 s s.heap ∧ ad 9002 < s.heap.size ∧ ad 9002 < ad 0) ∧ ad 0 ≤ s.heap.size
/-- a method: code, class, locals, answer's type, room, whether it is a constructor, the script (the law alone) -/
abbrev Mt : Type := ByteArray × String × Nat × Option FieldType × Room × Bool × Option (Nat × (Nat → Int32)) × Option (Nat × Nat)
def HC (mt : Mt) (p : Program) (s : State) (m : MethodId) (args : Array Value) (meth : Method) (c : Code) (D : va_G) (ca : Nat → ClassId) (ad : Nat → Nat) (N0 S0 : Nat) : Prop :=
  p.tables.exec = Jvm.exec ∧ c.code = mt.1 ∧ c.maxLocals = mt.2.2.1 ∧ s.vm.findClass mt.2.1 = some m.cls ∧ (∀ w ∈ tblG, w.before args s = true) ∧ meth.locks = false ∧ meth.sig.returnType = mt.2.2.2.1 ∧ (mt.2.2.2.2.2.1 = true → meth.name = "<init>") ∧ Ev D ca ad mt.2.2.2.2.2.2.1 s ∧ s.heap.size = ad 0 + N0 ∧ (∀ q, mt.2.2.2.2.2.2.2 = some q → N0 = q.1 ∧ S0 = q.2)
def LH (ad : Nat → Nat) (la : Array Slot) (nL : Nat) (ls : Vals) : Prop := ∃ lv, lv_has la nL lv ∧ ∀ (i : Nat) (v : Value), ls[i]? = some (some v) → (i, cv ad v) ∈ lv
def rtOk (rt : Option FieldType) (r : Option Value) : Prop := match rt, r with
  | none, none => True
  | some .int, some (.int _) => True
  | some .boolean, some (.int v) => v = 0 ∨ v = 1
  | some .long, some (.long _) => True
  | _, _ => False
def rdec (cc : ByteArray) (pc : Nat) (r : Option Value) : Prop := match r with
  | none => decode cc pc = .ok (.return_, 1)
  | some (.int _) => decode cc pc = .ok (.ireturn, 1)
  | some (.long _) => decode cc pc = .ok (.lreturn, 1)
  | _ => False
def RO (mt : Mt) (R : Option Value → Mem → Prop) (p : Program) (l : Launch) (e : Env) (s : State) (m : MethodId) (args : Array Value) (below : List Frame) (meth : Method) (c : Code) (D : va_G) (ca : Nat → ClassId) (ad : Nat → Nat) (N0 S0 : Nat) (Q : State → Prop) : Prop :=
  ∀ (r : Option Value) (M : Mem) (H : Heap) (locs : List Loc) (la : Array Slot) (pc cells slots : Nat), R r M → Wd D ca ad M H → va_S (AA ad) s.heap H locs → N0 + cells = M.1.1 → S0 + slots = M.1.2.1 → cells ≤ mt.2.2.2.2.1.cells → slots ≤ mt.2.2.2.2.1.slots → rtOk mt.2.2.2.1 r → rdec mt.1 pc r →
    W p l e mt.2.2.2.2.1 s m args below meth c H locs cells slots Q (F0 m pc la (r.toList.map (cv ad)))
def JW (mt : Mt) (p : Program) (l : Launch) (e : Env) (s : State) (m : MethodId) (args : Array Value) (below : List Frame) (meth : Method) (c : Code) (D : va_G) (ca : Nat → ClassId) (ad : Nat → Nat) (N0 S0 : Nat) (Q : State → Prop) (pc : Nat) (ls : Vals) (st : List Value) (M : Mem) : Prop :=
  ∀ (H : Heap) (locs : List Loc) (la : Array Slot) (cells slots : Nat), Wd D ca ad M H → va_S (AA ad) s.heap H locs → LH ad la mt.2.2.1 ls → N0 + cells = M.1.1 → S0 + slots = M.1.2.1 → cells ≤ mt.2.2.2.2.1.cells → slots ≤ mt.2.2.2.2.1.slots →
    W p l e mt.2.2.2.2.1 s m args below meth c H locs cells slots Q (F0 m pc la (st.map (cv ad)))
/-- from this point the method returns, with R -/
def J (mt : Mt) (R : Option Value → Mem → Prop) (pc : Nat) (ls : Vals) (st : List Value) (M : Mem) : Prop :=
  ∀ (p : Program) (l : Launch) (e : Env) (s : State) (m : MethodId) (args : Array Value) (below : List Frame) (meth : Method) (c : Code) (D : va_G) (ca : Nat → ClassId) (ad : Nat → Nat) (N0 S0 : Nat) (Q : State → Prop),
    HC mt p s m args meth c D ca ad N0 S0 → RO mt R p l e s m args below meth c D ca ad N0 S0 Q → JW mt p l e s m args below meth c D ca ad N0 S0 Q pc ls st M
abbrev KT : Type := Nat → Vals → List Value → Mem → Prop
abbrev X : Type := Vals → List Value → Mem → KT → (Option Value → Mem → Prop) → Prop
def Snd (mt : Mt) (pc : Nat) (x : X) : Prop :=
  ∀ (R : Option Value → Mem → Prop) (p : Program) (l : Launch) (e : Env) (s : State) (m : MethodId) (args : Array Value) (below : List Frame) (meth : Method) (c : Code) (D : va_G) (ca : Nat → ClassId) (ad : Nat → Nat) (N0 S0 : Nat) (Q : State → Prop),
    HC mt p s m args meth c D ca ad N0 S0 → RO mt R p l e s m args below meth c D ca ad N0 S0 Q → ∀ (ls : Vals) (st : List Value) (M : Mem) (K : KT), x ls st M K R → (∀ pc' ls' st' M', K pc' ls' st' M' → JW mt p l e s m args below meth c D ca ad N0 S0 Q pc' ls' st' M') → JW mt p l e s m args below meth c D ca ad N0 S0 Q pc ls st M
/-! the runner -/
abbrev Tb : Type := List (Nat × X × Bool)
def lk : Tb → Nat → X × Bool
  | [], _ => (fun _ _ _ _ _ => False, false)
  | (p, q) :: r, pc => bif Nat.beq p pc then q else lk r pc
def run (tb : Tb) (K : KT) (R : Option Value → Mem → Prop) : Nat → KT
  | 0, pc, ls, st, M => K pc ls st M
  | n + 1, pc, ls, st, M => bif (lk tb pc).2 then K pc ls st M else (lk tb pc).1 ls st M (run tb K R n) R
def run1 (tb : Tb) (K : KT) (R : Option Value → Mem → Prop) (n : Nat) : KT := fun pc ls st M => (lk tb pc).1 ls st M (run tb K R n) R
def TbOk (mt : Mt) (tb : Tb) : Prop := ∀ q ∈ tb, Snd mt q.1 q.2.1
theorem lk_snd {mt : Mt} : ∀ {tb : Tb}, TbOk mt tb → ∀ pc, Snd mt pc (lk tb pc).1
  | [], _, pc => fun _ _ _ _ _ _ _ _ _ _ _ _ _ _ _ _ _ _ _ _ _ _ h => h.elim
  | (p, q) :: r, h, pc => by
    unfold lk
    cases hb : Nat.beq p pc with
    | true =>
      have hp : p = pc := Nat.eq_of_beq_eq_true hb
      subst hp
      exact h (p, q) List.mem_cons_self
    | false => exact lk_snd (fun q hq => h q (List.mem_cons_of_mem _ hq)) pc
theorem run_snd {mt : Mt} {tb : Tb} (h : TbOk mt tb) {K : KT} {R : Option Value → Mem → Prop} (hK : ∀ pc ls st M, K pc ls st M → J mt R pc ls st M) : ∀ n pc ls st M, run tb K R n pc ls st M → J mt R pc ls st M
  | 0, pc, ls, st, M, hr => hK pc ls st M hr
  | n + 1, pc, ls, st, M, hr => by
    unfold run at hr
    cases hb : (lk tb pc).2 with
    | true => rw [hb] at hr; exact hK pc ls st M hr
    | false =>
      rw [hb] at hr
      intro p l e s m args below meth c D ca ad N0 S0 Q hc ro
      exact lk_snd h pc R p l e s m args below meth c D ca ad N0 S0 Q hc ro ls st M _ hr (fun pc' ls' st' M' hk => run_snd h hK n pc' ls' st' M' hk p l e s m args below meth c D ca ad N0 S0 Q hc ro)
/-- a stretch: run the table from pc up to the cuts -/
theorem J.of {mt : Mt} {tb : Tb} (h : TbOk mt tb) (n : Nat) {R : Option Value → Mem → Prop} {pc : Nat} {ls : Vals} {st : List Value} {M : Mem} (hr : run1 tb (J mt R) R n pc ls st M) : J mt R pc ls st M := by
  intro p l e s m args below meth c D ca ad N0 S0 Q hc ro
  exact lk_snd h pc R p l e s m args below meth c D ca ad N0 S0 Q hc ro ls st M _ hr (fun pc' ls' st' M' hk => run_snd h (fun _ _ _ _ h => h) n pc' ls' st' M' hk p l e s m args below meth c D ca ad N0 S0 Q hc ro)
/-- fewer locals known -/
def lsub : Vals → Vals → Prop
  | [], [] => True
  | none :: a, _ :: b => lsub a b
  | some v :: a, w :: b => w = some v ∧ lsub a b
  | _, _ => False
theorem lsub_get : ∀ {a b : Vals}, lsub a b → ∀ (i : Nat) (v : Value), a[i]? = some (some v) → b[i]? = some (some v)
  | [], [], _, i, v, h => by simp at h
  | none :: a, w :: b, hs, i, v, h => by
    cases i with
    | zero => simp at h
    | succ i => simp only [List.getElem?_cons_succ] at h ⊢; exact lsub_get (a := a) hs i v h
  | some x :: a, w :: b, hs, i, v, h => by
    cases i with
    | zero => simp only [List.getElem?_cons_zero] at h ⊢; rw [hs.1]; exact h
    | succ i => simp only [List.getElem?_cons_succ] at h ⊢; exact lsub_get (a := a) hs.2 i v h
theorem J.weak {mt : Mt} {R : Option Value → Mem → Prop} {pc : Nat} {ls ls' : Vals} {st : List Value} {M : Mem} (hs : lsub ls' ls) (h : J mt R pc ls' st M) : J mt R pc ls st M := by
  intro p l e s m args below meth c D ca ad N0 S0 Q hc ro H locs la cells slots hw hS hl
  obtain ⟨lv, h1, h2⟩ := hl
  exact h p l e s m args below meth c D ca ad N0 S0 Q hc ro H locs la cells slots hw hS ⟨lv, h1, fun i v hi => h2 i v (lsub_get hs i v hi)⟩
end
section
/-! THE STEPS -/
def lg : Vals → Nat → Option Value
  | [], _ => none
  | a :: _, 0 => a
  | _ :: r, i + 1 => lg r i
theorem lg_get : ∀ {ls : Vals} {i : Nat} {v : Value}, lg ls i = some v → ls[i]? = some (some v)
  | [], i, v, h => by simp [lg] at h
  | a :: r, 0, v, h => by simp only [lg] at h; simp [h]
  | a :: r, i + 1, v, h => by simp only [lg] at h; simp only [List.getElem?_cons_succ]; exact lg_get h
def wide : Option Value → Bool
  | some (.long _) => true
  | some (.double _) => true
  | _ => false
/-- a value of one word is stored -/
def lset : Vals → Nat → Value → Vals
  | [], _, _ => []
  | _ :: r, 0, v => some v :: r
  | a :: r, 1, v => (bif wide a then none else a) :: lset r 0 v
  | a :: r, i + 2, v => a :: lset r (i + 1) v
/-- a value of two words is stored -/
def lset2 : Vals → Nat → Value → Vals
  | [], _, _ => []
  | [_], 0, _ => [none]
  | _ :: _ :: r, 0, v => some v :: none :: r
  | a :: r, 1, v => (bif wide a then none else a) :: lset2 r 0 v
  | a :: r, i + 2, v => a :: lset2 r (i + 1) v
theorem lset_get : ∀ {ls : Vals} {i : Nat} {v : Value} (j : Nat) (w : Value), (lset ls i v)[j]? = some (some w) → (j = i ∧ w = v) ∨ (j ≠ i ∧ ls[j]? = some (some w) ∧ (j + 1 = i → wide (some w) = false))
  | [], i, v, j, w, h => by simp [lset] at h
  | a :: r, 0, v, j, w, h => by
    cases j with
    | zero => simp [lset] at h; exact Or.inl ⟨rfl, h.symm⟩
    | succ j => simp only [lset, List.getElem?_cons_succ] at h ⊢; exact Or.inr ⟨by omega, h, by omega⟩
  | a :: r, 1, v, j, w, h => by
    cases j with
    | zero =>
      simp only [lset, List.getElem?_cons_zero, Option.some.injEq] at h ⊢
      cases hw : wide a with
      | true => rw [hw] at h; simp at h
      | false => rw [hw] at h; simp only [cond_false] at h; exact Or.inr ⟨by omega, h, fun _ => by rw [← h]; exact hw⟩
    | succ j =>
      simp only [lset, List.getElem?_cons_succ] at h ⊢
      rcases lset_get (ls := r) (i := 0) j w h with ⟨h1, h2⟩ | ⟨h1, h2, h3⟩
      · exact Or.inl ⟨by omega, h2⟩
      · exact Or.inr ⟨by omega, h2, by omega⟩
  | a :: r, i + 2, v, j, w, h => by
    cases j with
    | zero => simp only [lset, List.getElem?_cons_zero] at h ⊢; exact Or.inr ⟨by omega, h, by omega⟩
    | succ j =>
      simp only [lset, List.getElem?_cons_succ] at h ⊢
      rcases lset_get (ls := r) (i := i + 1) j w h with ⟨h1, h2⟩ | ⟨h1, h2, h3⟩
      · exact Or.inl ⟨by omega, h2⟩
      · exact Or.inr ⟨by omega, h2, fun e => h3 (by omega)⟩
theorem lset2_get : ∀ {ls : Vals} {i : Nat} {v : Value} (j : Nat) (w : Value), (lset2 ls i v)[j]? = some (some w) → (j = i ∧ w = v) ∨ (j ≠ i ∧ j ≠ i + 1 ∧ ls[j]? = some (some w) ∧ (j + 1 = i → wide (some w) = false))
  | [], i, v, j, w, h => by simp [lset2] at h
  | [a], 0, v, j, w, h => by cases j <;> simp [lset2] at h
  | a :: b :: r, 0, v, j, w, h => by
    match j with
    | 0 => simp [lset2] at h; exact Or.inl ⟨rfl, h.symm⟩
    | 1 => simp [lset2] at h
    | j + 2 => simp only [lset2, List.getElem?_cons_succ] at h ⊢; exact Or.inr ⟨by omega, by omega, h, by omega⟩
  | a :: r, 1, v, j, w, h => by
    cases j with
    | zero =>
      simp only [lset2, List.getElem?_cons_zero, Option.some.injEq] at h ⊢
      cases hw : wide a with
      | true => rw [hw] at h; simp at h
      | false => rw [hw] at h; simp only [cond_false] at h; exact Or.inr ⟨by omega, by omega, h, fun _ => by rw [← h]; exact hw⟩
    | succ j =>
      simp only [lset2, List.getElem?_cons_succ] at h ⊢
      rcases lset2_get (ls := r) (i := 0) j w h with ⟨h1, h2⟩ | ⟨h1, h1', h2, h3⟩
      · exact Or.inl ⟨by omega, h2⟩
      · exact Or.inr ⟨by omega, by omega, h2, by omega⟩
  | a :: r, i + 2, v, j, w, h => by
    cases j with
    | zero => simp only [lset2, List.getElem?_cons_zero] at h ⊢; exact Or.inr ⟨by omega, by omega, h, by omega⟩
    | succ j =>
      simp only [lset2, List.getElem?_cons_succ] at h ⊢
      rcases lset2_get (ls := r) (i := i + 1) j w h with ⟨h1, h2⟩ | ⟨h1, h1', h2, h3⟩
      · exact Or.inl ⟨by omega, h2⟩
      · exact Or.inr ⟨by omega, by omega, h2, fun e => h3 (by omega)⟩
theorem va_rf_cat (o : Option Nat) : (va_rf o).category = 1 := by cases o <;> rfl
theorem cv_cat (ad : Nat → Nat) (v : Value) : (cv ad v).category = v.category := by
  cases v <;> first | rfl | exact va_rf_cat _
theorem wide_cat (v : Value) : wide (some v) = false → v.category = 1 := by cases v <;> simp [wide, Value.category]
theorem LH.at {ad : Nat → Nat} {la : Array Slot} {nL : Nat} {ls : Vals} (h : LH ad la nL ls) {i : Nat} {v : Value} (hi : lg ls i = some v) : la[i]? = some (.val (cv ad v)) := by
  obtain ⟨lv, h1, h2⟩ := h
  exact h1.2.2 _ (h2 i v (lg_get hi))
theorem LH.set {ad : Nat → Nat} {la' : Array Slot} {nL i : Nat} {ls : Vals} {v : Value} {lv : List (Nat × Value)} (h2 : ∀ (i : Nat) (v : Value), ls[i]? = some (some v) → (i, cv ad v) ∈ lv) (h : lv_has la' nL ((i, cv ad v) :: lv.filter (fun q => !(q.1 == i) && !(q.1 + 1 == i && q.2.category == 2)))) : LH ad la' nL (lset ls i v) := by
  refine ⟨_, h, fun j w hj => ?_⟩
  rcases lset_get j w hj with ⟨rfl, rfl⟩ | ⟨h3, h4, h5⟩
  · exact List.mem_cons_self
  · refine List.mem_cons_of_mem _ (List.mem_filter.mpr ⟨h2 j w h4, ?_⟩)
    simp only [Bool.and_eq_true, Bool.not_eq_true', beq_eq_false_iff_ne, ne_eq, Bool.and_eq_false_iff]
    refine ⟨h3, ?_⟩
    by_cases e : j + 1 = i
    · exact Or.inr (by rw [cv_cat, wide_cat w (h5 e)]; decide)
    · exact Or.inl e
theorem LH.set2 {ad : Nat → Nat} {la' : Array Slot} {nL i : Nat} {ls : Vals} {v : Value} {lv : List (Nat × Value)} (h2 : ∀ (i : Nat) (v : Value), ls[i]? = some (some v) → (i, cv ad v) ∈ lv) (h : lv_has la' nL ((i, cv ad v) :: lv.filter (fun q => !(q.1 == i) && (!(q.1 == i + 1) && !(q.1 + 1 == i && q.2.category == 2))))) : LH ad la' nL (lset2 ls i v) := by
  refine ⟨_, h, fun j w hj => ?_⟩
  rcases lset2_get j w hj with ⟨rfl, rfl⟩ | ⟨h3, h3', h4, h5⟩
  · exact List.mem_cons_self
  · refine List.mem_cons_of_mem _ (List.mem_filter.mpr ⟨h2 j w h4, ?_⟩)
    simp only [Bool.and_eq_true, Bool.not_eq_true', beq_eq_false_iff_ne, ne_eq, Bool.and_eq_false_iff]
    refine ⟨h3, h3', ?_⟩
    by_cases e : j + 1 = i
    · exact Or.inr (by rw [cv_cat, wide_cat w (h5 e)]; decide)
    · exact Or.inl e
/-! kinds of a place -/
def tO (S : Sh) (k ci : Nat) : Prop := k < S.1 ∧ S.2.2.1 k = (0, ci)
def tA (S : Sh) (k t : Nat) : Prop := k < S.1 ∧ (S.2.2.1 k).1 = t
def ln (S : Sh) (k : Nat) : Nat := (S.2.2.1 k).2
abbrev sR (S : Sh) (k j : Nat) : Nat := S.2.2.2 k j
def mS {α : Type} (I : Nat → α) (k : Nat) (r : α) : Nat → α := fun q => if q = k then r else I q
theorem mS_s {α : Type} {I : Nat → α} {k : Nat} {r : α} : mS I k r k = r := by simp [mS]
theorem mS_n {α : Type} {I : Nat → α} {k q : Nat} {r : α} (h : q ≠ k) : mS I k r q = I q := by simp [mS, h]
/-! the steps as transformers -/
def x_c (nx : Nat) (v : Value) : X := fun ls st M K _ => K nx ls (v :: st) M
def x_il (nx i : Nat) : X := fun ls st M K _ => match lg ls i with
  | some (.int x) => K nx ls (.int x :: st) M
  | _ => False
def x_ll (nx i : Nat) : X := fun ls st M K _ => match lg ls i with
  | some (.long x) => K nx ls (.long x :: st) M
  | _ => False
def x_al (nx i : Nat) : X := fun ls st M K _ => match lg ls i with
  | some (.ref x) => K nx ls (.ref x :: st) M
  | _ => False
def x_is (nx i : Nat) : X := fun ls st M K _ => match st with
  | .int x :: st => K nx (lset ls i (.int x)) st M
  | _ => False
def x_as (nx i : Nat) : X := fun ls st M K _ => match st with
  | .ref x :: st => K nx (lset ls i (.ref x)) st M
  | _ => False
def x_ls (nx i : Nat) : X := fun ls st M K _ => match st with
  | .long x :: st => K nx (lset2 ls i (.long x)) st M
  | _ => False
def x_inc (nx i : Nat) (d : Int32) : X := fun ls st M K _ => match lg ls i with
  | some (.int x) => K nx (lset ls i (.int (x + d))) st M
  | _ => False
def x_ii (nx : Nat) (f : Int32 → Int32 → Int32) : X := fun ls st M K _ => match st with
  | .int y :: .int x :: st => K nx ls (.int (f x y) :: st) M
  | _ => False
def x_iq (nx : Nat) (f : Int32 → Int32 → Int32) : X := fun ls st M K _ => match st with
  | .int y :: .int x :: st => ¬ y = 0 ∧ K nx ls (.int (f x y) :: st) M
  | _ => False
def x_i1 (nx : Nat) (f : Int32 → Int32) : X := fun ls st M K _ => match st with
  | .int x :: st => K nx ls (.int (f x) :: st) M
  | _ => False
def x_l2 (nx : Nat) (f : Int64 → Int64 → Int64) : X := fun ls st M K _ => match st with
  | .long y :: .long x :: st => K nx ls (.long (f x y) :: st) M
  | _ => False
def x_lq (nx : Nat) (f : Int64 → Int64 → Int64) : X := fun ls st M K _ => match st with
  | .long y :: .long x :: st => ¬ y = 0 ∧ K nx ls (.long (f x y) :: st) M
  | _ => False
def x_lh (nx : Nat) (f : Int64 → Int32 → Int64) : X := fun ls st M K _ => match st with
  | .int y :: .long x :: st => K nx ls (.long (f x y) :: st) M
  | _ => False
def x_i2l (nx : Nat) : X := fun ls st M K _ => match st with
  | .int x :: st => K nx ls (.long x.toInt64 :: st) M
  | _ => False
def x_l2i (nx : Nat) : X := fun ls st M K _ => match st with
  | .long x :: st => K nx ls (.int x.toInt32 :: st) M
  | _ => False
def x_lcmp (nx : Nat) : X := fun ls st M K _ => match st with
  | .long y :: .long x :: st => K nx ls (.int (lg_cmp x y) :: st) M
  | _ => False
def x_dup (nx : Nat) : X := fun ls st M K _ => match st with
  | .int x :: st => K nx ls (.int x :: .int x :: st) M
  | .ref x :: st => K nx ls (.ref x :: .ref x :: st) M
  | _ => False
def x_dup2 (nx : Nat) : X := fun ls st M K _ => match st with
  | .int y :: .ref x :: st => K nx ls (.int y :: .ref x :: .int y :: .ref x :: st) M
  | _ => False
def x_pop (nx : Nat) : X := fun ls st M K _ => match st with
  | .int _ :: st => K nx ls st M
  | _ => False
def x_if (tgt nx : Nat) (c : Int32 → Prop) : X := fun ls st M K _ => match st with
  | .int x :: st => (c x → K tgt ls st M) ∧ (¬ c x → K nx ls st M)
  | _ => False
def x_ic (tgt nx : Nat) (c : Int32 → Int32 → Prop) : X := fun ls st M K _ => match st with
  | .int y :: .int x :: st => (c x y → K tgt ls st M) ∧ (¬ c x y → K nx ls st M)
  | _ => False
def x_go (tgt : Nat) : X := fun ls st M K _ => K tgt ls st M
def swc (P : Nat → Prop) (x : Int32) : Int → List Nat → Prop
  | _, [] => True
  | lo, t :: r => (x.toInt = lo → P t) ∧ swc P x (lo + 1) r
def x_sw (lo hi : Int) (ts : List Nat) (d : Nat) : X := fun ls st M K _ => match st with
  | .int x :: st => swc (fun t => K t ls st M) x lo ts ∧ ((x.toInt < lo ∨ hi < x.toInt) → K d ls st M)
  | _ => False
def x_gI (ci j nx : Nat) : X := fun ls st M K _ => match st with
  | .ref k :: st => tO M.1 k ci ∧ K nx ls (.int (M.2.1 k j) :: st) M
  | _ => False
def x_gL (ci j nx : Nat) : X := fun ls st M K _ => match st with
  | .ref k :: st => tO M.1 k ci ∧ K nx ls (.long (M.2.2 k j) :: st) M
  | _ => False
def x_gR (ci j nx : Nat) : X := fun ls st M K _ => match st with
  | .ref k :: st => tO M.1 k ci ∧ K nx ls (.ref (sR M.1 k j) :: st) M
  | _ => False
def x_pI (ci j nx : Nat) : X := fun ls st M K _ => match st with
  | .int x :: .ref k :: st => tO M.1 k ci ∧ K nx ls st (M.1, mS M.2.1 k (upd (M.2.1 k) j x), M.2.2)
  | _ => False
def x_pZ (ci j nx : Nat) : X := fun ls st M K _ => match st with
  | .int x :: .ref k :: st => tO M.1 k ci ∧ (x = 0 ∨ x = 1) ∧ K nx ls st (M.1, mS M.2.1 k (upd (M.2.1 k) j x), M.2.2)
  | _ => False
def x_pL (ci j nx : Nat) : X := fun ls st M K _ => match st with
  | .long x :: .ref k :: st => tO M.1 k ci ∧ K nx ls st (M.1, M.2.1, mS M.2.2 k (vp_updL (M.2.2 k) j x))
  | _ => False
def x_pR (ci j nx : Nat) : X := fun ls st M K _ => match st with
  | .ref x :: .ref k :: st => tO M.1 k ci ∧ K nx ls st ((M.1.1, M.1.2.1, M.1.2.2.1, mS M.1.2.2.2 k (va_up (M.1.2.2.2 k) j x)), M.2.1, M.2.2)
  | _ => False
def x_ia (nx : Nat) : X := fun ls st M K _ => match st with
  | .int i :: .ref k :: st => tA M.1 k 1 ∧ vp_in i (ln M.1 k) ∧ K nx ls (.int (M.2.1 k i.toNatClampNeg) :: st) M
  | _ => False
def x_za (nx : Nat) : X := fun ls st M K _ => match st with
  | .int i :: .ref k :: st => tA M.1 k 2 ∧ vp_in i (ln M.1 k) ∧ K nx ls (.int (M.2.1 k i.toNatClampNeg) :: st) M
  | _ => False
def x_aa (nx : Nat) : X := fun ls st M K _ => match st with
  | .int i :: .ref k :: st => tA M.1 k 3 ∧ vp_in i (ln M.1 k) ∧ K nx ls (.ref (sR M.1 k i.toNatClampNeg) :: st) M
  | _ => False
def x_ias (nx : Nat) : X := fun ls st M K _ => match st with
  | .int x :: .int i :: .ref k :: st => tA M.1 k 1 ∧ vp_in i (ln M.1 k) ∧ K nx ls st (M.1, mS M.2.1 k (upd (M.2.1 k) i.toNatClampNeg x), M.2.2)
  | _ => False
def x_zas (nx : Nat) : X := fun ls st M K _ => match st with
  | .int x :: .int i :: .ref k :: st => tA M.1 k 2 ∧ vp_in i (ln M.1 k) ∧ (x = 0 ∨ x = 1) ∧ K nx ls st (M.1, mS M.2.1 k (upd (M.2.1 k) i.toNatClampNeg x), M.2.2)
  | _ => False
def x_aas (nx : Nat) : X := fun ls st M K _ => match st with
  | .ref x :: .int i :: .ref k :: st => tA M.1 k 3 ∧ vp_in i (ln M.1 k) ∧ tO M.1 x 5 ∧ ¬ x = 9999 ∧ K nx ls st ((M.1.1, M.1.2.1, M.1.2.2.1, mS M.1.2.2.2 k (va_up (M.1.2.2.2 k) i.toNatClampNeg x)), M.2.1, M.2.2)
  | _ => False
def x_fac (nx : Nat) : X := fun ls st M K _ => K nx ls (.ref 9001 :: st) M
def x_fa (nx : Nat) : X := fun ls st M K _ => match st with
  | .int i :: .ref k :: st => k = 9001 ∧ vp_in i 7 ∧ K nx ls (.int (facI i.toNatClampNeg) :: st) M
  | _ => False
def x_slen (nx : Nat) (q : Nat × (Nat → Int32)) : X := fun ls st M K _ => match st with
  | .ref k :: st => k = 9002 ∧ K nx ls (.int (nI q.1) :: st) M
  | _ => False
def x_sa (nx : Nat) (q : Nat × (Nat → Int32)) : X := fun ls st M K _ => match st with
  | .int i :: .ref k :: st => k = 9002 ∧ vp_in i q.1 ∧ K nx ls (.int (q.2 i.toNatClampNeg) :: st) M
  | _ => False
def x_ac (nx N : Nat) : X := fun ls st M K _ => match st with
  | .int n :: .int d :: .ref b :: .int s :: .ref a :: st => n = nI N ∧ d = 0 ∧ s = 0 ∧ tA M.1 a 1 ∧ tA M.1 b 1 ∧ N ≤ ln M.1 a ∧ N ≤ ln M.1 b ∧ st = [] ∧ K nx ls [] (M.1, mS M.2.1 b (va_cpy (M.2.1 a) (M.2.1 b) 0 0 N), M.2.2)
  | _ => False
def x_oi (nx : Nat) : X := fun ls st M K _ => match st with
  | [.ref _] => K nx ls [] M
  | _ => False
def x_new (ci nx : Nat) (cap : Nat × Nat) : X := fun ls st M K _ => M.1.1 + 1 ≤ cap.1 ∧ M.1.2.1 + nfC ci ≤ cap.2 ∧ M.1.1 + 1 ≤ 9000 ∧ ci < 11 ∧
  K nx ls (.ref M.1.1 :: st) ((M.1.1 + 1, M.1.2.1 + nfC ci, mS M.1.2.2.1 M.1.1 (0, ci), mS M.1.2.2.2 M.1.1 (fun _ => 9999)), mS M.2.1 M.1.1 (fun _ => 0), mS M.2.2 M.1.1 (fun _ => 0))
def x_na (t nx : Nat) (cap : Nat × Nat) : X := fun ls st M K _ => match st with
  | .int n :: st => ¬ n < 0 ∧ n.toNatClampNeg ≤ 10000 ∧ M.1.1 + 1 ≤ cap.1 ∧ M.1.2.1 + n.toNatClampNeg ≤ cap.2 ∧ M.1.1 + 1 ≤ 9000 ∧
    K nx ls (.ref M.1.1 :: st) ((M.1.1 + 1, M.1.2.1 + n.toNatClampNeg, mS M.1.2.2.1 M.1.1 (t, n.toNatClampNeg), mS M.1.2.2.2 M.1.1 (fun _ => 9999)), mS M.2.1 M.1.1 (fun _ => 0), M.2.2)
  | _ => False
def pa : Nat → List Value → List Value → Option (List Value × List Value)
  | 0, st, acc => some (acc, st)
  | _ + 1, [], _ => none
  | n + 1, v :: st, acc => pa n st (v :: acc)
def short : List Value → Nat → Bool
  | [], _ => true
  | _ :: _, 0 => false
  | _ :: r, n + 1 => short r n
def oc : Option Value → List Value → List Value
  | none, l => l
  | some v, l => v :: l
abbrev PTT : Type := List Value → Mem → (Option Value → Mem → Prop) → Prop
def x_cS (n : Nat) (P : PTT) (nx : Nat) : X := fun ls st M K _ => match pa n st [] with
  | some (as, r) => short r 4 = true ∧ P as M (fun v M' => M'.1 = M.1 ∧ K nx ls (oc v r) M')
  | none => False
def x_cV (ci n : Nat) (P : PTT) (nx : Nat) : X := fun ls st M K _ => match pa (n + 1) st [] with
  | some (.ref k :: as, r) => tO M.1 k ci ∧ short r 4 = true ∧ P (.ref k :: as) M (fun v M' => M'.1 = M.1 ∧ K nx ls (oc v r) M')
  | _ => False
def x_cI (n : Nat) (P : PTT) (nx mc ms : Nat) (cap : Nat × Nat) : X := fun ls st M K _ => match pa (n + 1) st [] with
  | some (.ref k :: as, r) => ¬ k = 9999 ∧ short r 4 = true ∧ M.1.1 + mc ≤ cap.1 ∧ M.1.2.1 + ms ≤ cap.2 ∧ P (.ref k :: as) M (fun v M' => v = none ∧ M'.1.1 = M.1.1 + mc ∧ M'.1.2.1 = M.1.2.1 + ms ∧ K nx ls r M')
  | _ => False
def x_rI : X := fun _ st M _ R => match st with
  | [.int v] => R (some (.int v)) M
  | _ => False
def x_rZ : X := fun _ st M _ R => match st with
  | [.int v] => (v = 0 ∨ v = 1) ∧ R (some (.int v)) M
  | _ => False
def x_rL : X := fun _ st M _ R => match st with
  | [.long v] => R (some (.long v)) M
  | _ => False
def x_r0 : X := fun _ st M _ R => match st with
  | [] => R none M
  | _ => False
end
section
/-! EACH STEP IS SOUND -/
section SND
variable {mt : Mt} {pc : Nat}
theorem s_iconst {n : Int} {v : Int32} (hd : decode mt.1 pc = .ok (.iconst n, 1)) (hv : Int32.ofInt n = v) : Snd mt pc (x_c (pc + 1) (.int v)) := by
  intro R p l e s m args below meth c D ca ad N0 S0 Q hc ro ls st M K hx hk H locs la cells slots hw hS hl h1 h2 h3 h4
  exact lv_iconst hc.1 hc.2.1 hd hv (hk _ _ _ _ hx H locs la cells slots hw hS hl h1 h2 h3 h4)
theorem s_bipush {n : Int} {v : Int32} (hd : decode mt.1 pc = .ok (.bipush n, 2)) (hv : (Int8.ofInt n).toInt32 = v) : Snd mt pc (x_c (pc + 2) (.int v)) := by
  intro R p l e s m args below meth c D ca ad N0 S0 Q hc ro ls st M K hx hk H locs la cells slots hw hS hl h1 h2 h3 h4
  exact lv_bipush hc.1 hc.2.1 hd hv (hk _ _ _ _ hx H locs la cells slots hw hS hl h1 h2 h3 h4)
theorem s_sipush {n : Int} {v : Int32} (hd : decode mt.1 pc = .ok (.sipush n, 3)) (hv : (Int16.ofInt n).toInt32 = v) : Snd mt pc (x_c (pc + 3) (.int v)) := by
  intro R p l e s m args below meth c D ca ad N0 S0 Q hc ro ls st M K hx hk H locs la cells slots hw hS hl h1 h2 h3 h4
  exact lv_sipush hc.1 hc.2.1 hd hv (hk _ _ _ _ hx H locs la cells slots hw hS hl h1 h2 h3 h4)
theorem s_lconst {n : Fin 2} {v : Int64} (hd : decode mt.1 pc = .ok (.lconst n, 1)) (hv : Int64.ofNat (n : Nat) = v) : Snd mt pc (x_c (pc + 1) (.long v)) := by
  intro R p l e s m args below meth c D ca ad N0 S0 Q hc ro ls st M K hx hk H locs la cells slots hw hS hl h1 h2 h3 h4
  exact lv_lconst hc.1 hc.2.1 hd hv (hk _ _ _ _ hx H locs la cells slots hw hS hl h1 h2 h3 h4)
theorem s_ldcw {idx : Nat} {v : Int32} (hd : decode mt.1 pc = .ok (.ldc_w idx, 3)) (hw : Cond.constant mt.2.1 idx v ∈ tblG) : Snd mt pc (x_c (pc + 3) (.int v)) := by
  intro R p l e s m args below meth c D ca ad N0 S0 Q hc ro ls st M K hx hk H locs la cells slots hw' hS hl h1 h2 h3 h4
  exact lv_ldcw hc.1 hc.2.1 hc.2.2.2.1 (hc.2.2.2.2.1 _ hw) hd (hk _ _ _ _ hx H locs la cells slots hw' hS hl h1 h2 h3 h4)
theorem s_ldc2 {idx : Nat} {v : Int64} (hd : decode mt.1 pc = .ok (.ldc2_w idx, 3)) (hw : Cond.constantLong mt.2.1 idx v ∈ tblG) : Snd mt pc (x_c (pc + 3) (.long v)) := by
  intro R p l e s m args below meth c D ca ad N0 S0 Q hc ro ls st M K hx hk H locs la cells slots hw' hS hl h1 h2 h3 h4
  exact lv_ldc2 hc.1 hc.2.1 hc.2.2.2.1 (hc.2.2.2.2.1 _ hw) hd (hk _ _ _ _ hx H locs la cells slots hw' hS hl h1 h2 h3 h4)
theorem s_iload_n {k : Fin 4} (hd : decode mt.1 pc = .ok (.iload_n k, 1)) : Snd mt pc (x_il (pc + 1) k.val) := by
  intro R p l e s m args below meth c D ca ad N0 S0 Q hc ro ls st M K hx hk
  unfold x_il at hx; split at hx
  next x hg =>
    intro H locs la cells slots hw hS hl h1 h2 h3 h4
    exact lv_iload_n hc.1 hc.2.1 hd rfl (hl.at hg) (hk _ _ _ _ hx H locs la cells slots hw hS hl h1 h2 h3 h4)
  next => exact hx.elim
theorem s_iload {i : Nat} (hd : decode mt.1 pc = .ok (.iload i, 2)) : Snd mt pc (x_il (pc + 2) i) := by
  intro R p l e s m args below meth c D ca ad N0 S0 Q hc ro ls st M K hx hk
  unfold x_il at hx; split at hx
  next x hg =>
    intro H locs la cells slots hw hS hl h1 h2 h3 h4
    exact lv_iload hc.1 hc.2.1 hd (hl.at hg) (hk _ _ _ _ hx H locs la cells slots hw hS hl h1 h2 h3 h4)
  next => exact hx.elim
theorem s_lload_n {k : Fin 4} (hd : decode mt.1 pc = .ok (.lload_n k, 1)) : Snd mt pc (x_ll (pc + 1) k.val) := by
  intro R p l e s m args below meth c D ca ad N0 S0 Q hc ro ls st M K hx hk
  unfold x_ll at hx; split at hx
  next x hg =>
    intro H locs la cells slots hw hS hl h1 h2 h3 h4
    exact lv_lload_n hc.1 hc.2.1 hd rfl (hl.at hg) (hk _ _ _ _ hx H locs la cells slots hw hS hl h1 h2 h3 h4)
  next => exact hx.elim
theorem s_lload {i : Nat} (hd : decode mt.1 pc = .ok (.lload i, 2)) : Snd mt pc (x_ll (pc + 2) i) := by
  intro R p l e s m args below meth c D ca ad N0 S0 Q hc ro ls st M K hx hk
  unfold x_ll at hx; split at hx
  next x hg =>
    intro H locs la cells slots hw hS hl h1 h2 h3 h4
    exact lv_lload hc.1 hc.2.1 hd (hl.at hg) (hk _ _ _ _ hx H locs la cells slots hw hS hl h1 h2 h3 h4)
  next => exact hx.elim
theorem s_aload_n {k : Fin 4} (hd : decode mt.1 pc = .ok (.aload_n k, 1)) : Snd mt pc (x_al (pc + 1) k.val) := by
  intro R p l e s m args below meth c D ca ad N0 S0 Q hc ro ls st M K hx hk
  unfold x_al at hx; split at hx
  next x hg =>
    intro H locs la cells slots hw hS hl h1 h2 h3 h4
    have hq := hk _ _ _ _ hx H locs la cells slots hw hS hl h1 h2 h3 h4
    have hg' := hl.at hg
    simp only [cv, List.map_cons] at hq hg'
    cases ho : rO ad x with
    | none => rw [ho] at hq hg'; exact lv_aload_nN hc.1 hc.2.1 hd rfl hg' hq
    | some a => rw [ho] at hq hg'; exact lv_aload_n hc.1 hc.2.1 hd rfl hg' hq
  next => exact hx.elim
theorem s_aload {i : Nat} (hd : decode mt.1 pc = .ok (.aload i, 2)) : Snd mt pc (x_al (pc + 2) i) := by
  intro R p l e s m args below meth c D ca ad N0 S0 Q hc ro ls st M K hx hk
  unfold x_al at hx; split at hx
  next x hg =>
    intro H locs la cells slots hw hS hl h1 h2 h3 h4
    have hq := hk _ _ _ _ hx H locs la cells slots hw hS hl h1 h2 h3 h4
    have hg' := hl.at hg
    simp only [cv, List.map_cons] at hq hg'
    cases ho : rO ad x with
    | none => rw [ho] at hq hg'; exact lv_aloadN hc.1 hc.2.1 hd hg' hq
    | some a => rw [ho] at hq hg'; exact lv_aload hc.1 hc.2.1 hd hg' hq
  next => exact hx.elim
theorem s_istore_n {k : Fin 4} (hd : decode mt.1 pc = .ok (.istore_n k, 1)) (hn : k.val < mt.2.2.1) : Snd mt pc (x_is (pc + 1) k.val) := by
  intro R p l e s m args below meth c D ca ad N0 S0 Q hc ro ls st M K hx hk
  unfold x_is at hx; split at hx
  next x st =>
    intro H locs la cells slots hw hS hl h1 h2 h3 h4
    obtain ⟨lv, l1, l2⟩ := hl
    exact lv_istore_n hc.1 hc.2.1 hd rfl l1 hn rfl (fun la' h' => hk _ _ _ _ hx H locs la' cells slots hw hS (LH.set l2 h') h1 h2 h3 h4)
  next => exact hx.elim
theorem s_istore {i : Nat} (hd : decode mt.1 pc = .ok (.istore i, 2)) (hn : i < mt.2.2.1) : Snd mt pc (x_is (pc + 2) i) := by
  intro R p l e s m args below meth c D ca ad N0 S0 Q hc ro ls st M K hx hk
  unfold x_is at hx; split at hx
  next x st =>
    intro H locs la cells slots hw hS hl h1 h2 h3 h4
    obtain ⟨lv, l1, l2⟩ := hl
    exact lv_istore hc.1 hc.2.1 hd l1 hn rfl (fun la' h' => hk _ _ _ _ hx H locs la' cells slots hw hS (LH.set l2 h') h1 h2 h3 h4)
  next => exact hx.elim
theorem s_astore_n {k : Fin 4} (hd : decode mt.1 pc = .ok (.astore_n k, 1)) (hn : k.val < mt.2.2.1) : Snd mt pc (x_as (pc + 1) k.val) := by
  intro R p l e s m args below meth c D ca ad N0 S0 Q hc ro ls st M K hx hk
  unfold x_as at hx; split at hx
  next x st =>
    intro H locs la cells slots hw hS hl h1 h2 h3 h4
    obtain ⟨lv, l1, l2⟩ := hl
    have key : ∀ la', lv_has la' mt.2.2.1 ((k.val, cv ad (.ref x)) :: lv.filter (fun q => !(q.1 == k.val) && !(q.1 + 1 == k.val && q.2.category == 2))) → W p l e mt.2.2.2.2.1 s m args below meth c H locs cells slots Q (F0 m (pc + 1) la' (st.map (cv ad))) := fun la' h' => hk _ _ _ _ hx H locs la' cells slots hw hS (LH.set l2 h') h1 h2 h3 h4
    simp only [cv, List.map_cons] at key ⊢
    cases ho : rO ad x with
    | none => rw [ho] at key; exact lv_astore_nN hc.1 hc.2.1 hd rfl l1 hn rfl key
    | some a => rw [ho] at key; exact lv_astore_n hc.1 hc.2.1 hd rfl l1 hn rfl key
  next => exact hx.elim
theorem s_lstore_n {k : Fin 4} (hd : decode mt.1 pc = .ok (.lstore_n k, 1)) (hn : k.val + 1 < mt.2.2.1) : Snd mt pc (x_ls (pc + 1) k.val) := by
  intro R p l e s m args below meth c D ca ad N0 S0 Q hc ro ls st M K hx hk
  unfold x_ls at hx; split at hx
  next x st =>
    intro H locs la cells slots hw hS hl h1 h2 h3 h4
    obtain ⟨lv, l1, l2⟩ := hl
    exact lv_lstore_n hc.1 hc.2.1 hd rfl l1 hn rfl (fun la' h' => hk _ _ _ _ hx H locs la' cells slots hw hS (LH.set2 l2 h') h1 h2 h3 h4)
  next => exact hx.elim
theorem s_lstore {i : Nat} (hd : decode mt.1 pc = .ok (.lstore i, 2)) (hn : i + 1 < mt.2.2.1) : Snd mt pc (x_ls (pc + 2) i) := by
  intro R p l e s m args below meth c D ca ad N0 S0 Q hc ro ls st M K hx hk
  unfold x_ls at hx; split at hx
  next x st =>
    intro H locs la cells slots hw hS hl h1 h2 h3 h4
    obtain ⟨lv, l1, l2⟩ := hl
    exact lv_lstore hc.1 hc.2.1 hd l1 hn rfl (fun la' h' => hk _ _ _ _ hx H locs la' cells slots hw hS (LH.set2 l2 h') h1 h2 h3 h4)
  next => exact hx.elim
theorem s_iinc {i : Nat} {n : Int} {d : Int32} (hd : decode mt.1 pc = .ok (.iinc i n, 3)) (hn : i < mt.2.2.1) (hv : Int32.ofInt n = d) : Snd mt pc (x_inc (pc + 3) i d) := by
  intro R p l e s m args below meth c D ca ad N0 S0 Q hc ro ls st M K hx hk
  unfold x_inc at hx; split at hx
  next x hg =>
    intro H locs la cells slots hw hS hl h1 h2 h3 h4
    obtain ⟨lv, l1, l2⟩ := hl
    obtain ⟨k, hk'⟩ := List.getElem?_of_mem (l2 i (.int x) (lg_get hg))
    exact lv_iinc hc.1 hc.2.1 hd l1 hk' (by rw [hv]) hn rfl (fun la' h' => hk _ _ _ _ hx H locs la' cells slots hw hS (LH.set l2 h') h1 h2 h3 h4)
  next => exact hx.elim
theorem s_goto {off : Int} {tgt : Nat} (hd : decode mt.1 pc = .ok (.goto off, 3)) (ht : (pc : Int) + off = (tgt : Int)) : Snd mt pc (x_go tgt) := by
  intro R p l e s m args below meth c D ca ad N0 S0 Q hc ro ls st M K hx hk H locs la cells slots hw hS hl h1 h2 h3 h4
  exact lv_goto hc.1 hc.2.1 hd ht (hk _ _ _ _ hx H locs la cells slots hw hS hl h1 h2 h3 h4)
theorem s_i2l (hd : decode mt.1 pc = .ok (.i2l, 1)) : Snd mt pc (x_i2l (pc + 1)) := by
  intro R p l e s m args below meth c D ca ad N0 S0 Q hc ro ls st M K hx hk
  unfold x_i2l at hx; split at hx
  next x st =>
    intro H locs la cells slots hw hS hl h1 h2 h3 h4
    exact lv_i2l hc.1 hc.2.1 hd rfl (hk _ _ _ _ hx H locs la cells slots hw hS hl h1 h2 h3 h4)
  next => exact hx.elim
theorem s_l2i (hd : decode mt.1 pc = .ok (.l2i, 1)) : Snd mt pc (x_l2i (pc + 1)) := by
  intro R p l e s m args below meth c D ca ad N0 S0 Q hc ro ls st M K hx hk
  unfold x_l2i at hx; split at hx
  next x st =>
    intro H locs la cells slots hw hS hl h1 h2 h3 h4
    exact lv_l2i hc.1 hc.2.1 hd rfl (hk _ _ _ _ hx H locs la cells slots hw hS hl h1 h2 h3 h4)
  next => exact hx.elim
theorem s_lcmp (hd : decode mt.1 pc = .ok (.lcmp, 1)) : Snd mt pc (x_lcmp (pc + 1)) := by
  intro R p l e s m args below meth c D ca ad N0 S0 Q hc ro ls st M K hx hk
  unfold x_lcmp at hx; split at hx
  next y x st =>
    intro H locs la cells slots hw hS hl h1 h2 h3 h4
    exact W.lcmp hc.1 hc.2.1 hd (hk _ _ _ _ hx H locs la cells slots hw hS hl h1 h2 h3 h4)
  next => exact hx.elim
theorem s_dup (hd : decode mt.1 pc = .ok (.dup, 1)) : Snd mt pc (x_dup (pc + 1)) := by
  intro R p l e s m args below meth c D ca ad N0 S0 Q hc ro ls st M K hx hk
  unfold x_dup at hx; split at hx
  next x st =>
    intro H locs la cells slots hw hS hl h1 h2 h3 h4
    exact lv_dup hc.1 hc.2.1 hd (cv_cat ad (.int x)) (hk _ _ _ _ hx H locs la cells slots hw hS hl h1 h2 h3 h4)
  next x st =>
    intro H locs la cells slots hw hS hl h1 h2 h3 h4
    exact lv_dup hc.1 hc.2.1 hd (cv_cat ad (.ref x)) (hk _ _ _ _ hx H locs la cells slots hw hS hl h1 h2 h3 h4)
  next => exact hx.elim
theorem s_dup2 (hd : decode mt.1 pc = .ok (.dup2, 1)) : Snd mt pc (x_dup2 (pc + 1)) := by
  intro R p l e s m args below meth c D ca ad N0 S0 Q hc ro ls st M K hx hk
  unfold x_dup2 at hx; split at hx
  next y x st =>
    intro H locs la cells slots hw hS hl h1 h2 h3 h4
    exact lv_dup2_11 hc.1 hc.2.1 hd (cv_cat ad (.int y)) (cv_cat ad (.ref x)) (hk _ _ _ _ hx H locs la cells slots hw hS hl h1 h2 h3 h4)
  next => exact hx.elim
theorem s_pop (hd : decode mt.1 pc = .ok (.pop, 1)) : Snd mt pc (x_pop (pc + 1)) := by
  intro R p l e s m args below meth c D ca ad N0 S0 Q hc ro ls st M K hx hk
  unfold x_pop at hx; split at hx
  next x st =>
    intro H locs la cells slots hw hS hl h1 h2 h3 h4
    exact lv_pop hc.1 hc.2.1 hd (cv_cat ad (.int x)) (hk _ _ _ _ hx H locs la cells slots hw hS hl h1 h2 h3 h4)
  next => exact hx.elim
theorem s_iadd (hd : decode mt.1 pc = .ok (.iadd, 1)) : Snd mt pc (x_ii (pc + 1) (fun x y : Int32 => x + y)) := by
  intro R p l e s m args below meth c D ca ad N0 S0 Q hc ro ls st M K hx hk
  unfold x_ii at hx; split at hx
  next y x st =>
    intro H locs la cells slots hw hS hl h1 h2 h3 h4
    exact lv_iadd hc.1 hc.2.1 hd (hk _ _ _ _ hx H locs la cells slots hw hS hl h1 h2 h3 h4)
  next => exact hx.elim
theorem s_isub (hd : decode mt.1 pc = .ok (.isub, 1)) : Snd mt pc (x_ii (pc + 1) (fun x y : Int32 => x - y)) := by
  intro R p l e s m args below meth c D ca ad N0 S0 Q hc ro ls st M K hx hk
  unfold x_ii at hx; split at hx
  next y x st =>
    intro H locs la cells slots hw hS hl h1 h2 h3 h4
    exact lv_isub hc.1 hc.2.1 hd (hk _ _ _ _ hx H locs la cells slots hw hS hl h1 h2 h3 h4)
  next => exact hx.elim
theorem s_imul (hd : decode mt.1 pc = .ok (.imul, 1)) : Snd mt pc (x_ii (pc + 1) (fun x y : Int32 => x * y)) := by
  intro R p l e s m args below meth c D ca ad N0 S0 Q hc ro ls st M K hx hk
  unfold x_ii at hx; split at hx
  next y x st =>
    intro H locs la cells slots hw hS hl h1 h2 h3 h4
    exact lv_imul hc.1 hc.2.1 hd (hk _ _ _ _ hx H locs la cells slots hw hS hl h1 h2 h3 h4)
  next => exact hx.elim
theorem s_iand (hd : decode mt.1 pc = .ok (.iand, 1)) : Snd mt pc (x_ii (pc + 1) (fun x y : Int32 => x &&& y)) := by
  intro R p l e s m args below meth c D ca ad N0 S0 Q hc ro ls st M K hx hk
  unfold x_ii at hx; split at hx
  next y x st =>
    intro H locs la cells slots hw hS hl h1 h2 h3 h4
    exact lv_iand hc.1 hc.2.1 hd (hk _ _ _ _ hx H locs la cells slots hw hS hl h1 h2 h3 h4)
  next => exact hx.elim
theorem s_ior (hd : decode mt.1 pc = .ok (.ior, 1)) : Snd mt pc (x_ii (pc + 1) (fun x y : Int32 => x ||| y)) := by
  intro R p l e s m args below meth c D ca ad N0 S0 Q hc ro ls st M K hx hk
  unfold x_ii at hx; split at hx
  next y x st =>
    intro H locs la cells slots hw hS hl h1 h2 h3 h4
    exact lv_ior hc.1 hc.2.1 hd (hk _ _ _ _ hx H locs la cells slots hw hS hl h1 h2 h3 h4)
  next => exact hx.elim
theorem s_ixor (hd : decode mt.1 pc = .ok (.ixor, 1)) : Snd mt pc (x_ii (pc + 1) (fun x y : Int32 => x ^^^ y)) := by
  intro R p l e s m args below meth c D ca ad N0 S0 Q hc ro ls st M K hx hk
  unfold x_ii at hx; split at hx
  next y x st =>
    intro H locs la cells slots hw hS hl h1 h2 h3 h4
    exact lv_ixor hc.1 hc.2.1 hd (hk _ _ _ _ hx H locs la cells slots hw hS hl h1 h2 h3 h4)
  next => exact hx.elim
theorem s_ishl (hd : decode mt.1 pc = .ok (.ishl, 1)) : Snd mt pc (x_ii (pc + 1) (fun x y : Int32 => x <<< (y &&& 31))) := by
  intro R p l e s m args below meth c D ca ad N0 S0 Q hc ro ls st M K hx hk
  unfold x_ii at hx; split at hx
  next y x st =>
    intro H locs la cells slots hw hS hl h1 h2 h3 h4
    exact lv_ishl hc.1 hc.2.1 hd (hk _ _ _ _ hx H locs la cells slots hw hS hl h1 h2 h3 h4)
  next => exact hx.elim
theorem s_ishr (hd : decode mt.1 pc = .ok (.ishr, 1)) : Snd mt pc (x_ii (pc + 1) (fun x y : Int32 => x >>> (y &&& 31))) := by
  intro R p l e s m args below meth c D ca ad N0 S0 Q hc ro ls st M K hx hk
  unfold x_ii at hx; split at hx
  next y x st =>
    intro H locs la cells slots hw hS hl h1 h2 h3 h4
    exact lv_ishr hc.1 hc.2.1 hd (hk _ _ _ _ hx H locs la cells slots hw hS hl h1 h2 h3 h4)
  next => exact hx.elim
theorem s_iushr (hd : decode mt.1 pc = .ok (.iushr, 1)) : Snd mt pc (x_ii (pc + 1) (fun x y : Int32 => (x.toUInt32 >>> (y.toUInt32 &&& Int32.toUInt32 31)).toInt32)) := by
  intro R p l e s m args below meth c D ca ad N0 S0 Q hc ro ls st M K hx hk
  unfold x_ii at hx; split at hx
  next y x st =>
    intro H locs la cells slots hw hS hl h1 h2 h3 h4
    exact lv_iushr hc.1 hc.2.1 hd rfl (hk _ _ _ _ hx H locs la cells slots hw hS hl h1 h2 h3 h4)
  next => exact hx.elim
theorem s_idiv (hd : decode mt.1 pc = .ok (.idiv, 1)) : Snd mt pc (x_iq (pc + 1) (fun x y : Int32 => x / y)) := by
  intro R p l e s m args below meth c D ca ad N0 S0 Q hc ro ls st M K hx hk
  unfold x_iq at hx; split at hx
  next y x st =>
    intro H locs la cells slots hw hS hl h1 h2 h3 h4
    exact lv_idiv hc.1 hc.2.1 hd hx.1 (hk _ _ _ _ hx.2 H locs la cells slots hw hS hl h1 h2 h3 h4)
  next => exact hx.elim
theorem s_irem (hd : decode mt.1 pc = .ok (.irem, 1)) : Snd mt pc (x_iq (pc + 1) (fun x y : Int32 => x - x / y * y)) := by
  intro R p l e s m args below meth c D ca ad N0 S0 Q hc ro ls st M K hx hk
  unfold x_iq at hx; split at hx
  next y x st =>
    intro H locs la cells slots hw hS hl h1 h2 h3 h4
    exact lv_irem hc.1 hc.2.1 hd hx.1 (hk _ _ _ _ hx.2 H locs la cells slots hw hS hl h1 h2 h3 h4)
  next => exact hx.elim
theorem s_ineg (hd : decode mt.1 pc = .ok (.ineg, 1)) : Snd mt pc (x_i1 (pc + 1) (fun x : Int32 => -x)) := by
  intro R p l e s m args below meth c D ca ad N0 S0 Q hc ro ls st M K hx hk
  unfold x_i1 at hx; split at hx
  next x st =>
    intro H locs la cells slots hw hS hl h1 h2 h3 h4
    exact lv_ineg hc.1 hc.2.1 hd (hk _ _ _ _ hx H locs la cells slots hw hS hl h1 h2 h3 h4)
  next => exact hx.elim
theorem s_ladd (hd : decode mt.1 pc = .ok (.ladd, 1)) : Snd mt pc (x_l2 (pc + 1) (fun x y : Int64 => x + y)) := by
  intro R p l e s m args below meth c D ca ad N0 S0 Q hc ro ls st M K hx hk
  unfold x_l2 at hx; split at hx
  next y x st =>
    intro H locs la cells slots hw hS hl h1 h2 h3 h4
    exact lv_ladd hc.1 hc.2.1 hd (hk _ _ _ _ hx H locs la cells slots hw hS hl h1 h2 h3 h4)
  next => exact hx.elim
theorem s_lsub (hd : decode mt.1 pc = .ok (.lsub, 1)) : Snd mt pc (x_l2 (pc + 1) (fun x y : Int64 => x - y)) := by
  intro R p l e s m args below meth c D ca ad N0 S0 Q hc ro ls st M K hx hk
  unfold x_l2 at hx; split at hx
  next y x st =>
    intro H locs la cells slots hw hS hl h1 h2 h3 h4
    exact lv_lsub hc.1 hc.2.1 hd (hk _ _ _ _ hx H locs la cells slots hw hS hl h1 h2 h3 h4)
  next => exact hx.elim
theorem s_lmul (hd : decode mt.1 pc = .ok (.lmul, 1)) : Snd mt pc (x_l2 (pc + 1) (fun x y : Int64 => x * y)) := by
  intro R p l e s m args below meth c D ca ad N0 S0 Q hc ro ls st M K hx hk
  unfold x_l2 at hx; split at hx
  next y x st =>
    intro H locs la cells slots hw hS hl h1 h2 h3 h4
    exact lv_lmul hc.1 hc.2.1 hd (hk _ _ _ _ hx H locs la cells slots hw hS hl h1 h2 h3 h4)
  next => exact hx.elim
theorem s_land (hd : decode mt.1 pc = .ok (.land, 1)) : Snd mt pc (x_l2 (pc + 1) (fun x y : Int64 => x &&& y)) := by
  intro R p l e s m args below meth c D ca ad N0 S0 Q hc ro ls st M K hx hk
  unfold x_l2 at hx; split at hx
  next y x st =>
    intro H locs la cells slots hw hS hl h1 h2 h3 h4
    exact lv_land hc.1 hc.2.1 hd (hk _ _ _ _ hx H locs la cells slots hw hS hl h1 h2 h3 h4)
  next => exact hx.elim
theorem s_lor (hd : decode mt.1 pc = .ok (.lor, 1)) : Snd mt pc (x_l2 (pc + 1) (fun x y : Int64 => x ||| y)) := by
  intro R p l e s m args below meth c D ca ad N0 S0 Q hc ro ls st M K hx hk
  unfold x_l2 at hx; split at hx
  next y x st =>
    intro H locs la cells slots hw hS hl h1 h2 h3 h4
    exact lv_lor hc.1 hc.2.1 hd (hk _ _ _ _ hx H locs la cells slots hw hS hl h1 h2 h3 h4)
  next => exact hx.elim
theorem s_ldiv (hd : decode mt.1 pc = .ok (.ldiv, 1)) : Snd mt pc (x_lq (pc + 1) (fun x y : Int64 => x / y)) := by
  intro R p l e s m args below meth c D ca ad N0 S0 Q hc ro ls st M K hx hk
  unfold x_lq at hx; split at hx
  next y x st =>
    intro H locs la cells slots hw hS hl h1 h2 h3 h4
    exact lv_ldiv hc.1 hc.2.1 hd hx.1 (hk _ _ _ _ hx.2 H locs la cells slots hw hS hl h1 h2 h3 h4)
  next => exact hx.elim
theorem s_lrem (hd : decode mt.1 pc = .ok (.lrem, 1)) : Snd mt pc (x_lq (pc + 1) (fun x y : Int64 => x - x / y * y)) := by
  intro R p l e s m args below meth c D ca ad N0 S0 Q hc ro ls st M K hx hk
  unfold x_lq at hx; split at hx
  next y x st =>
    intro H locs la cells slots hw hS hl h1 h2 h3 h4
    exact lv_lrem hc.1 hc.2.1 hd hx.1 (hk _ _ _ _ hx.2 H locs la cells slots hw hS hl h1 h2 h3 h4)
  next => exact hx.elim
theorem s_lushr (hd : decode mt.1 pc = .ok (.lushr, 1)) : Snd mt pc (x_lh (pc + 1) (fun (x : Int64) (y : Int32) => (x.toUInt64 >>> (y.toInt64.toUInt64 &&& Int64.toUInt64 63)).toInt64)) := by
  intro R p l e s m args below meth c D ca ad N0 S0 Q hc ro ls st M K hx hk
  unfold x_lh at hx; split at hx
  next y x st =>
    intro H locs la cells slots hw hS hl h1 h2 h3 h4
    exact lv_lushr hc.1 hc.2.1 hd rfl (hk _ _ _ _ hx H locs la cells slots hw hS hl h1 h2 h3 h4)
  next => exact hx.elim
theorem s_lshl (hd : decode mt.1 pc = .ok (.lshl, 1)) : Snd mt pc (x_lh (pc + 1) (fun (x : Int64) (y : Int32) => x <<< (y.toInt64 &&& 63))) := by
  intro R p l e s m args below meth c D ca ad N0 S0 Q hc ro ls st M K hx hk
  unfold x_lh at hx; split at hx
  next y x st =>
    intro H locs la cells slots hw hS hl h1 h2 h3 h4
    exact lv_lshl hc.1 hc.2.1 hd rfl (hk _ _ _ _ hx H locs la cells slots hw hS hl h1 h2 h3 h4)
  next => exact hx.elim
end SND
end
section
/-! branches, switches -/
def x_ifn (tgt nx : Nat) (c : Int32 → Prop) : X := fun ls st M K _ => match st with
  | .int x :: st => (¬ c x → K tgt ls st M) ∧ (c x → K nx ls st M)
  | _ => False
def x_icn (tgt nx : Nat) (c : Int32 → Int32 → Prop) : X := fun ls st M K _ => match st with
  | .int y :: .int x :: st => (¬ c x y → K tgt ls st M) ∧ (c x y → K nx ls st M)
  | _ => False
section BRN
variable {mt : Mt} {pc : Nat}
theorem s_if_eq {off : Int} {tgt : Nat} (hd : decode mt.1 pc = .ok (.ifCond .eq off, 3)) (ht : (pc : Int) + off = (tgt : Int)) : Snd mt pc (x_if tgt (pc + 3) (fun x : Int32 => x = 0)) := by
  intro R p l e s m args below meth c D ca ad N0 S0 Q hc ro ls st M K hx hk
  unfold x_if at hx; split at hx
  next x st =>
    intro H locs la cells slots hw hS hl h1 h2 h3 h4
    exact lv_if_eq hc.1 hc.2.1 hd ht (fun h => hk _ _ _ _ (hx.1 h) H locs la cells slots hw hS hl h1 h2 h3 h4) (fun h => hk _ _ _ _ (hx.2 h) H locs la cells slots hw hS hl h1 h2 h3 h4)
  next => exact hx.elim
theorem s_ic_eq {off : Int} {tgt : Nat} (hd : decode mt.1 pc = .ok (.if_icmp .eq off, 3)) (ht : (pc : Int) + off = (tgt : Int)) : Snd mt pc (x_ic tgt (pc + 3) (fun x y : Int32 => x = y)) := by
  intro R p l e s m args below meth c D ca ad N0 S0 Q hc ro ls st M K hx hk
  unfold x_ic at hx; split at hx
  next y x st =>
    intro H locs la cells slots hw hS hl h1 h2 h3 h4
    exact lv_icmp_eq hc.1 hc.2.1 hd ht (fun h => hk _ _ _ _ (hx.1 h) H locs la cells slots hw hS hl h1 h2 h3 h4) (fun h => hk _ _ _ _ (hx.2 h) H locs la cells slots hw hS hl h1 h2 h3 h4)
  next => exact hx.elim
theorem s_if_ne {off : Int} {tgt : Nat} (hd : decode mt.1 pc = .ok (.ifCond .ne off, 3)) (ht : (pc : Int) + off = (tgt : Int)) : Snd mt pc (x_ifn tgt (pc + 3) (fun x : Int32 => x = 0)) := by
  intro R p l e s m args below meth c D ca ad N0 S0 Q hc ro ls st M K hx hk
  unfold x_ifn at hx; split at hx
  next x st =>
    intro H locs la cells slots hw hS hl h1 h2 h3 h4
    exact lv_if_ne hc.1 hc.2.1 hd ht (fun h => hk _ _ _ _ (hx.1 h) H locs la cells slots hw hS hl h1 h2 h3 h4) (fun h => hk _ _ _ _ (hx.2 h) H locs la cells slots hw hS hl h1 h2 h3 h4)
  next => exact hx.elim
theorem s_ic_ne {off : Int} {tgt : Nat} (hd : decode mt.1 pc = .ok (.if_icmp .ne off, 3)) (ht : (pc : Int) + off = (tgt : Int)) : Snd mt pc (x_icn tgt (pc + 3) (fun x y : Int32 => x = y)) := by
  intro R p l e s m args below meth c D ca ad N0 S0 Q hc ro ls st M K hx hk
  unfold x_icn at hx; split at hx
  next y x st =>
    intro H locs la cells slots hw hS hl h1 h2 h3 h4
    exact lv_icmp_ne hc.1 hc.2.1 hd ht (fun h => hk _ _ _ _ (hx.1 h) H locs la cells slots hw hS hl h1 h2 h3 h4) (fun h => hk _ _ _ _ (hx.2 h) H locs la cells slots hw hS hl h1 h2 h3 h4)
  next => exact hx.elim
theorem s_if_lt {off : Int} {tgt : Nat} (hd : decode mt.1 pc = .ok (.ifCond .lt off, 3)) (ht : (pc : Int) + off = (tgt : Int)) : Snd mt pc (x_if tgt (pc + 3) (fun x : Int32 => x < 0)) := by
  intro R p l e s m args below meth c D ca ad N0 S0 Q hc ro ls st M K hx hk
  unfold x_if at hx; split at hx
  next x st =>
    intro H locs la cells slots hw hS hl h1 h2 h3 h4
    exact lv_if_lt hc.1 hc.2.1 hd ht (fun h => hk _ _ _ _ (hx.1 h) H locs la cells slots hw hS hl h1 h2 h3 h4) (fun h => hk _ _ _ _ (hx.2 h) H locs la cells slots hw hS hl h1 h2 h3 h4)
  next => exact hx.elim
theorem s_ic_lt {off : Int} {tgt : Nat} (hd : decode mt.1 pc = .ok (.if_icmp .lt off, 3)) (ht : (pc : Int) + off = (tgt : Int)) : Snd mt pc (x_ic tgt (pc + 3) (fun x y : Int32 => x < y)) := by
  intro R p l e s m args below meth c D ca ad N0 S0 Q hc ro ls st M K hx hk
  unfold x_ic at hx; split at hx
  next y x st =>
    intro H locs la cells slots hw hS hl h1 h2 h3 h4
    exact lv_icmp_lt hc.1 hc.2.1 hd ht (fun h => hk _ _ _ _ (hx.1 h) H locs la cells slots hw hS hl h1 h2 h3 h4) (fun h => hk _ _ _ _ (hx.2 h) H locs la cells slots hw hS hl h1 h2 h3 h4)
  next => exact hx.elim
theorem s_if_ge {off : Int} {tgt : Nat} (hd : decode mt.1 pc = .ok (.ifCond .ge off, 3)) (ht : (pc : Int) + off = (tgt : Int)) : Snd mt pc (x_if tgt (pc + 3) (fun x : Int32 => 0 ≤ x)) := by
  intro R p l e s m args below meth c D ca ad N0 S0 Q hc ro ls st M K hx hk
  unfold x_if at hx; split at hx
  next x st =>
    intro H locs la cells slots hw hS hl h1 h2 h3 h4
    exact lv_if_ge hc.1 hc.2.1 hd ht (fun h => hk _ _ _ _ (hx.1 h) H locs la cells slots hw hS hl h1 h2 h3 h4) (fun h => hk _ _ _ _ (hx.2 h) H locs la cells slots hw hS hl h1 h2 h3 h4)
  next => exact hx.elim
theorem s_ic_ge {off : Int} {tgt : Nat} (hd : decode mt.1 pc = .ok (.if_icmp .ge off, 3)) (ht : (pc : Int) + off = (tgt : Int)) : Snd mt pc (x_ic tgt (pc + 3) (fun x y : Int32 => y ≤ x)) := by
  intro R p l e s m args below meth c D ca ad N0 S0 Q hc ro ls st M K hx hk
  unfold x_ic at hx; split at hx
  next y x st =>
    intro H locs la cells slots hw hS hl h1 h2 h3 h4
    exact lv_icmp_ge hc.1 hc.2.1 hd ht (fun h => hk _ _ _ _ (hx.1 h) H locs la cells slots hw hS hl h1 h2 h3 h4) (fun h => hk _ _ _ _ (hx.2 h) H locs la cells slots hw hS hl h1 h2 h3 h4)
  next => exact hx.elim
theorem s_if_gt {off : Int} {tgt : Nat} (hd : decode mt.1 pc = .ok (.ifCond .gt off, 3)) (ht : (pc : Int) + off = (tgt : Int)) : Snd mt pc (x_if tgt (pc + 3) (fun x : Int32 => 0 < x)) := by
  intro R p l e s m args below meth c D ca ad N0 S0 Q hc ro ls st M K hx hk
  unfold x_if at hx; split at hx
  next x st =>
    intro H locs la cells slots hw hS hl h1 h2 h3 h4
    exact lv_if_gt hc.1 hc.2.1 hd ht (fun h => hk _ _ _ _ (hx.1 h) H locs la cells slots hw hS hl h1 h2 h3 h4) (fun h => hk _ _ _ _ (hx.2 h) H locs la cells slots hw hS hl h1 h2 h3 h4)
  next => exact hx.elim
theorem s_ic_gt {off : Int} {tgt : Nat} (hd : decode mt.1 pc = .ok (.if_icmp .gt off, 3)) (ht : (pc : Int) + off = (tgt : Int)) : Snd mt pc (x_ic tgt (pc + 3) (fun x y : Int32 => y < x)) := by
  intro R p l e s m args below meth c D ca ad N0 S0 Q hc ro ls st M K hx hk
  unfold x_ic at hx; split at hx
  next y x st =>
    intro H locs la cells slots hw hS hl h1 h2 h3 h4
    exact lv_icmp_gt hc.1 hc.2.1 hd ht (fun h => hk _ _ _ _ (hx.1 h) H locs la cells slots hw hS hl h1 h2 h3 h4) (fun h => hk _ _ _ _ (hx.2 h) H locs la cells slots hw hS hl h1 h2 h3 h4)
  next => exact hx.elim
theorem s_if_le {off : Int} {tgt : Nat} (hd : decode mt.1 pc = .ok (.ifCond .le off, 3)) (ht : (pc : Int) + off = (tgt : Int)) : Snd mt pc (x_if tgt (pc + 3) (fun x : Int32 => x ≤ 0)) := by
  intro R p l e s m args below meth c D ca ad N0 S0 Q hc ro ls st M K hx hk
  unfold x_if at hx; split at hx
  next x st =>
    intro H locs la cells slots hw hS hl h1 h2 h3 h4
    exact lv_if_le hc.1 hc.2.1 hd ht (fun h => hk _ _ _ _ (hx.1 h) H locs la cells slots hw hS hl h1 h2 h3 h4) (fun h => hk _ _ _ _ (hx.2 h) H locs la cells slots hw hS hl h1 h2 h3 h4)
  next => exact hx.elim
theorem s_ic_le {off : Int} {tgt : Nat} (hd : decode mt.1 pc = .ok (.if_icmp .le off, 3)) (ht : (pc : Int) + off = (tgt : Int)) : Snd mt pc (x_ic tgt (pc + 3) (fun x y : Int32 => x ≤ y)) := by
  intro R p l e s m args below meth c D ca ad N0 S0 Q hc ro ls st M K hx hk
  unfold x_ic at hx; split at hx
  next y x st =>
    intro H locs la cells slots hw hS hl h1 h2 h3 h4
    exact lv_icmp_le hc.1 hc.2.1 hd ht (fun h => hk _ _ _ _ (hx.1 h) H locs la cells slots hw hS hl h1 h2 h3 h4) (fun h => hk _ _ _ _ (hx.2 h) H locs la cells slots hw hS hl h1 h2 h3 h4)
  next => exact hx.elim
theorem swc_at {P : Nat → Prop} {x : Int32} : ∀ {lo : Int} {ts : List Nat}, swc P x lo ts → ∀ (i : Nat) (t : Nat), ts[i]? = some t → x.toInt = lo + i → P t
  | lo, [], _, i, t, h, _ => by simp at h
  | lo, a :: r, hs, 0, t, h, e => by simp at h; subst h; exact hs.1 (by simpa using e)
  | lo, a :: r, hs, i + 1, t, h, e => swc_at hs.2 i t (by simpa using h) (by push_cast at e ⊢; omega)
theorem s_sw {lo hi dflt : Int} {offs : Array Int} {ts : List Nat} {len d : Nat} (hd : decode mt.1 pc = .ok (.tableswitch dflt lo hi offs, len)) (h0 : ts.length = (hi + 1 - lo).toNat) (ho : ∀ i, i < ts.length → ∃ off t, offs[i]? = some off ∧ ts[i]? = some t ∧ (pc : Int) + off = (t : Int)) (ht : (pc : Int) + dflt = (d : Int)) : Snd mt pc (x_sw lo hi ts d) := by
  intro R p l e s m args below meth c D ca ad N0 S0 Q hc ro ls st M K hx hk
  unfold x_sw at hx; split at hx
  next x st =>
    intro H locs la cells slots hw hS hl h1 h2 h3 h4
    by_cases ha : x.toInt < lo ∨ hi < x.toInt
    · exact lv_tableOut hc.1 hc.2.1 hd ha ht (hk _ _ _ _ (hx.2 ha) H locs la cells slots hw hS hl h1 h2 h3 h4)
    · have ha1 : ¬ x.toInt < lo := fun h => ha (Or.inl h)
      have ha2 : ¬ hi < x.toInt := fun h => ha (Or.inr h)
      have hi' : (x.toInt - lo).toNat < ts.length := by rw [h0]; omega
      obtain ⟨off, t, o1, o2, o3⟩ := ho _ hi'
      exact lv_tableIn hc.1 hc.2.1 hd ha1 ha2 o1 o3 (hk _ _ _ _ (swc_at hx.1 _ t o2 (by omega)) H locs la cells slots hw hS hl h1 h2 h3 h4)
  next => exact hx.elim
end BRN
end
