-- ===== PART A: goes FIRST, ahead of the names: the tables' words, and 'selects' of the private methods out of them =====
/-- a private method of a class that the tables say can be made, by its rows of tables_1 -/
def lw_okq (q : MethodName × Nat) : Prop := (q.1.cls ≠ "java/lang/invoke/MethodHandle" ∧ q.1.cls ≠ "java/lang/invoke/VarHandle") ∧ Cond.instantiable q.1.cls q.2 ∈ tables_1 ∧ Cond.privateMethod q.1 ∈ tables_1 ∧ Cond.instanceMethod q.1 ∈ tables_1
theorem lw_p0 : lw_okq (⟨"SparseChecks$Reading", "takesBits", "(I)Z"⟩, 7) := ⟨⟨by decide +kernel, by decide +kernel⟩, List.mem_of_getElem? (i := 30) (by decide +kernel), List.mem_of_getElem? (i := 277) (by decide +kernel), List.mem_of_getElem? (i := 278) (by decide +kernel)⟩
theorem lw_p1 : lw_okq (⟨"SparseChecks$Reading", "takesOffset", "(I)Z"⟩, 7) := ⟨⟨by decide +kernel, by decide +kernel⟩, List.mem_of_getElem? (i := 30) (by decide +kernel), List.mem_of_getElem? (i := 281) (by decide +kernel), List.mem_of_getElem? (i := 282) (by decide +kernel)⟩
theorem lw_p2 : lw_okq (⟨"SparseChecks$Reading", "takesInCheck", "(I)Z"⟩, 7) := ⟨⟨by decide +kernel, by decide +kernel⟩, List.mem_of_getElem? (i := 30) (by decide +kernel), List.mem_of_getElem? (i := 285) (by decide +kernel), List.mem_of_getElem? (i := 286) (by decide +kernel)⟩
theorem lw_p3 : lw_okq (⟨"SparseChecks$Reading", "takesCheck", "(I)Z"⟩, 7) := ⟨⟨by decide +kernel, by decide +kernel⟩, List.mem_of_getElem? (i := 30) (by decide +kernel), List.mem_of_getElem? (i := 289) (by decide +kernel), List.mem_of_getElem? (i := 290) (by decide +kernel)⟩
theorem lw_p4 : lw_okq (⟨"SparseChecks$Ways", "ringOver", "(II)I"⟩, 1) := ⟨⟨by decide +kernel, by decide +kernel⟩, List.mem_of_getElem? (i := 154) (by decide +kernel), List.mem_of_getElem? (i := 359) (by decide +kernel), List.mem_of_getElem? (i := 360) (by decide +kernel)⟩
theorem lw_p5 : lw_okq (⟨"SparseChecks$Ways", "bitsUnder", "(I)I"⟩, 1) := ⟨⟨by decide +kernel, by decide +kernel⟩, List.mem_of_getElem? (i := 154) (by decide +kernel), List.mem_of_getElem? (i := 367) (by decide +kernel), List.mem_of_getElem? (i := 368) (by decide +kernel)⟩
theorem lw_p6 : lw_okq (⟨"SparseChecks$Ways", "checksOverAny", "(I)I"⟩, 1) := ⟨⟨by decide +kernel, by decide +kernel⟩, List.mem_of_getElem? (i := 154) (by decide +kernel), List.mem_of_getElem? (i := 371) (by decide +kernel), List.mem_of_getElem? (i := 372) (by decide +kernel)⟩
theorem lw_p7 : lw_okq (⟨"SparseChecks$Sums", "joinsBasis", "(I)Z"⟩, 2) := ⟨⟨by decide +kernel, by decide +kernel⟩, List.mem_of_getElem? (i := 164) (by decide +kernel), List.mem_of_getElem? (i := 383) (by decide +kernel), List.mem_of_getElem? (i := 384) (by decide +kernel)⟩
theorem lw_p8 : lw_okq (⟨"SparseChecks", "needs", "()I"⟩, 11) := ⟨⟨by decide +kernel, by decide +kernel⟩, List.mem_of_getElem? (i := 16) (by decide +kernel), List.mem_of_getElem? (i := 399) (by decide +kernel), List.mem_of_getElem? (i := 400) (by decide +kernel)⟩
theorem lw_p9 : lw_okq (⟨"SparseChecks$Decoder", "findOthers", "(LSparseChecks$State;II)I"⟩, 5) := ⟨⟨by decide +kernel, by decide +kernel⟩, List.mem_of_getElem? (i := 128) (by decide +kernel), List.mem_of_getElem? (i := 417) (by decide +kernel), List.mem_of_getElem? (i := 418) (by decide +kernel)⟩
theorem lw_p10 : lw_okq (⟨"SparseChecks$Decoder", "sendMessages", "(LSparseChecks$State;III)Z"⟩, 5) := ⟨⟨by decide +kernel, by decide +kernel⟩, List.mem_of_getElem? (i := 128) (by decide +kernel), List.mem_of_getElem? (i := 421) (by decide +kernel), List.mem_of_getElem? (i := 422) (by decide +kernel)⟩
theorem lw_p11 : lw_okq (⟨"SparseChecks", "ends", "()I"⟩, 11) := ⟨⟨by decide +kernel, by decide +kernel⟩, List.mem_of_getElem? (i := 16) (by decide +kernel), List.mem_of_getElem? (i := 428) (by decide +kernel), List.mem_of_getElem? (i := 429) (by decide +kernel)⟩
theorem lw_p12 : lw_okq (⟨"SparseChecks", "best", "()I"⟩, 11) := ⟨⟨by decide +kernel, by decide +kernel⟩, List.mem_of_getElem? (i := 16) (by decide +kernel), List.mem_of_getElem? (i := 432) (by decide +kernel), List.mem_of_getElem? (i := 433) (by decide +kernel)⟩
theorem lw_p13 : lw_okq (⟨"SparseChecks$Ways", "farthestChecks", "(I)I"⟩, 1) := ⟨⟨by decide +kernel, by decide +kernel⟩, List.mem_of_getElem? (i := 154) (by decide +kernel), List.mem_of_getElem? (i := 491) (by decide +kernel), List.mem_of_getElem? (i := 492) (by decide +kernel)⟩
theorem lw_p14 : lw_okq (⟨"SparseChecks$Sums", "isTrap", "(III)Z"⟩, 2) := ⟨⟨by decide +kernel, by decide +kernel⟩, List.mem_of_getElem? (i := 164) (by decide +kernel), List.mem_of_getElem? (i := 517) (by decide +kernel), List.mem_of_getElem? (i := 518) (by decide +kernel)⟩
theorem lw_p15 : lw_okq (⟨"SparseChecks$Seen", "mostRounds", "()I"⟩, 3) := ⟨⟨by decide +kernel, by decide +kernel⟩, List.mem_of_getElem? (i := 197) (by decide +kernel), List.mem_of_getElem? (i := 586) (by decide +kernel), List.mem_of_getElem? (i := 587) (by decide +kernel)⟩
def lw_privs_1 : List (MethodName × Nat) := [(⟨"SparseChecks$Reading", "takesBits", "(I)Z"⟩, 7), (⟨"SparseChecks$Reading", "takesOffset", "(I)Z"⟩, 7), (⟨"SparseChecks$Reading", "takesInCheck", "(I)Z"⟩, 7), (⟨"SparseChecks$Reading", "takesCheck", "(I)Z"⟩, 7), (⟨"SparseChecks$Ways", "ringOver", "(II)I"⟩, 1), (⟨"SparseChecks$Ways", "bitsUnder", "(I)I"⟩, 1), (⟨"SparseChecks$Ways", "checksOverAny", "(I)I"⟩, 1), (⟨"SparseChecks$Sums", "joinsBasis", "(I)Z"⟩, 2), (⟨"SparseChecks", "needs", "()I"⟩, 11), (⟨"SparseChecks$Decoder", "findOthers", "(LSparseChecks$State;II)I"⟩, 5), (⟨"SparseChecks$Decoder", "sendMessages", "(LSparseChecks$State;III)Z"⟩, 5), (⟨"SparseChecks", "ends", "()I"⟩, 11), (⟨"SparseChecks", "best", "()I"⟩, 11), (⟨"SparseChecks$Ways", "farthestChecks", "(I)I"⟩, 1), (⟨"SparseChecks$Sums", "isTrap", "(III)Z"⟩, 2), (⟨"SparseChecks$Seen", "mostRounds", "()I"⟩, 3)]
theorem lw_r1 : ∀ q ∈ lw_privs_1, lw_okq q := List.forall_mem_cons.mpr ⟨lw_p0, List.forall_mem_cons.mpr ⟨lw_p1, List.forall_mem_cons.mpr ⟨lw_p2, List.forall_mem_cons.mpr ⟨lw_p3, List.forall_mem_cons.mpr ⟨lw_p4, List.forall_mem_cons.mpr ⟨lw_p5, List.forall_mem_cons.mpr ⟨lw_p6, List.forall_mem_cons.mpr ⟨lw_p7, List.forall_mem_cons.mpr ⟨lw_p8, List.forall_mem_cons.mpr ⟨lw_p9, List.forall_mem_cons.mpr ⟨lw_p10, List.forall_mem_cons.mpr ⟨lw_p11, List.forall_mem_cons.mpr ⟨lw_p12, List.forall_mem_cons.mpr ⟨lw_p13, List.forall_mem_cons.mpr ⟨lw_p14, List.forall_mem_cons.mpr ⟨lw_p15, fun _ h => absurd h List.not_mem_nil⟩⟩⟩⟩⟩⟩⟩⟩⟩⟩⟩⟩⟩⟩⟩⟩
theorem lw_p16 : lw_okq (⟨"SparseChecks$Seen", "isSoBehind", "(II)Z"⟩, 3) := ⟨⟨by decide +kernel, by decide +kernel⟩, List.mem_of_getElem? (i := 197) (by decide +kernel), List.mem_of_getElem? (i := 595) (by decide +kernel), List.mem_of_getElem? (i := 596) (by decide +kernel)⟩
theorem lw_p17 : lw_okq (⟨"SparseChecks", "endsEmpty", "(II)Z"⟩, 11) := ⟨⟨by decide +kernel, by decide +kernel⟩, List.mem_of_getElem? (i := 16) (by decide +kernel), List.mem_of_getElem? (i := 624) (by decide +kernel), List.mem_of_getElem? (i := 625) (by decide +kernel)⟩
theorem lw_p18 : lw_okq (⟨"SparseChecksModel", "layOrder", "()V"⟩, 26) := ⟨⟨by decide +kernel, by decide +kernel⟩, List.mem_of_getElem? (i := 646) (by decide +kernel), List.mem_of_getElem? (i := 652) (by decide +kernel), List.mem_of_getElem? (i := 653) (by decide +kernel)⟩
theorem lw_p19 : lw_okq (⟨"SparseChecksModel", "readText", "()I"⟩, 26) := ⟨⟨by decide +kernel, by decide +kernel⟩, List.mem_of_getElem? (i := 646) (by decide +kernel), List.mem_of_getElem? (i := 751) (by decide +kernel), List.mem_of_getElem? (i := 752) (by decide +kernel)⟩
theorem lw_p20 : lw_okq (⟨"SparseChecksModel", "take", "(I)Z"⟩, 26) := ⟨⟨by decide +kernel, by decide +kernel⟩, List.mem_of_getElem? (i := 646) (by decide +kernel), List.mem_of_getElem? (i := 755) (by decide +kernel), List.mem_of_getElem? (i := 756) (by decide +kernel)⟩
theorem lw_p21 : lw_okq (⟨"SparseChecksModel", "wordOf", "([I)I"⟩, 26) := ⟨⟨by decide +kernel, by decide +kernel⟩, List.mem_of_getElem? (i := 646) (by decide +kernel), List.mem_of_getElem? (i := 769) (by decide +kernel), List.mem_of_getElem? (i := 770) (by decide +kernel)⟩
theorem lw_p22 : lw_okq (⟨"SparseChecksModel", "openOf", "([I)I"⟩, 26) := ⟨⟨by decide +kernel, by decide +kernel⟩, List.mem_of_getElem? (i := 646) (by decide +kernel), List.mem_of_getElem? (i := 773) (by decide +kernel), List.mem_of_getElem? (i := 774) (by decide +kernel)⟩
theorem lw_p23 : lw_okq (⟨"SparseChecksModel", "openBy", "([II)I"⟩, 26) := ⟨⟨by decide +kernel, by decide +kernel⟩, List.mem_of_getElem? (i := 646) (by decide +kernel), List.mem_of_getElem? (i := 777) (by decide +kernel), List.mem_of_getElem? (i := 778) (by decide +kernel)⟩
theorem lw_p24 : lw_okq (⟨"SparseChecksModel", "ring", "()I"⟩, 26) := ⟨⟨by decide +kernel, by decide +kernel⟩, List.mem_of_getElem? (i := 646) (by decide +kernel), List.mem_of_getElem? (i := 784) (by decide +kernel), List.mem_of_getElem? (i := 785) (by decide +kernel)⟩
theorem lw_p25 : lw_okq (⟨"SparseChecksModel", "layWays", "([IIII)V"⟩, 26) := ⟨⟨by decide +kernel, by decide +kernel⟩, List.mem_of_getElem? (i := 646) (by decide +kernel), List.mem_of_getElem? (i := 791) (by decide +kernel), List.mem_of_getElem? (i := 792) (by decide +kernel)⟩
theorem lw_p26 : lw_okq (⟨"SparseChecksModel", "rankBy", "(I)I"⟩, 26) := ⟨⟨by decide +kernel, by decide +kernel⟩, List.mem_of_getElem? (i := 646) (by decide +kernel), List.mem_of_getElem? (i := 795) (by decide +kernel), List.mem_of_getElem? (i := 796) (by decide +kernel)⟩
theorem lw_p27 : lw_okq (⟨"SparseChecksModel", "distance", "()I"⟩, 26) := ⟨⟨by decide +kernel, by decide +kernel⟩, List.mem_of_getElem? (i := 646) (by decide +kernel), List.mem_of_getElem? (i := 799) (by decide +kernel), List.mem_of_getElem? (i := 800) (by decide +kernel)⟩
theorem lw_p28 : lw_okq (⟨"SparseChecksModel", "needs", "()I"⟩, 26) := ⟨⟨by decide +kernel, by decide +kernel⟩, List.mem_of_getElem? (i := 646) (by decide +kernel), List.mem_of_getElem? (i := 803) (by decide +kernel), List.mem_of_getElem? (i := 804) (by decide +kernel)⟩
theorem lw_p29 : lw_okq (⟨"SparseChecksModel", "solve", "()I"⟩, 26) := ⟨⟨by decide +kernel, by decide +kernel⟩, List.mem_of_getElem? (i := 646) (by decide +kernel), List.mem_of_getElem? (i := 810) (by decide +kernel), List.mem_of_getElem? (i := 811) (by decide +kernel)⟩
theorem lw_p30 : lw_okq (⟨"SparseChecksModel", "goOn", "([I)V"⟩, 26) := ⟨⟨by decide +kernel, by decide +kernel⟩, List.mem_of_getElem? (i := 646) (by decide +kernel), List.mem_of_getElem? (i := 817) (by decide +kernel), List.mem_of_getElem? (i := 818) (by decide +kernel)⟩
theorem lw_p31 : lw_okq (⟨"SparseChecksModel", "goCheck", "([II)V"⟩, 26) := ⟨⟨by decide +kernel, by decide +kernel⟩, List.mem_of_getElem? (i := 646) (by decide +kernel), List.mem_of_getElem? (i := 821) (by decide +kernel), List.mem_of_getElem? (i := 822) (by decide +kernel)⟩
def lw_privs_2 : List (MethodName × Nat) := [(⟨"SparseChecks$Seen", "isSoBehind", "(II)Z"⟩, 3), (⟨"SparseChecks", "endsEmpty", "(II)Z"⟩, 11), (⟨"SparseChecksModel", "layOrder", "()V"⟩, 26), (⟨"SparseChecksModel", "readText", "()I"⟩, 26), (⟨"SparseChecksModel", "take", "(I)Z"⟩, 26), (⟨"SparseChecksModel", "wordOf", "([I)I"⟩, 26), (⟨"SparseChecksModel", "openOf", "([I)I"⟩, 26), (⟨"SparseChecksModel", "openBy", "([II)I"⟩, 26), (⟨"SparseChecksModel", "ring", "()I"⟩, 26), (⟨"SparseChecksModel", "layWays", "([IIII)V"⟩, 26), (⟨"SparseChecksModel", "rankBy", "(I)I"⟩, 26), (⟨"SparseChecksModel", "distance", "()I"⟩, 26), (⟨"SparseChecksModel", "needs", "()I"⟩, 26), (⟨"SparseChecksModel", "solve", "()I"⟩, 26), (⟨"SparseChecksModel", "goOn", "([I)V"⟩, 26), (⟨"SparseChecksModel", "goCheck", "([II)V"⟩, 26)]
theorem lw_r2 : ∀ q ∈ lw_privs_2, lw_okq q := List.forall_mem_cons.mpr ⟨lw_p16, List.forall_mem_cons.mpr ⟨lw_p17, List.forall_mem_cons.mpr ⟨lw_p18, List.forall_mem_cons.mpr ⟨lw_p19, List.forall_mem_cons.mpr ⟨lw_p20, List.forall_mem_cons.mpr ⟨lw_p21, List.forall_mem_cons.mpr ⟨lw_p22, List.forall_mem_cons.mpr ⟨lw_p23, List.forall_mem_cons.mpr ⟨lw_p24, List.forall_mem_cons.mpr ⟨lw_p25, List.forall_mem_cons.mpr ⟨lw_p26, List.forall_mem_cons.mpr ⟨lw_p27, List.forall_mem_cons.mpr ⟨lw_p28, List.forall_mem_cons.mpr ⟨lw_p29, List.forall_mem_cons.mpr ⟨lw_p30, List.forall_mem_cons.mpr ⟨lw_p31, fun _ h => absurd h List.not_mem_nil⟩⟩⟩⟩⟩⟩⟩⟩⟩⟩⟩⟩⟩⟩⟩⟩
theorem lw_p32 : lw_okq (⟨"SparseChecksModel", "ends", "()I"⟩, 26) := ⟨⟨by decide +kernel, by decide +kernel⟩, List.mem_of_getElem? (i := 646) (by decide +kernel), List.mem_of_getElem? (i := 828) (by decide +kernel), List.mem_of_getElem? (i := 829) (by decide +kernel)⟩
theorem lw_p33 : lw_okq (⟨"SparseChecksModel", "best", "()I"⟩, 26) := ⟨⟨by decide +kernel, by decide +kernel⟩, List.mem_of_getElem? (i := 646) (by decide +kernel), List.mem_of_getElem? (i := 832) (by decide +kernel), List.mem_of_getElem? (i := 833) (by decide +kernel)⟩
theorem lw_p34 : lw_okq (⟨"SparseChecksModel", "isBit", "(I)Z"⟩, 26) := ⟨⟨by decide +kernel, by decide +kernel⟩, List.mem_of_getElem? (i := 646) (by decide +kernel), List.mem_of_getElem? (i := 840) (by decide +kernel), List.mem_of_getElem? (i := 841) (by decide +kernel)⟩
theorem lw_p35 : lw_okq (⟨"SparseChecksModel", "checksOver", "([II)I"⟩, 26) := ⟨⟨by decide +kernel, by decide +kernel⟩, List.mem_of_getElem? (i := 646) (by decide +kernel), List.mem_of_getElem? (i := 844) (by decide +kernel), List.mem_of_getElem? (i := 845) (by decide +kernel)⟩
theorem lw_p36 : lw_okq (⟨"SparseChecksModel", "isCheck", "(I)Z"⟩, 26) := ⟨⟨by decide +kernel, by decide +kernel⟩, List.mem_of_getElem? (i := 646) (by decide +kernel), List.mem_of_getElem? (i := 852) (by decide +kernel), List.mem_of_getElem? (i := 853) (by decide +kernel)⟩
theorem lw_p37 : lw_okq (⟨"SparseChecksModel", "note", "()V"⟩, 26) := ⟨⟨by decide +kernel, by decide +kernel⟩, List.mem_of_getElem? (i := 646) (by decide +kernel), List.mem_of_getElem? (i := 866) (by decide +kernel), List.mem_of_getElem? (i := 867) (by decide +kernel)⟩
theorem lw_p38 : lw_okq (⟨"SparseChecksModel", "isBefore", "(II)Z"⟩, 26) := ⟨⟨by decide +kernel, by decide +kernel⟩, List.mem_of_getElem? (i := 646) (by decide +kernel), List.mem_of_getElem? (i := 890) (by decide +kernel), List.mem_of_getElem? (i := 891) (by decide +kernel)⟩
theorem lw_p39 : lw_okq (⟨"SparseChecksModel", "judged", "(III)Z"⟩, 26) := ⟨⟨by decide +kernel, by decide +kernel⟩, List.mem_of_getElem? (i := 646) (by decide +kernel), List.mem_of_getElem? (i := 920) (by decide +kernel), List.mem_of_getElem? (i := 921) (by decide +kernel)⟩
theorem lw_p40 : lw_okq (⟨"SparseChecksModel", "isSoBy", "(II)Z"⟩, 26) := ⟨⟨by decide +kernel, by decide +kernel⟩, List.mem_of_getElem? (i := 646) (by decide +kernel), List.mem_of_getElem? (i := 938) (by decide +kernel), List.mem_of_getElem? (i := 939) (by decide +kernel)⟩
def lw_privs_3 : List (MethodName × Nat) := [(⟨"SparseChecksModel", "ends", "()I"⟩, 26), (⟨"SparseChecksModel", "best", "()I"⟩, 26), (⟨"SparseChecksModel", "isBit", "(I)Z"⟩, 26), (⟨"SparseChecksModel", "checksOver", "([II)I"⟩, 26), (⟨"SparseChecksModel", "isCheck", "(I)Z"⟩, 26), (⟨"SparseChecksModel", "note", "()V"⟩, 26), (⟨"SparseChecksModel", "isBefore", "(II)Z"⟩, 26), (⟨"SparseChecksModel", "judged", "(III)Z"⟩, 26), (⟨"SparseChecksModel", "isSoBy", "(II)Z"⟩, 26)]
theorem lw_r3 : ∀ q ∈ lw_privs_3, lw_okq q := List.forall_mem_cons.mpr ⟨lw_p32, List.forall_mem_cons.mpr ⟨lw_p33, List.forall_mem_cons.mpr ⟨lw_p34, List.forall_mem_cons.mpr ⟨lw_p35, List.forall_mem_cons.mpr ⟨lw_p36, List.forall_mem_cons.mpr ⟨lw_p37, List.forall_mem_cons.mpr ⟨lw_p38, List.forall_mem_cons.mpr ⟨lw_p39, List.forall_mem_cons.mpr ⟨lw_p40, fun _ h => absurd h List.not_mem_nil⟩⟩⟩⟩⟩⟩⟩⟩⟩
def lw_privs : List (MethodName × Nat) := lw_privs_1 ++ (lw_privs_2 ++ (lw_privs_3))
def lw_tbl : List Cond := k2_sels lw_privs ++ tables_1
theorem lw_privs_ok : ∀ q ∈ lw_privs, lw_okq q := by
  show ∀ q ∈ lw_privs_1 ++ (lw_privs_2 ++ (lw_privs_3)), lw_okq q
  exact List.forall_mem_append.mpr ⟨lw_r1, List.forall_mem_append.mpr ⟨lw_r2, lw_r3⟩⟩

/-! ===== BEGIN printed: names, fields, word lists, decode rows ===== -/
def RX0 : String := "SparseChecks$Acts"
def TX0 : u_T := fun k => match k with
  | 0 => ("SparseChecks$Acts", "ahead", "[LSparseChecks$State;", true)
  | 1 => ("SparseChecks$Acts", "first", "I", false)
  | _ => ("SparseChecks$Acts", "count", "I", false)
def tyX0 : Nat → FieldType := fun k => match k with
  | 0 => .array (.object "SparseChecks$State")
  | 1 => .int
  | _ => .int
abbrev wsX00 : List Cond := u_ws RX0 TX0 3
theorem nmX0 : ∀ a, a < 3 → ∀ b, b < 3 → a ≠ b → (TX0 a).2.1 ≠ (TX0 b).2.1 := by decide +kernel
theorem tyX0_ok : ∀ k, k < 3 → parseFieldDescriptor (TX0 k).2.2.1 = some (tyX0 k) := by decide +kernel
abbrev cX0_init : ByteArray := prog_2_method_1_code
def yX0_init : MethodName := ⟨RX0, "<init>", "()V"⟩
abbrev cX0_remember : ByteArray := prog_2_method_2_code
def yX0_remember : MethodName := ⟨RX0, "remember", "(LSparseChecks$State;)V"⟩
abbrev cX0_giveBackLast : ByteArray := prog_2_method_3_code
def yX0_giveBackLast : MethodName := ⟨RX0, "giveBackLast", "(LSparseChecks$State;)V"⟩
abbrev cX0_forgetAll : ByteArray := prog_2_method_4_code
def yX0_forgetAll : MethodName := ⟨RX0, "forgetAll", "()V"⟩
def RX1 : String := "SparseChecks$Decoder"
def TX1 : u_T := fun k => match k with
  | 0 => ("SparseChecks$Decoder", "order", "[I", true)
  | 1 => ("SparseChecks$Decoder", "q", "[I", true)
  | 2 => ("SparseChecks$Decoder", "least", "I", false)
  | 3 => ("SparseChecks$Decoder", "second", "I", false)
  | _ => ("SparseChecks$Decoder", "leastBit", "I", false)
def tyX1 : Nat → FieldType := fun k => match k with
  | 0 => .array .int
  | 1 => .array .int
  | 2 => .int
  | 3 => .int
  | _ => .int
abbrev wsX10 : List Cond := u_ws RX1 TX1 5
theorem nmX1 : ∀ a, a < 5 → ∀ b, b < 5 → a ≠ b → (TX1 a).2.1 ≠ (TX1 b).2.1 := by decide +kernel
theorem tyX1_ok : ∀ k, k < 5 → parseFieldDescriptor (TX1 k).2.2.1 = some (tyX1 k) := by decide +kernel
abbrev cX1_init : ByteArray := prog_3_method_1_code
def yX1_init : MethodName := ⟨RX1, "<init>", "()V"⟩
abbrev cX1_orderAsNumbered : ByteArray := prog_3_method_2_code
def yX1_orderAsNumbered : MethodName := ⟨RX1, "orderAsNumbered", "()V"⟩
abbrev cX1_orderBy : ByteArray := prog_3_method_3_code
def yX1_orderBy : MethodName := ⟨RX1, "orderBy", "(II)Z"⟩
abbrev cX1_runRounds : ByteArray := prog_3_method_4_code
def yX1_runRounds : MethodName := ⟨RX1, "runRounds", "(LSparseChecks$State;I)V"⟩
abbrev cX1_runUntilSolved : ByteArray := prog_3_method_5_code
def yX1_runUntilSolved : MethodName := ⟨RX1, "runUntilSolved", "(LSparseChecks$State;)I"⟩
abbrev cX1_runRound : ByteArray := prog_3_method_6_code
def yX1_runRound : MethodName := ⟨RX1, "runRound", "(LSparseChecks$State;)Z"⟩
abbrev cX1_findOthers : ByteArray := prog_3_method_7_code
def yX1_findOthers : MethodName := ⟨RX1, "findOthers", "(LSparseChecks$State;II)I"⟩
abbrev cX1_sendMessages : ByteArray := prog_3_method_8_code
def yX1_sendMessages : MethodName := ⟨RX1, "sendMessages", "(LSparseChecks$State;III)Z"⟩
def RX2 : String := "SparseChecks$Doings"
def TX2 : u_T := fun k => match k with
  | _ => ("", "", "", false)
def tyX2 : Nat → FieldType := fun k => match k with
  | _ => .int
abbrev wsX20 : List Cond := u_ws RX2 TX2 0
theorem nmX2 : ∀ a, a < 0 → ∀ b, b < 0 → a ≠ b → (TX2 a).2.1 ≠ (TX2 b).2.1 := by decide +kernel
theorem tyX2_ok : ∀ k, k < 0 → parseFieldDescriptor (TX2 k).2.2.1 = some (tyX2 k) := by decide +kernel
abbrev cX2_withoutLast : ByteArray := prog_4_method_2_code
def yX2_withoutLast : MethodName := ⟨RX2, "withoutLast", "(JI)J"⟩
abbrev cX2_goesThrough : ByteArray := prog_4_method_3_code
def yX2_goesThrough : MethodName := ⟨RX2, "goesThrough", "(ILSparseChecks$State;LSparseChecks$Decoder;)Z"⟩
abbrev cX2_runs : ByteArray := prog_4_method_4_code
def yX2_runs : MethodName := ⟨RX2, "runs", "(ILSparseChecks$State;LSparseChecks$Decoder;)Z"⟩
abbrev cX2_begins : ByteArray := prog_4_method_5_code
def yX2_begins : MethodName := ⟨RX2, "begins", "(LSparseChecks$State;)Z"⟩
abbrev cX2_puts : ByteArray := prog_4_method_6_code
def yX2_puts : MethodName := ⟨RX2, "puts", "(IILSparseChecks$State;)Z"⟩
abbrev cX2_offsets : ByteArray := prog_4_method_7_code
def yX2_offsets : MethodName := ⟨RX2, "offsets", "(ILSparseChecks$State;)Z"⟩
def RX3 : String := "SparseChecks$Reading"
def TX3 : u_T := fun k => match k with
  | 0 => ("SparseChecks$Reading", "over", "[I", true)
  | 1 => ("SparseChecks$Reading", "place", "I", false)
  | 2 => ("SparseChecks$Reading", "bits", "I", false)
  | 3 => ("SparseChecks$Reading", "offset", "I", false)
  | 4 => ("SparseChecks$Reading", "checks", "I", false)
  | 5 => ("SparseChecks$Reading", "leastNextBit", "I", false)
  | _ => ("SparseChecks$Reading", "insideCheck", "Z", false)
def tyX3 : Nat → FieldType := fun k => match k with
  | 0 => .array .int
  | 1 => .int
  | 2 => .int
  | 3 => .int
  | 4 => .int
  | 5 => .int
  | _ => .boolean
abbrev wsX30 : List Cond := u_ws RX3 TX3 7
theorem nmX3 : ∀ a, a < 7 → ∀ b, b < 7 → a ≠ b → (TX3 a).2.1 ≠ (TX3 b).2.1 := by decide +kernel
theorem tyX3_ok : ∀ k, k < 7 → parseFieldDescriptor (TX3 k).2.2.1 = some (tyX3 k) := by decide +kernel
abbrev cX3_init : ByteArray := prog_5_method_1_code
def yX3_init : MethodName := ⟨RX3, "<init>", "()V"⟩
abbrev cX3_startAnew : ByteArray := prog_5_method_2_code
def yX3_startAnew : MethodName := ⟨RX3, "startAnew", "()V"⟩
abbrev cX3_takes : ByteArray := prog_5_method_3_code
def yX3_takes : MethodName := ⟨RX3, "takes", "(I)Z"⟩
abbrev cX3_mayEnd : ByteArray := prog_5_method_4_code
def yX3_mayEnd : MethodName := ⟨RX3, "mayEnd", "()Z"⟩
abbrev cX3_takesBits : ByteArray := prog_5_method_5_code
def yX3_takesBits : MethodName := ⟨RX3, "takesBits", "(I)Z"⟩
abbrev cX3_takesOffset : ByteArray := prog_5_method_6_code
def yX3_takesOffset : MethodName := ⟨RX3, "takesOffset", "(I)Z"⟩
abbrev cX3_takesCheck : ByteArray := prog_5_method_7_code
def yX3_takesCheck : MethodName := ⟨RX3, "takesCheck", "(I)Z"⟩
abbrev cX3_takesInCheck : ByteArray := prog_5_method_8_code
def yX3_takesInCheck : MethodName := ⟨RX3, "takesInCheck", "(I)Z"⟩
def RX4 : String := "SparseChecks$Seen"
def TX4 : u_T := fun k => match k with
  | 0 => ("SparseChecks$Seen", "rounds", "[I", true)
  | 1 => ("SparseChecks$Seen", "open", "[I", true)
  | _ => ("SparseChecks$Seen", "count", "I", false)
def tyX4 : Nat → FieldType := fun k => match k with
  | 0 => .array .int
  | 1 => .array .int
  | _ => .int
abbrev wsX40 : List Cond := u_ws RX4 TX4 3
theorem nmX4 : ∀ a, a < 3 → ∀ b, b < 3 → a ≠ b → (TX4 a).2.1 ≠ (TX4 b).2.1 := by decide +kernel
theorem tyX4_ok : ∀ k, k < 3 → parseFieldDescriptor (TX4 k).2.2.1 = some (tyX4 k) := by decide +kernel
abbrev cX4_init : ByteArray := prog_6_method_1_code
def yX4_init : MethodName := ⟨RX4, "<init>", "()V"⟩
abbrev cX4_add : ByteArray := prog_6_method_2_code
def yX4_add : MethodName := ⟨RX4, "add", "(II)I"⟩
abbrev cX4_isSoBy : ByteArray := prog_6_method_3_code
def yX4_isSoBy : MethodName := ⟨RX4, "isSoBy", "(LSparseChecks$State;LSparseChecks$Decoder;)Z"⟩
abbrev cX4_mostRounds : ByteArray := prog_6_method_4_code
def yX4_mostRounds : MethodName := ⟨RX4, "mostRounds", "()I"⟩
abbrev cX4_isSoBehind : ByteArray := prog_6_method_5_code
def yX4_isSoBehind : MethodName := ⟨RX4, "isSoBehind", "(II)Z"⟩
def RX5 : String := "SparseChecks$State"
def TX5 : u_T := fun k => match k with
  | 0 => ("SparseChecks$State", "over", "[I", true)
  | 1 => ("SparseChecks$State", "level", "[I", true)
  | 2 => ("SparseChecks$State", "total", "[I", true)
  | 3 => ("SparseChecks$State", "message", "[I", true)
  | 4 => ("SparseChecks$State", "bits", "I", false)
  | 5 => ("SparseChecks$State", "checks", "I", false)
  | 6 => ("SparseChecks$State", "offset", "I", false)
  | _ => ("SparseChecks$State", "rounds", "I", false)
def tyX5 : Nat → FieldType := fun k => match k with
  | 0 => .array .int
  | 1 => .array .int
  | 2 => .array .int
  | 3 => .array .int
  | 4 => .int
  | 5 => .int
  | 6 => .int
  | _ => .int
abbrev wsX50 : List Cond := u_ws RX5 TX5 8
theorem nmX5 : ∀ a, a < 8 → ∀ b, b < 8 → a ≠ b → (TX5 a).2.1 ≠ (TX5 b).2.1 := by decide +kernel
theorem tyX5_ok : ∀ k, k < 8 → parseFieldDescriptor (TX5 k).2.2.1 = some (tyX5 k) := by decide +kernel
abbrev cX5_init : ByteArray := prog_7_method_1_code
def yX5_init : MethodName := ⟨RX5, "<init>", "()V"⟩
abbrev cX5_becomeCode : ByteArray := prog_7_method_2_code
def yX5_becomeCode : MethodName := ⟨RX5, "becomeCode", "(LSparseChecks$Reading;)V"⟩
abbrev cX5_becomeLike : ByteArray := prog_7_method_3_code
def yX5_becomeLike : MethodName := ⟨RX5, "becomeLike", "(LSparseChecks$State;)V"⟩
abbrev cX5_beginAnew : ByteArray := prog_7_method_4_code
def yX5_beginAnew : MethodName := ⟨RX5, "beginAnew", "()V"⟩
abbrev cX5_hasBit : ByteArray := prog_7_method_5_code
def yX5_hasBit : MethodName := ⟨RX5, "hasBit", "(I)Z"⟩
abbrev cX5_hasCheck : ByteArray := prog_7_method_6_code
def yX5_hasCheck : MethodName := ⟨RX5, "hasCheck", "(I)Z"⟩
abbrev cX5_allChecks : ByteArray := prog_7_method_7_code
def yX5_allChecks : MethodName := ⟨RX5, "allChecks", "()I"⟩
abbrev cX5_isOver : ByteArray := prog_7_method_8_code
def yX5_isOver : MethodName := ⟨RX5, "isOver", "(II)Z"⟩
abbrev cX5_turnOver : ByteArray := prog_7_method_9_code
def yX5_turnOver : MethodName := ⟨RX5, "turnOver", "(II)V"⟩
abbrev cX5_checksOver : ByteArray := prog_7_method_10_code
def yX5_checksOver : MethodName := ⟨RX5, "checksOver", "(I)I"⟩
abbrev cX5_word : ByteArray := prog_7_method_11_code
def yX5_word : MethodName := ⟨RX5, "word", "()I"⟩
abbrev cX5_open : ByteArray := prog_7_method_12_code
def yX5_open : MethodName := ⟨RX5, "open", "()I"⟩
abbrev cX5_openBy : ByteArray := prog_7_method_13_code
def yX5_openBy : MethodName := ⟨RX5, "openBy", "(I)I"⟩
abbrev cX5_solved : ByteArray := prog_7_method_14_code
def yX5_solved : MethodName := ⟨RX5, "solved", "()Z"⟩
def RX6 : String := "SparseChecks$Sums"
def TX6 : u_T := fun k => match k with
  | 0 => ("SparseChecks$Sums", "state", "LSparseChecks$State;", true)
  | _ => ("SparseChecks$Sums", "basis", "[I", true)
def tyX6 : Nat → FieldType := fun k => match k with
  | 0 => .object "SparseChecks$State"
  | _ => .array .int
abbrev wsX60 : List Cond := u_ws RX6 TX6 2
theorem nmX6 : ∀ a, a < 2 → ∀ b, b < 2 → a ≠ b → (TX6 a).2.1 ≠ (TX6 b).2.1 := by decide +kernel
theorem tyX6_ok : ∀ k, k < 2 → parseFieldDescriptor (TX6 k).2.2.1 = some (tyX6 k) := by decide +kernel
abbrev cX6_init : ByteArray := prog_8_method_1_code
def yX6_init : MethodName := ⟨RX6, "<init>", "(LSparseChecks$State;)V"⟩
abbrev cX6_rankOf : ByteArray := prog_8_method_2_code
def yX6_rankOf : MethodName := ⟨RX6, "rankOf", "(I)I"⟩
abbrev cX6_joinsBasis : ByteArray := prog_8_method_3_code
def yX6_joinsBasis : MethodName := ⟨RX6, "joinsBasis", "(I)Z"⟩
abbrev cX6_howManyWords : ByteArray := prog_8_method_4_code
def yX6_howManyWords : MethodName := ⟨RX6, "howManyWords", "()I"⟩
abbrev cX6_distance : ByteArray := prog_8_method_5_code
def yX6_distance : MethodName := ⟨RX6, "distance", "()I"⟩
abbrev cX6_howManyTraps : ByteArray := prog_8_method_6_code
def yX6_howManyTraps : MethodName := ⟨RX6, "howManyTraps", "(II)I"⟩
abbrev cX6_leastTrap : ByteArray := prog_8_method_7_code
def yX6_leastTrap : MethodName := ⟨RX6, "leastTrap", "(II)I"⟩
abbrev cX6_isTrap : ByteArray := prog_8_method_8_code
def yX6_isTrap : MethodName := ⟨RX6, "isTrap", "(III)Z"⟩
abbrev cX6_ordersInWhichRankGrows : ByteArray := prog_8_method_9_code
def yX6_ordersInWhichRankGrows : MethodName := ⟨RX6, "ordersInWhichRankGrows", "(I)I"⟩
def RX7 : String := "SparseChecks$Text"
def TX7 : u_T := fun k => match k with
  | 0 => ("SparseChecks$Text", "letters", "[I", true)
  | 1 => ("SparseChecks$Text", "reading", "LSparseChecks$Reading;", true)
  | _ => ("SparseChecks$Text", "length", "I", false)
def tyX7 : Nat → FieldType := fun k => match k with
  | 0 => .array .int
  | 1 => .object "SparseChecks$Reading"
  | _ => .int
abbrev wsX70 : List Cond := u_ws RX7 TX7 3
theorem nmX7 : ∀ a, a < 3 → ∀ b, b < 3 → a ≠ b → (TX7 a).2.1 ≠ (TX7 b).2.1 := by decide +kernel
theorem tyX7_ok : ∀ k, k < 3 → parseFieldDescriptor (TX7 k).2.2.1 = some (tyX7 k) := by decide +kernel
abbrev cX7_init : ByteArray := prog_9_method_1_code
def yX7_init : MethodName := ⟨RX7, "<init>", "()V"⟩
abbrev cX7_append : ByteArray := prog_9_method_2_code
def yX7_append : MethodName := ⟨RX7, "append", "(I)I"⟩
abbrev cX7_firstFault : ByteArray := prog_9_method_3_code
def yX7_firstFault : MethodName := ⟨RX7, "firstFault", "()I"⟩
def RX8 : String := "SparseChecks$Ways"
def TX8 : u_T := fun k => match k with
  | _ => ("SparseChecks$Ways", "state", "LSparseChecks$State;", true)
def tyX8 : Nat → FieldType := fun k => match k with
  | _ => .object "SparseChecks$State"
abbrev wsX80 : List Cond := u_ws RX8 TX8 1
theorem nmX8 : ∀ a, a < 1 → ∀ b, b < 1 → a ≠ b → (TX8 a).2.1 ≠ (TX8 b).2.1 := by decide +kernel
theorem tyX8_ok : ∀ k, k < 1 → parseFieldDescriptor (TX8 k).2.2.1 = some (tyX8 k) := by decide +kernel
abbrev cX8_init : ByteArray := prog_10_method_1_code
def yX8_init : MethodName := ⟨RX8, "<init>", "(LSparseChecks$State;)V"⟩
abbrev cX8_ring : ByteArray := prog_10_method_2_code
def yX8_ring : MethodName := ⟨RX8, "ring", "()I"⟩
abbrev cX8_ringOver : ByteArray := prog_10_method_3_code
def yX8_ringOver : MethodName := ⟨RX8, "ringOver", "(II)I"⟩
abbrev cX8_checkToGrowInto : ByteArray := prog_10_method_4_code
def yX8_checkToGrowInto : MethodName := ⟨RX8, "checkToGrowInto", "(I)I"⟩
abbrev cX8_farthestChecks : ByteArray := prog_10_method_5_code
def yX8_farthestChecks : MethodName := ⟨RX8, "farthestChecks", "(I)I"⟩
abbrev cX8_bitsUnder : ByteArray := prog_10_method_6_code
def yX8_bitsUnder : MethodName := ⟨RX8, "bitsUnder", "(I)I"⟩
abbrev cX8_checksOverAny : ByteArray := prog_10_method_7_code
def yX8_checksOverAny : MethodName := ⟨RX8, "checksOverAny", "(I)I"⟩
def RX9 : String := "SparseChecks"
def TX9 : u_T := fun k => match k with
  | 0 => ("SparseChecks", "text", "LSparseChecks$Text;", true)
  | 1 => ("SparseChecks", "now", "LSparseChecks$State;", true)
  | 2 => ("SparseChecks", "trial", "LSparseChecks$State;", true)
  | 3 => ("SparseChecks", "decoder", "LSparseChecks$Decoder;", true)
  | 4 => ("SparseChecks", "ways", "LSparseChecks$Ways;", true)
  | 5 => ("SparseChecks", "sums", "LSparseChecks$Sums;", true)
  | 6 => ("SparseChecks", "acts", "LSparseChecks$Acts;", true)
  | 7 => ("SparseChecks", "seen", "LSparseChecks$Seen;", true)
  | 8 => ("SparseChecks", "slots", "[LSparseChecks$State;", true)
  | 9 => ("SparseChecks", "kept", "[Z", true)
  | _ => ("SparseChecks", "seedNow", "J", false)
def tyX9 : Nat → FieldType := fun k => match k with
  | 0 => .object "SparseChecks$Text"
  | 1 => .object "SparseChecks$State"
  | 2 => .object "SparseChecks$State"
  | 3 => .object "SparseChecks$Decoder"
  | 4 => .object "SparseChecks$Ways"
  | 5 => .object "SparseChecks$Sums"
  | 6 => .object "SparseChecks$Acts"
  | 7 => .object "SparseChecks$Seen"
  | 8 => .array (.object "SparseChecks$State")
  | 9 => .array .boolean
  | _ => .long
abbrev wsX90 : List Cond := u_ws RX9 TX9 11
theorem nmX9 : ∀ a, a < 11 → ∀ b, b < 11 → a ≠ b → (TX9 a).2.1 ≠ (TX9 b).2.1 := by decide +kernel
theorem tyX9_ok : ∀ k, k < 11 → parseFieldDescriptor (TX9 k).2.2.1 = some (tyX9 k) := by decide +kernel
abbrev cX9_init : ByteArray := prog_1_method_1_code
def yX9_init : MethodName := ⟨RX9, "<init>", "()V"⟩
abbrev cX9_write : ByteArray := prog_1_method_2_code
def yX9_write : MethodName := ⟨RX9, "write", "(I)I"⟩
abbrev cX9_wipe : ByteArray := prog_1_method_3_code
def yX9_wipe : MethodName := ⟨RX9, "wipe", "()I"⟩
abbrev cX9_fault : ByteArray := prog_1_method_4_code
def yX9_fault : MethodName := ⟨RX9, "fault", "()I"⟩
abbrev cX9_code : ByteArray := prog_1_method_5_code
def yX9_code : MethodName := ⟨RX9, "code", "()I"⟩
abbrev cX9_about : ByteArray := prog_1_method_6_code
def yX9_about : MethodName := ⟨RX9, "about", "(I)I"⟩
abbrev cX9_bit : ByteArray := prog_1_method_7_code
def yX9_bit : MethodName := ⟨RX9, "bit", "(II)I"⟩
abbrev cX9_check : ByteArray := prog_1_method_8_code
def yX9_check : MethodName := ⟨RX9, "check", "(I)I"⟩
abbrev cX9_message : ByteArray := prog_1_method_9_code
def yX9_message : MethodName := ⟨RX9, "message", "(II)I"⟩
abbrev cX9_level : ByteArray := prog_1_method_10_code
def yX9_level : MethodName := ⟨RX9, "level", "(II)I"⟩
abbrev cX9_begin : ByteArray := prog_1_method_11_code
def yX9_begin : MethodName := ⟨RX9, "begin", "()I"⟩
abbrev cX9_round : ByteArray := prog_1_method_12_code
def yX9_round : MethodName := ⟨RX9, "round", "(I)I"⟩
abbrev cX9_put : ByteArray := prog_1_method_13_code
def yX9_put : MethodName := ⟨RX9, "put", "(II)I"⟩
abbrev cX9_grow : ByteArray := prog_1_method_14_code
def yX9_grow : MethodName := ⟨RX9, "grow", "(II)I"⟩
abbrev cX9_offset : ByteArray := prog_1_method_15_code
def yX9_offset : MethodName := ⟨RX9, "offset", "(I)I"⟩
abbrev cX9_undo : ByteArray := prog_1_method_16_code
def yX9_undo : MethodName := ⟨RX9, "undo", "()I"⟩
abbrev cX9_traps : ByteArray := prog_1_method_17_code
def yX9_traps : MethodName := ⟨RX9, "traps", "(III)I"⟩
abbrev cX9_same : ByteArray := prog_1_method_18_code
def yX9_same : MethodName := ⟨RX9, "same", "(I)I"⟩
abbrev cX9_judge : ByteArray := prog_1_method_19_code
def yX9_judge : MethodName := ⟨RX9, "judge", "(IJ)I"⟩
abbrev cX9_see : ByteArray := prog_1_method_20_code
def yX9_see : MethodName := ⟨RX9, "see", "(II)I"⟩
abbrev cX9_unsee : ByteArray := prog_1_method_21_code
def yX9_unsee : MethodName := ⟨RX9, "unsee", "()I"⟩
abbrev cX9_which : ByteArray := prog_1_method_22_code
def yX9_which : MethodName := ⟨RX9, "which", "()I"⟩
abbrev cX9_share : ByteArray := prog_1_method_23_code
def yX9_share : MethodName := ⟨RX9, "share", "(IZ)I"⟩
abbrev cX9_chance : ByteArray := prog_1_method_24_code
def yX9_chance : MethodName := ⟨RX9, "chance", "(IIZ)I"⟩
abbrev cX9_seed : ByteArray := prog_1_method_25_code
def yX9_seed : MethodName := ⟨RX9, "seed", "(J)J"⟩
abbrev cX9_drawn : ByteArray := prog_1_method_26_code
def yX9_drawn : MethodName := ⟨RX9, "drawn", "(I)I"⟩
abbrev cX9_keep : ByteArray := prog_1_method_27_code
def yX9_keep : MethodName := ⟨RX9, "keep", "(I)I"⟩
abbrev cX9_again : ByteArray := prog_1_method_28_code
def yX9_again : MethodName := ⟨RX9, "again", "(I)I"⟩
abbrev cX9_needs : ByteArray := prog_1_method_29_code
def yX9_needs : MethodName := ⟨RX9, "needs", "()I"⟩
abbrev cX9_ends : ByteArray := prog_1_method_30_code
def yX9_ends : MethodName := ⟨RX9, "ends", "()I"⟩
abbrev cX9_best : ByteArray := prog_1_method_31_code
def yX9_best : MethodName := ⟨RX9, "best", "()I"⟩
abbrev cX9_endsEmpty : ByteArray := prog_1_method_32_code
def yX9_endsEmpty : MethodName := ⟨RX9, "endsEmpty", "(II)Z"⟩
abbrev cX9_power : ByteArray := prog_1_method_33_code
def yX9_power : MethodName := ⟨RX9, "power", "(II)J"⟩
abbrev cX9_inLeastTerms : ByteArray := prog_1_method_34_code
def yX9_inLeastTerms : MethodName := ⟨RX9, "inLeastTerms", "(JJZ)I"⟩
abbrev cX9_commonDivisor : ByteArray := prog_1_method_35_code
def yX9_commonDivisor : MethodName := ⟨RX9, "commonDivisor", "(JJ)J"⟩
abbrev cX9_held : ByteArray := prog_1_method_36_code
def yX9_held : MethodName := ⟨RX9, "held", "(III)I"⟩
def RX10 : String := "SparseChecksModel"
def TX10 : u_T := fun k => match k with
  | 0 => ("SparseChecksModel", "text", "[I", true)
  | 1 => ("SparseChecksModel", "length", "I", false)
  | 2 => ("SparseChecksModel", "bits", "I", false)
  | 3 => ("SparseChecksModel", "checks", "I", false)
  | 4 => ("SparseChecksModel", "now", "[I", true)
  | 5 => ("SparseChecksModel", "trial", "[I", true)
  | 6 => ("SparseChecksModel", "diary", "[I", true)
  | 7 => ("SparseChecksModel", "acts", "I", false)
  | 8 => ("SparseChecksModel", "next", "I", false)
  | 9 => ("SparseChecksModel", "kept", "[I", true)
  | 10 => ("SparseChecksModel", "isKept", "[Z", true)
  | 11 => ("SparseChecksModel", "seenBehind", "[I", true)
  | 12 => ("SparseChecksModel", "seenOpen", "[I", true)
  | 13 => ("SparseChecksModel", "seen", "I", false)
  | 14 => ("SparseChecksModel", "seed", "J", false)
  | 15 => ("SparseChecksModel", "order", "[I", true)
  | 16 => ("SparseChecksModel", "asked", "[I", true)
  | 17 => ("SparseChecksModel", "basis", "[I", true)
  | 18 => ("SparseChecksModel", "worth", "[I", true)
  | 19 => ("SparseChecksModel", "way", "[I", true)
  | 20 => ("SparseChecksModel", "readBits", "I", false)
  | 21 => ("SparseChecksModel", "readOffset", "I", false)
  | 22 => ("SparseChecksModel", "readChecks", "I", false)
  | 23 => ("SparseChecksModel", "readOver", "[I", true)
  | 24 => ("SparseChecksModel", "part", "I", false)
  | _ => ("SparseChecksModel", "lastBit", "I", false)
def tyX10 : Nat → FieldType := fun k => match k with
  | 0 => .array .int
  | 1 => .int
  | 2 => .int
  | 3 => .int
  | 4 => .array .int
  | 5 => .array .int
  | 6 => .array .int
  | 7 => .int
  | 8 => .int
  | 9 => .array .int
  | 10 => .array .boolean
  | 11 => .array .int
  | 12 => .array .int
  | 13 => .int
  | 14 => .long
  | 15 => .array .int
  | 16 => .array .int
  | 17 => .array .int
  | 18 => .array .int
  | 19 => .array .int
  | 20 => .int
  | 21 => .int
  | 22 => .int
  | 23 => .array .int
  | 24 => .int
  | _ => .int
abbrev wsX100 : List Cond := u_ws RX10 TX10 26
theorem nmX10 : ∀ a, a < 26 → ∀ b, b < 26 → a ≠ b → (TX10 a).2.1 ≠ (TX10 b).2.1 := by decide +kernel
theorem tyX10_ok : ∀ k, k < 26 → parseFieldDescriptor (TX10 k).2.2.1 = some (tyX10 k) := by decide +kernel
abbrev cX10_init : ByteArray := prog_12_method_1_code
def yX10_init : MethodName := ⟨RX10, "<init>", "()V"⟩
abbrev cX10_copy : ByteArray := prog_12_method_3_code
def yX10_copy : MethodName := ⟨RX10, "copy", "([I[I)V"⟩
abbrev cX10_in : ByteArray := prog_12_method_4_code
def yX10_in : MethodName := ⟨RX10, "in", "(JJJ)Z"⟩
abbrev cX10_has : ByteArray := prog_12_method_5_code
def yX10_has : MethodName := ⟨RX10, "has", "(II)Z"⟩
abbrev cX10_ones : ByteArray := prog_12_method_6_code
def yX10_ones : MethodName := ⟨RX10, "ones", "(I)I"⟩
abbrev cX10_held : ByteArray := prog_12_method_7_code
def yX10_held : MethodName := ⟨RX10, "held", "(III)I"⟩
abbrev cX10_power : ByteArray := prog_12_method_8_code
def yX10_power : MethodName := ⟨RX10, "power", "(II)I"⟩
abbrev cX10_factorial : ByteArray := prog_12_method_9_code
def yX10_factorial : MethodName := ⟨RX10, "factorial", "(I)I"⟩
abbrev cX10_fraction : ByteArray := prog_12_method_10_code
def yX10_fraction : MethodName := ⟨RX10, "fraction", "(IIZ)I"⟩
abbrev cX10_isBit : ByteArray := prog_12_method_11_code
def yX10_isBit : MethodName := ⟨RX10, "isBit", "(I)Z"⟩
abbrev cX10_isCheck : ByteArray := prog_12_method_12_code
def yX10_isCheck : MethodName := ⟨RX10, "isCheck", "(I)Z"⟩
abbrev cX10_layOrder : ByteArray := prog_12_method_13_code
def yX10_layOrder : MethodName := ⟨RX10, "layOrder", "()V"⟩
abbrev cX10_write : ByteArray := prog_12_method_14_code
def yX10_write : MethodName := ⟨RX10, "write", "(I)I"⟩
abbrev cX10_wipe : ByteArray := prog_12_method_15_code
def yX10_wipe : MethodName := ⟨RX10, "wipe", "()I"⟩
abbrev cX10_take : ByteArray := prog_12_method_16_code
def yX10_take : MethodName := ⟨RX10, "take", "(I)Z"⟩
abbrev cX10_readText : ByteArray := prog_12_method_17_code
def yX10_readText : MethodName := ⟨RX10, "readText", "()I"⟩
abbrev cX10_fault : ByteArray := prog_12_method_18_code
def yX10_fault : MethodName := ⟨RX10, "fault", "()I"⟩
abbrev cX10_code : ByteArray := prog_12_method_19_code
def yX10_code : MethodName := ⟨RX10, "code", "()I"⟩
abbrev cX10_goCheck : ByteArray := prog_12_method_20_code
def yX10_goCheck : MethodName := ⟨RX10, "goCheck", "([II)V"⟩
abbrev cX10_goOn : ByteArray := prog_12_method_21_code
def yX10_goOn : MethodName := ⟨RX10, "goOn", "([I)V"⟩
abbrev cX10_beginOn : ByteArray := prog_12_method_22_code
def yX10_beginOn : MethodName := ⟨RX10, "beginOn", "([I)V"⟩
abbrev cX10_wordOf : ByteArray := prog_12_method_23_code
def yX10_wordOf : MethodName := ⟨RX10, "wordOf", "([I)I"⟩
abbrev cX10_openBy : ByteArray := prog_12_method_24_code
def yX10_openBy : MethodName := ⟨RX10, "openBy", "([II)I"⟩
abbrev cX10_openOf : ByteArray := prog_12_method_25_code
def yX10_openOf : MethodName := ⟨RX10, "openOf", "([I)I"⟩
abbrev cX10_solve : ByteArray := prog_12_method_26_code
def yX10_solve : MethodName := ⟨RX10, "solve", "()I"⟩
abbrev cX10_needs : ByteArray := prog_12_method_27_code
def yX10_needs : MethodName := ⟨RX10, "needs", "()I"⟩
abbrev cX10_ends : ByteArray := prog_12_method_28_code
def yX10_ends : MethodName := ⟨RX10, "ends", "()I"⟩
abbrev cX10_best : ByteArray := prog_12_method_29_code
def yX10_best : MethodName := ⟨RX10, "best", "()I"⟩
abbrev cX10_layWays : ByteArray := prog_12_method_30_code
def yX10_layWays : MethodName := ⟨RX10, "layWays", "([IIII)V"⟩
abbrev cX10_ring : ByteArray := prog_12_method_31_code
def yX10_ring : MethodName := ⟨RX10, "ring", "()I"⟩
abbrev cX10_rankBy : ByteArray := prog_12_method_32_code
def yX10_rankBy : MethodName := ⟨RX10, "rankBy", "(I)I"⟩
abbrev cX10_distance : ByteArray := prog_12_method_33_code
def yX10_distance : MethodName := ⟨RX10, "distance", "()I"⟩
abbrev cX10_about : ByteArray := prog_12_method_34_code
def yX10_about : MethodName := ⟨RX10, "about", "(I)I"⟩
abbrev cX10_checksOver : ByteArray := prog_12_method_35_code
def yX10_checksOver : MethodName := ⟨RX10, "checksOver", "([II)I"⟩
abbrev cX10_bit : ByteArray := prog_12_method_36_code
def yX10_bit : MethodName := ⟨RX10, "bit", "(II)I"⟩
abbrev cX10_check : ByteArray := prog_12_method_37_code
def yX10_check : MethodName := ⟨RX10, "check", "(I)I"⟩
abbrev cX10_message : ByteArray := prog_12_method_38_code
def yX10_message : MethodName := ⟨RX10, "message", "(II)I"⟩
abbrev cX10_note : ByteArray := prog_12_method_39_code
def yX10_note : MethodName := ⟨RX10, "note", "()V"⟩
abbrev cX10_level : ByteArray := prog_12_method_40_code
def yX10_level : MethodName := ⟨RX10, "level", "(II)I"⟩
abbrev cX10_begin : ByteArray := prog_12_method_41_code
def yX10_begin : MethodName := ⟨RX10, "begin", "()I"⟩
abbrev cX10_round : ByteArray := prog_12_method_42_code
def yX10_round : MethodName := ⟨RX10, "round", "(I)I"⟩
abbrev cX10_putOn : ByteArray := prog_12_method_43_code
def yX10_putOn : MethodName := ⟨RX10, "putOn", "([III)V"⟩
abbrev cX10_put : ByteArray := prog_12_method_44_code
def yX10_put : MethodName := ⟨RX10, "put", "(II)I"⟩
abbrev cX10_isBefore : ByteArray := prog_12_method_45_code
def yX10_isBefore : MethodName := ⟨RX10, "isBefore", "(II)Z"⟩
abbrev cX10_grow : ByteArray := prog_12_method_46_code
def yX10_grow : MethodName := ⟨RX10, "grow", "(II)I"⟩
abbrev cX10_offset : ByteArray := prog_12_method_47_code
def yX10_offset : MethodName := ⟨RX10, "offset", "(I)I"⟩
abbrev cX10_undo : ByteArray := prog_12_method_48_code
def yX10_undo : MethodName := ⟨RX10, "undo", "()I"⟩
abbrev cX10_traps : ByteArray := prog_12_method_49_code
def yX10_traps : MethodName := ⟨RX10, "traps", "(III)I"⟩
abbrev cX10_same : ByteArray := prog_12_method_50_code
def yX10_same : MethodName := ⟨RX10, "same", "(I)I"⟩
abbrev cX10_judged : ByteArray := prog_12_method_51_code
def yX10_judged : MethodName := ⟨RX10, "judged", "(III)Z"⟩
abbrev cX10_thousands : ByteArray := prog_12_method_52_code
def yX10_thousands : MethodName := ⟨RX10, "thousands", "(I)J"⟩
abbrev cX10_judge : ByteArray := prog_12_method_53_code
def yX10_judge : MethodName := ⟨RX10, "judge", "(IJ)I"⟩
abbrev cX10_see : ByteArray := prog_12_method_54_code
def yX10_see : MethodName := ⟨RX10, "see", "(II)I"⟩
abbrev cX10_unsee : ByteArray := prog_12_method_55_code
def yX10_unsee : MethodName := ⟨RX10, "unsee", "()I"⟩
abbrev cX10_isSoBy : ByteArray := prog_12_method_56_code
def yX10_isSoBy : MethodName := ⟨RX10, "isSoBy", "(II)Z"⟩
abbrev cX10_which : ByteArray := prog_12_method_57_code
def yX10_which : MethodName := ⟨RX10, "which", "()I"⟩
abbrev cX10_share : ByteArray := prog_12_method_58_code
def yX10_share : MethodName := ⟨RX10, "share", "(IZ)I"⟩
abbrev cX10_chance : ByteArray := prog_12_method_59_code
def yX10_chance : MethodName := ⟨RX10, "chance", "(IIZ)I"⟩
abbrev cX10_seed : ByteArray := prog_12_method_60_code
def yX10_seed : MethodName := ⟨RX10, "seed", "(J)J"⟩
abbrev cX10_drawn : ByteArray := prog_12_method_61_code
def yX10_drawn : MethodName := ⟨RX10, "drawn", "(I)I"⟩
abbrev cX10_keep : ByteArray := prog_12_method_62_code
def yX10_keep : MethodName := ⟨RX10, "keep", "(I)I"⟩
abbrev cX10_again : ByteArray := prog_12_method_63_code
def yX10_again : MethodName := ⟨RX10, "again", "(I)I"⟩
def RJ6 : String := "java/lang/Integer"
def TJ6 : u_T := fun k => match k with
  | _ => ("", "", "", false)
def tyJ6 : Nat → FieldType := fun k => match k with
  | _ => .int
abbrev wsJ60 : List Cond := u_ws RJ6 TJ6 0
theorem nmJ6 : ∀ a, a < 0 → ∀ b, b < 0 → a ≠ b → (TJ6 a).2.1 ≠ (TJ6 b).2.1 := by decide +kernel
theorem tyJ6_ok : ∀ k, k < 0 → parseFieldDescriptor (TJ6 k).2.2.1 = some (tyJ6 k) := by decide +kernel
abbrev cJ6_bitCount_0f7a4 : ByteArray := prog_13_method_49_code
def yJ6_bitCount_0f7a4 : MethodName := ⟨RJ6, "bitCount", "(I)I"⟩
def RJ9 : String := "java/lang/Math"
def TJ9 : u_T := fun k => match k with
  | _ => ("", "", "", false)
def tyJ9 : Nat → FieldType := fun k => match k with
  | _ => .int
abbrev wsJ90 : List Cond := u_ws RJ9 TJ9 0
theorem nmJ9 : ∀ a, a < 0 → ∀ b, b < 0 → a ≠ b → (TJ9 a).2.1 ≠ (TJ9 b).2.1 := by decide +kernel
theorem tyJ9_ok : ∀ k, k < 0 → parseFieldDescriptor (TJ9 k).2.2.1 = some (tyJ9 k) := by decide +kernel
abbrev cJ9_max_7cf53 : ByteArray := prog_14_method_65_code
def yJ9_max_7cf53 : MethodName := ⟨RJ9, "max", "(II)I"⟩
def RJ10 : String := "java/lang/System"
def TJ10 : u_T := fun k => match k with
  | _ => ("", "", "", false)
def tyJ10 : Nat → FieldType := fun k => match k with
  | _ => .int
abbrev wsJ100 : List Cond := u_ws RJ10 TJ10 0
theorem nmJ10 : ∀ a, a < 0 → ∀ b, b < 0 → a ≠ b → (TJ10 a).2.1 ≠ (TJ10 b).2.1 := by decide +kernel
theorem tyJ10_ok : ∀ k, k < 0 → parseFieldDescriptor (TJ10 k).2.2.1 = some (tyJ10 k) := by decide +kernel
def RL : String := "SparseChecksLaw"
abbrev cL_law : ByteArray := code
def yL_law : MethodName := ⟨RL, "law", "([I)Z"⟩
