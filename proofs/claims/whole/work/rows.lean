section
-- ===== PART A: goes FIRST, ahead of the names: the tables' words, and 'selects' of the private methods out of them =====
/-- a private method of a class that the tables say can be made, by its rows of tables_1 -/
def lw_okq (q : MethodName × Nat) : Prop := (q.1.cls ≠ "java/lang/invoke/MethodHandle" ∧ q.1.cls ≠ "java/lang/invoke/VarHandle") ∧ Cond.instantiable q.1.cls q.2 ∈ tables_1 ∧ Cond.privateMethod q.1 ∈ tables_1 ∧ Cond.instanceMethod q.1 ∈ tables_1
theorem lw_p0 : lw_okq (⟨"SparseChecks$Reading", "takesBits", "(I)Z"⟩, 7) := ⟨⟨by decide +kernel, by decide +kernel⟩, List.mem_of_getElem? (i := 30) (by decide +kernel), List.mem_of_getElem? (i := 277) (by decide +kernel), List.mem_of_getElem? (i := 278) (by decide +kernel)⟩
theorem lw_p1 : lw_okq (⟨"SparseChecks$Reading", "takesOffset", "(I)Z"⟩, 7) := ⟨⟨by decide +kernel, by decide +kernel⟩, List.mem_of_getElem? (i := 30) (by decide +kernel), List.mem_of_getElem? (i := 281) (by decide +kernel), List.mem_of_getElem? (i := 282) (by decide +kernel)⟩
theorem lw_p2 : lw_okq (⟨"SparseChecks$Reading", "takesInCheck", "(I)Z"⟩, 7) := ⟨⟨by decide +kernel, by decide +kernel⟩, List.mem_of_getElem? (i := 30) (by decide +kernel), List.mem_of_getElem? (i := 285) (by decide +kernel), List.mem_of_getElem? (i := 286) (by decide +kernel)⟩
theorem lw_p3 : lw_okq (⟨"SparseChecks$Reading", "takesCheck", "(I)Z"⟩, 7) := ⟨⟨by decide +kernel, by decide +kernel⟩, List.mem_of_getElem? (i := 30) (by decide +kernel), List.mem_of_getElem? (i := 289) (by decide +kernel), List.mem_of_getElem? (i := 290) (by decide +kernel)⟩
theorem lw_p4 : lw_okq (⟨"SparseChecks$Ways", "ringOver", "(II)I"⟩, 1) := ⟨⟨by decide +kernel, by decide +kernel⟩, List.mem_of_getElem? (i := 154) (by decide +kernel), List.mem_of_getElem? (i := 359) (by decide +kernel), List.mem_of_getElem? (i := 360) (by decide +kernel)⟩
theorem lw_p5 : lw_okq (⟨"SparseChecks$Ways", "bitsUnder", "(I)I"⟩, 1) := ⟨⟨by decide +kernel, by decide +kernel⟩, List.mem_of_getElem? (i := 154) (by decide +kernel), List.mem_of_getElem? (i := 367) (by decide +kernel), List.mem_of_getElem? (i := 368) (by decide +kernel)⟩
theorem lw_p6 : lw_okq (⟨"SparseChecks$Ways", "checksOverAny", "(I)I"⟩, 1) := ⟨⟨by decide +kernel, by decide +kernel⟩, List.mem_of_getElem? (i := 154) (by decide +kernel), List.mem_of_getElem? (i := 371) (by decide +kernel), List.mem_of_getElem? (i := 372) (by decide +kernel)⟩
theorem lw_p7 : lw_okq (⟨"SparseChecks$Sums", "joinsBasis", "(I)Z"⟩, 2) := ⟨⟨by decide +kernel, by decide +kernel⟩, List.mem_of_getElem? (i := 164) (by decide +kernel), List.mem_of_getElem? (i := 383) (by decide +kernel), List.mem_of_getElem? (i := 384) (by decide +kernel)⟩
theorem lw_p8 : lw_okq (⟨"SparseChecks", "needs", "()I"⟩, 11) := ⟨⟨by decide +kernel, by decide +kernel⟩, List.mem_of_getElem? (i := 16) (by decide +kernel), List.mem_of_getElem? (i := 399) (by decide +kernel), List.mem_of_getElem? (i := 400) (by decide +kernel)⟩
theorem lw_p9 : lw_okq (⟨"SparseChecks$Decoder", "findOthers", "(LSparseChecks$State;II)I"⟩, 5) := ⟨⟨by decide +kernel, by decide +kernel⟩, List.mem_of_getElem? (i := 128) (by decide +kernel), List.mem_of_getElem? (i := 417) (by decide +kernel), List.mem_of_getElem? (i := 418) (by decide +kernel)⟩
theorem lw_p10 : lw_okq (⟨"SparseChecks$Decoder", "sendMessages", "(LSparseChecks$State;III)Z"⟩, 5) := ⟨⟨by decide +kernel, by decide +kernel⟩, List.mem_of_getElem? (i := 128) (by decide +kernel), List.mem_of_getElem? (i := 421) (by decide +kernel), List.mem_of_getElem? (i := 422) (by decide +kernel)⟩
theorem lw_p11 : lw_okq (⟨"SparseChecks", "ends", "()I"⟩, 11) := ⟨⟨by decide +kernel, by decide +kernel⟩, List.mem_of_getElem? (i := 16) (by decide +kernel), List.mem_of_getElem? (i := 428) (by decide +kernel), List.mem_of_getElem? (i := 429) (by decide +kernel)⟩
theorem lw_p12 : lw_okq (⟨"SparseChecks", "best", "()I"⟩, 11) := ⟨⟨by decide +kernel, by decide +kernel⟩, List.mem_of_getElem? (i := 16) (by decide +kernel), List.mem_of_getElem? (i := 432) (by decide +kernel), List.mem_of_getElem? (i := 433) (by decide +kernel)⟩
theorem lw_p13 : lw_okq (⟨"SparseChecks$Ways", "farthestChecks", "(I)I"⟩, 1) := ⟨⟨by decide +kernel, by decide +kernel⟩, List.mem_of_getElem? (i := 154) (by decide +kernel), List.mem_of_getElem? (i := 491) (by decide +kernel), List.mem_of_getElem? (i := 492) (by decide +kernel)⟩
theorem lw_p14 : lw_okq (⟨"SparseChecks$Sums", "isTrap", "(III)Z"⟩, 2) := ⟨⟨by decide +kernel, by decide +kernel⟩, List.mem_of_getElem? (i := 164) (by decide +kernel), List.mem_of_getElem? (i := 517) (by decide +kernel), List.mem_of_getElem? (i := 518) (by decide +kernel)⟩
theorem lw_p15 : lw_okq (⟨"SparseChecks$Seen", "mostRounds", "()I"⟩, 3) := ⟨⟨by decide +kernel, by decide +kernel⟩, List.mem_of_getElem? (i := 197) (by decide +kernel), List.mem_of_getElem? (i := 586) (by decide +kernel), List.mem_of_getElem? (i := 587) (by decide +kernel)⟩
def lw_privs_1 : List (MethodName × Nat) := [(⟨"SparseChecks$Reading", "takesBits", "(I)Z"⟩, 7), (⟨"SparseChecks$Reading", "takesOffset", "(I)Z"⟩, 7), (⟨"SparseChecks$Reading", "takesInCheck", "(I)Z"⟩, 7), (⟨"SparseChecks$Reading", "takesCheck", "(I)Z"⟩, 7), (⟨"SparseChecks$Ways", "ringOver", "(II)I"⟩, 1), (⟨"SparseChecks$Ways", "bitsUnder", "(I)I"⟩, 1), (⟨"SparseChecks$Ways", "checksOverAny", "(I)I"⟩, 1), (⟨"SparseChecks$Sums", "joinsBasis", "(I)Z"⟩, 2), (⟨"SparseChecks", "needs", "()I"⟩, 11), (⟨"SparseChecks$Decoder", "findOthers", "(LSparseChecks$State;II)I"⟩, 5), (⟨"SparseChecks$Decoder", "sendMessages", "(LSparseChecks$State;III)Z"⟩, 5), (⟨"SparseChecks", "ends", "()I"⟩, 11), (⟨"SparseChecks", "best", "()I"⟩, 11), (⟨"SparseChecks$Ways", "farthestChecks", "(I)I"⟩, 1), (⟨"SparseChecks$Sums", "isTrap", "(III)Z"⟩, 2), (⟨"SparseChecks$Seen", "mostRounds", "()I"⟩, 3)]
theorem lw_r1 : ∀ q ∈ lw_privs_1, lw_okq q := List.forall_mem_cons.mpr ⟨lw_p0, List.forall_mem_cons.mpr ⟨lw_p1, List.forall_mem_cons.mpr ⟨lw_p2, List.forall_mem_cons.mpr ⟨lw_p3, List.forall_mem_cons.mpr ⟨lw_p4, List.forall_mem_cons.mpr ⟨lw_p5, List.forall_mem_cons.mpr ⟨lw_p6, List.forall_mem_cons.mpr ⟨lw_p7, List.forall_mem_cons.mpr ⟨lw_p8, List.forall_mem_cons.mpr ⟨lw_p9, List.forall_mem_cons.mpr ⟨lw_p10, List.forall_mem_cons.mpr ⟨lw_p11, List.forall_mem_cons.mpr ⟨lw_p12, List.forall_mem_cons.mpr ⟨lw_p13, List.forall_mem_cons.mpr ⟨lw_p14, List.forall_mem_cons.mpr ⟨lw_p15, fun _ h => absurd h List.not_mem_nil⟩⟩⟩⟩⟩⟩⟩⟩⟩⟩⟩⟩⟩⟩⟩⟩
theorem lw_p16 : lw_okq (⟨"SparseChecks$Seen", "isSoBehind", "(II)Z"⟩, 3) := ⟨⟨by decide +kernel, by decide +kernel⟩, List.mem_of_getElem? (i := 197) (by decide +kernel), List.mem_of_getElem? (i := 595) (by decide +kernel), List.mem_of_getElem? (i := 596) (by decide +kernel)⟩
theorem lw_p17 : lw_okq (⟨"SparseChecks", "endsEmpty", "(II)Z"⟩, 11) := ⟨⟨by decide +kernel, by decide +kernel⟩, List.mem_of_getElem? (i := 16) (by decide +kernel), List.mem_of_getElem? (i := 624) (by decide +kernel), List.mem_of_getElem? (i := 625) (by decide +kernel)⟩
theorem lw_p18 : lw_okq (⟨"SparseChecksModel", "layOrder", "()V"⟩, 26) := ⟨⟨by decide +kernel, by decide +kernel⟩, List.mem_of_getElem? (i := 646) (by decide +kernel), List.mem_of_getElem? (i := 652) (by decide +kernel), List.mem_of_getElem? (i := 653) (by decide +kernel)⟩
theorem lw_p19 : lw_okq (⟨"SparseChecksModel", "readText", "()I"⟩, 26) := ⟨⟨by decide +kernel, by decide +kernel⟩, List.mem_of_getElem? (i := 646) (by decide +kernel), List.mem_of_getElem? (i := 751) (by decide +kernel), List.mem_of_getElem? (i := 752) (by decide +kernel)⟩
theorem lw_p20 : lw_okq (⟨"SparseChecksModel", "take", "(I)Z"⟩, 26) := ⟨⟨by decide +kernel, by decide +kernel⟩, List.mem_of_getElem? (i := 646) (by decide +kernel), List.mem_of_getElem? (i := 755) (by decide +kernel), List.mem_of_getElem? (i := 756) (by decide +kernel)⟩
theorem lw_p21 : lw_okq (⟨"SparseChecksModel", "wordOf", "([I)I"⟩, 26) := ⟨⟨by decide +kernel, by decide +kernel⟩, List.mem_of_getElem? (i := 646) (by decide +kernel), List.mem_of_getElem? (i := 769) (by decide +kernel), List.mem_of_getElem? (i := 770) (by decide +kernel)⟩
theorem lw_p22 : lw_okq (⟨"SparseChecksModel", "openOf", "([I)I"⟩, 26) := ⟨⟨by decide +kernel, by decide +kernel⟩, List.mem_of_getElem? (i := 646) (by decide +kernel), List.mem_of_getElem? (i := 773) (by decide +kernel), List.mem_of_getElem? (i := 774) (by decide +kernel)⟩
theorem lw_p23 : lw_okq (⟨"SparseChecksModel", "openBy", "([II)I"⟩, 26) := ⟨⟨by decide +kernel, by decide +kernel⟩, List.mem_of_getElem? (i := 646) (by decide +kernel), List.mem_of_getElem? (i := 777) (by decide +kernel), List.mem_of_getElem? (i := 778) (by decide +kernel)⟩
theorem lw_p24 : lw_okq (⟨"SparseChecksModel", "ring", "()I"⟩, 26) := ⟨⟨by decide +kernel, by decide +kernel⟩, List.mem_of_getElem? (i := 646) (by decide +kernel), List.mem_of_getElem? (i := 784) (by decide +kernel), List.mem_of_getElem? (i := 785) (by decide +kernel)⟩
theorem lw_p25 : lw_okq (⟨"SparseChecksModel", "layWays", "([IIII)V"⟩, 26) := ⟨⟨by decide +kernel, by decide +kernel⟩, List.mem_of_getElem? (i := 646) (by decide +kernel), List.mem_of_getElem? (i := 791) (by decide +kernel), List.mem_of_getElem? (i := 792) (by decide +kernel)⟩
theorem lw_p26 : lw_okq (⟨"SparseChecksModel", "rankBy", "(I)I"⟩, 26) := ⟨⟨by decide +kernel, by decide +kernel⟩, List.mem_of_getElem? (i := 646) (by decide +kernel), List.mem_of_getElem? (i := 795) (by decide +kernel), List.mem_of_getElem? (i := 796) (by decide +kernel)⟩
theorem lw_p27 : lw_okq (⟨"SparseChecksModel", "distance", "()I"⟩, 26) := ⟨⟨by decide +kernel, by decide +kernel⟩, List.mem_of_getElem? (i := 646) (by decide +kernel), List.mem_of_getElem? (i := 799) (by decide +kernel), List.mem_of_getElem? (i := 800) (by decide +kernel)⟩
theorem lw_p28 : lw_okq (⟨"SparseChecksModel", "needs", "()I"⟩, 26) := ⟨⟨by decide +kernel, by decide +kernel⟩, List.mem_of_getElem? (i := 646) (by decide +kernel), List.mem_of_getElem? (i := 803) (by decide +kernel), List.mem_of_getElem? (i := 804) (by decide +kernel)⟩
theorem lw_p29 : lw_okq (⟨"SparseChecksModel", "solve", "()I"⟩, 26) := ⟨⟨by decide +kernel, by decide +kernel⟩, List.mem_of_getElem? (i := 646) (by decide +kernel), List.mem_of_getElem? (i := 810) (by decide +kernel), List.mem_of_getElem? (i := 811) (by decide +kernel)⟩
theorem lw_p30 : lw_okq (⟨"SparseChecksModel", "goOn", "([I)V"⟩, 26) := ⟨⟨by decide +kernel, by decide +kernel⟩, List.mem_of_getElem? (i := 646) (by decide +kernel), List.mem_of_getElem? (i := 817) (by decide +kernel), List.mem_of_getElem? (i := 818) (by decide +kernel)⟩
theorem lw_p31 : lw_okq (⟨"SparseChecksModel", "goCheck", "([II)V"⟩, 26) := ⟨⟨by decide +kernel, by decide +kernel⟩, List.mem_of_getElem? (i := 646) (by decide +kernel), List.mem_of_getElem? (i := 821) (by decide +kernel), List.mem_of_getElem? (i := 822) (by decide +kernel)⟩
def lw_privs_2 : List (MethodName × Nat) := [(⟨"SparseChecks$Seen", "isSoBehind", "(II)Z"⟩, 3), (⟨"SparseChecks", "endsEmpty", "(II)Z"⟩, 11), (⟨"SparseChecksModel", "layOrder", "()V"⟩, 26), (⟨"SparseChecksModel", "readText", "()I"⟩, 26), (⟨"SparseChecksModel", "take", "(I)Z"⟩, 26), (⟨"SparseChecksModel", "wordOf", "([I)I"⟩, 26), (⟨"SparseChecksModel", "openOf", "([I)I"⟩, 26), (⟨"SparseChecksModel", "openBy", "([II)I"⟩, 26), (⟨"SparseChecksModel", "ring", "()I"⟩, 26), (⟨"SparseChecksModel", "layWays", "([IIII)V"⟩, 26), (⟨"SparseChecksModel", "rankBy", "(I)I"⟩, 26), (⟨"SparseChecksModel", "distance", "()I"⟩, 26), (⟨"SparseChecksModel", "needs", "()I"⟩, 26), (⟨"SparseChecksModel", "solve", "()I"⟩, 26), (⟨"SparseChecksModel", "goOn", "([I)V"⟩, 26), (⟨"SparseChecksModel", "goCheck", "([II)V"⟩, 26)]
theorem lw_r2 : ∀ q ∈ lw_privs_2, lw_okq q := List.forall_mem_cons.mpr ⟨lw_p16, List.forall_mem_cons.mpr ⟨lw_p17, List.forall_mem_cons.mpr ⟨lw_p18, List.forall_mem_cons.mpr ⟨lw_p19, List.forall_mem_cons.mpr ⟨lw_p20, List.forall_mem_cons.mpr ⟨lw_p21, List.forall_mem_cons.mpr ⟨lw_p22, List.forall_mem_cons.mpr ⟨lw_p23, List.forall_mem_cons.mpr ⟨lw_p24, List.forall_mem_cons.mpr ⟨lw_p25, List.forall_mem_cons.mpr ⟨lw_p26, List.forall_mem_cons.mpr ⟨lw_p27, List.forall_mem_cons.mpr ⟨lw_p28, List.forall_mem_cons.mpr ⟨lw_p29, List.forall_mem_cons.mpr ⟨lw_p30, List.forall_mem_cons.mpr ⟨lw_p31, fun _ h => absurd h List.not_mem_nil⟩⟩⟩⟩⟩⟩⟩⟩⟩⟩⟩⟩⟩⟩⟩⟩
theorem lw_p32 : lw_okq (⟨"SparseChecksModel", "ends", "()I"⟩, 26) := ⟨⟨by decide +kernel, by decide +kernel⟩, List.mem_of_getElem? (i := 646) (by decide +kernel), List.mem_of_getElem? (i := 828) (by decide +kernel), List.mem_of_getElem? (i := 829) (by decide +kernel)⟩
theorem lw_p33 : lw_okq (⟨"SparseChecksModel", "best", "()I"⟩, 26) := ⟨⟨by decide +kernel, by decide +kernel⟩, List.mem_of_getElem? (i := 646) (by decide +kernel), List.mem_of_getElem? (i := 832) (by decide +kernel), List.mem_of_getElem? (i := 833) (by decide +kernel)⟩
theorem lw_p34 : lw_okq (⟨"SparseChecksModel", "isBit", "(I)Z"⟩, 26) := ⟨⟨by decide +kernel, by decide +kernel⟩, List.mem_of_getElem? (i := 646) (by decide +kernel), List.mem_of_getElem? (i := 840) (by decide +kernel), List.mem_of_getElem? (i := 841) (by decide +kernel)⟩
theorem lw_p35 : lw_okq (⟨"SparseChecksModel", "checksOver", "([II)I"⟩, 26) := ⟨⟨by decide +kernel, by decide +kernel⟩, List.mem_of_getElem? (i := 646) (by decide +kernel), List.mem_of_getElem? (i := 844) (by decide +kernel), List.mem_of_getElem? (i := 845) (by decide +kernel)⟩
theorem lw_p36 : lw_okq (⟨"SparseChecksModel", "isCheck", "(I)Z"⟩, 26) := ⟨⟨by decide +kernel, by decide +kernel⟩, List.mem_of_getElem? (i := 646) (by decide +kernel), List.mem_of_getElem? (i := 852) (by decide +kernel), List.mem_of_getElem? (i := 853) (by decide +kernel)⟩
theorem lw_p37 : lw_okq (⟨"SparseChecksModel", "note", "()V"⟩, 26) := ⟨⟨by decide +kernel, by decide +kernel⟩, List.mem_of_getElem? (i := 646) (by decide +kernel), List.mem_of_getElem? (i := 866) (by decide +kernel), List.mem_of_getElem? (i := 867) (by decide +kernel)⟩
theorem lw_p38 : lw_okq (⟨"SparseChecksModel", "isBefore", "(II)Z"⟩, 26) := ⟨⟨by decide +kernel, by decide +kernel⟩, List.mem_of_getElem? (i := 646) (by decide +kernel), List.mem_of_getElem? (i := 890) (by decide +kernel), List.mem_of_getElem? (i := 891) (by decide +kernel)⟩
theorem lw_p39 : lw_okq (⟨"SparseChecksModel", "judged", "(III)Z"⟩, 26) := ⟨⟨by decide +kernel, by decide +kernel⟩, List.mem_of_getElem? (i := 646) (by decide +kernel), List.mem_of_getElem? (i := 920) (by decide +kernel), List.mem_of_getElem? (i := 921) (by decide +kernel)⟩
theorem lw_p40 : lw_okq (⟨"SparseChecksModel", "isSoBy", "(II)Z"⟩, 26) := ⟨⟨by decide +kernel, by decide +kernel⟩, List.mem_of_getElem? (i := 646) (by decide +kernel), List.mem_of_getElem? (i := 938) (by decide +kernel), List.mem_of_getElem? (i := 939) (by decide +kernel)⟩
def lw_privs_3 : List (MethodName × Nat) := [(⟨"SparseChecksModel", "ends", "()I"⟩, 26), (⟨"SparseChecksModel", "best", "()I"⟩, 26), (⟨"SparseChecksModel", "isBit", "(I)Z"⟩, 26), (⟨"SparseChecksModel", "checksOver", "([II)I"⟩, 26), (⟨"SparseChecksModel", "isCheck", "(I)Z"⟩, 26), (⟨"SparseChecksModel", "note", "()V"⟩, 26), (⟨"SparseChecksModel", "isBefore", "(II)Z"⟩, 26), (⟨"SparseChecksModel", "judged", "(III)Z"⟩, 26), (⟨"SparseChecksModel", "isSoBy", "(II)Z"⟩, 26)]
theorem lw_r3 : ∀ q ∈ lw_privs_3, lw_okq q := List.forall_mem_cons.mpr ⟨lw_p32, List.forall_mem_cons.mpr ⟨lw_p33, List.forall_mem_cons.mpr ⟨lw_p34, List.forall_mem_cons.mpr ⟨lw_p35, List.forall_mem_cons.mpr ⟨lw_p36, List.forall_mem_cons.mpr ⟨lw_p37, List.forall_mem_cons.mpr ⟨lw_p38, List.forall_mem_cons.mpr ⟨lw_p39, List.forall_mem_cons.mpr ⟨lw_p40, fun _ h => absurd h List.not_mem_nil⟩⟩⟩⟩⟩⟩⟩⟩⟩
def lw_privs : List (MethodName × Nat) := lw_privs_1 ++ (lw_privs_2 ++ (lw_privs_3))
def lw_tbl : List Cond := k2_sels lw_privs ++ tables_1
theorem lw_privs_ok : ∀ q ∈ lw_privs, lw_okq q := by
  show ∀ q ∈ lw_privs_1 ++ (lw_privs_2 ++ (lw_privs_3)), lw_okq q
  exact List.forall_mem_append.mpr ⟨lw_r1, List.forall_mem_append.mpr ⟨lw_r2, lw_r3⟩⟩

/-! ===== BEGIN printed: names, fields, word lists, decode rows ===== -/
def RX0 : String := "SparseChecks$Acts"
def TX0 : u_T := fun k => match k with
  | 0 => ("SparseChecks$Acts", "ahead", "[LSparseChecks$State;", true)
  | 1 => ("SparseChecks$Acts", "first", "I", false)
  | _ => ("SparseChecks$Acts", "count", "I", false)
def tyX0 : Nat → FieldType := fun k => match k with
  | 0 => .array (.object "SparseChecks$State")
  | 1 => .int
  | _ => .int
abbrev wsX00 : List Cond := u_ws RX0 TX0 3
theorem nmX0 : ∀ a, a < 3 → ∀ b, b < 3 → a ≠ b → (TX0 a).2.1 ≠ (TX0 b).2.1 := by decide +kernel
theorem tyX0_ok : ∀ k, k < 3 → parseFieldDescriptor (TX0 k).2.2.1 = some (tyX0 k) := by decide +kernel
abbrev cX0_init : ByteArray := prog_2_method_1_code
def yX0_init : MethodName := ⟨RX0, "<init>", "()V"⟩
abbrev cX0_remember : ByteArray := prog_2_method_2_code
def yX0_remember : MethodName := ⟨RX0, "remember", "(LSparseChecks$State;)V"⟩
abbrev cX0_giveBackLast : ByteArray := prog_2_method_3_code
def yX0_giveBackLast : MethodName := ⟨RX0, "giveBackLast", "(LSparseChecks$State;)V"⟩
abbrev cX0_forgetAll : ByteArray := prog_2_method_4_code
def yX0_forgetAll : MethodName := ⟨RX0, "forgetAll", "()V"⟩
def RX1 : String := "SparseChecks$Decoder"
def TX1 : u_T := fun k => match k with
  | 0 => ("SparseChecks$Decoder", "order", "[I", true)
  | 1 => ("SparseChecks$Decoder", "q", "[I", true)
  | 2 => ("SparseChecks$Decoder", "least", "I", false)
  | 3 => ("SparseChecks$Decoder", "second", "I", false)
  | _ => ("SparseChecks$Decoder", "leastBit", "I", false)
def tyX1 : Nat → FieldType := fun k => match k with
  | 0 => .array .int
  | 1 => .array .int
  | 2 => .int
  | 3 => .int
  | _ => .int
abbrev wsX10 : List Cond := u_ws RX1 TX1 5
theorem nmX1 : ∀ a, a < 5 → ∀ b, b < 5 → a ≠ b → (TX1 a).2.1 ≠ (TX1 b).2.1 := by decide +kernel
theorem tyX1_ok : ∀ k, k < 5 → parseFieldDescriptor (TX1 k).2.2.1 = some (tyX1 k) := by decide +kernel
abbrev cX1_init : ByteArray := prog_3_method_1_code
def yX1_init : MethodName := ⟨RX1, "<init>", "()V"⟩
abbrev cX1_orderAsNumbered : ByteArray := prog_3_method_2_code
def yX1_orderAsNumbered : MethodName := ⟨RX1, "orderAsNumbered", "()V"⟩
abbrev cX1_orderBy : ByteArray := prog_3_method_3_code
def yX1_orderBy : MethodName := ⟨RX1, "orderBy", "(II)Z"⟩
abbrev cX1_runRounds : ByteArray := prog_3_method_4_code
def yX1_runRounds : MethodName := ⟨RX1, "runRounds", "(LSparseChecks$State;I)V"⟩
abbrev cX1_runUntilSolved : ByteArray := prog_3_method_5_code
def yX1_runUntilSolved : MethodName := ⟨RX1, "runUntilSolved", "(LSparseChecks$State;)I"⟩
abbrev cX1_runRound : ByteArray := prog_3_method_6_code
def yX1_runRound : MethodName := ⟨RX1, "runRound", "(LSparseChecks$State;)Z"⟩
abbrev cX1_findOthers : ByteArray := prog_3_method_7_code
def yX1_findOthers : MethodName := ⟨RX1, "findOthers", "(LSparseChecks$State;II)I"⟩
abbrev cX1_sendMessages : ByteArray := prog_3_method_8_code
def yX1_sendMessages : MethodName := ⟨RX1, "sendMessages", "(LSparseChecks$State;III)Z"⟩
def RX2 : String := "SparseChecks$Doings"
def TX2 : u_T := fun k => match k with
  | _ => ("", "", "", false)
def tyX2 : Nat → FieldType := fun k => match k with
  | _ => .int
abbrev wsX20 : List Cond := u_ws RX2 TX2 0
theorem nmX2 : ∀ a, a < 0 → ∀ b, b < 0 → a ≠ b → (TX2 a).2.1 ≠ (TX2 b).2.1 := by decide +kernel
theorem tyX2_ok : ∀ k, k < 0 → parseFieldDescriptor (TX2 k).2.2.1 = some (tyX2 k) := by decide +kernel
abbrev cX2_withoutLast : ByteArray := prog_4_method_2_code
def yX2_withoutLast : MethodName := ⟨RX2, "withoutLast", "(JI)J"⟩
abbrev cX2_goesThrough : ByteArray := prog_4_method_3_code
def yX2_goesThrough : MethodName := ⟨RX2, "goesThrough", "(ILSparseChecks$State;LSparseChecks$Decoder;)Z"⟩
abbrev cX2_runs : ByteArray := prog_4_method_4_code
def yX2_runs : MethodName := ⟨RX2, "runs", "(ILSparseChecks$State;LSparseChecks$Decoder;)Z"⟩
abbrev cX2_begins : ByteArray := prog_4_method_5_code
def yX2_begins : MethodName := ⟨RX2, "begins", "(LSparseChecks$State;)Z"⟩
abbrev cX2_puts : ByteArray := prog_4_method_6_code
def yX2_puts : MethodName := ⟨RX2, "puts", "(IILSparseChecks$State;)Z"⟩
abbrev cX2_offsets : ByteArray := prog_4_method_7_code
def yX2_offsets : MethodName := ⟨RX2, "offsets", "(ILSparseChecks$State;)Z"⟩
def RX3 : String := "SparseChecks$Reading"
def TX3 : u_T := fun k => match k with
  | 0 => ("SparseChecks$Reading", "over", "[I", true)
  | 1 => ("SparseChecks$Reading", "place", "I", false)
  | 2 => ("SparseChecks$Reading", "bits", "I", false)
  | 3 => ("SparseChecks$Reading", "offset", "I", false)
  | 4 => ("SparseChecks$Reading", "checks", "I", false)
  | 5 => ("SparseChecks$Reading", "leastNextBit", "I", false)
  | _ => ("SparseChecks$Reading", "insideCheck", "Z", false)
def tyX3 : Nat → FieldType := fun k => match k with
  | 0 => .array .int
  | 1 => .int
  | 2 => .int
  | 3 => .int
  | 4 => .int
  | 5 => .int
  | _ => .boolean
abbrev wsX30 : List Cond := u_ws RX3 TX3 7
theorem nmX3 : ∀ a, a < 7 → ∀ b, b < 7 → a ≠ b → (TX3 a).2.1 ≠ (TX3 b).2.1 := by decide +kernel
theorem tyX3_ok : ∀ k, k < 7 → parseFieldDescriptor (TX3 k).2.2.1 = some (tyX3 k) := by decide +kernel
abbrev cX3_init : ByteArray := prog_5_method_1_code
def yX3_init : MethodName := ⟨RX3, "<init>", "()V"⟩
abbrev cX3_startAnew : ByteArray := prog_5_method_2_code
def yX3_startAnew : MethodName := ⟨RX3, "startAnew", "()V"⟩
abbrev cX3_takes : ByteArray := prog_5_method_3_code
def yX3_takes : MethodName := ⟨RX3, "takes", "(I)Z"⟩
abbrev cX3_mayEnd : ByteArray := prog_5_method_4_code
def yX3_mayEnd : MethodName := ⟨RX3, "mayEnd", "()Z"⟩
abbrev cX3_takesBits : ByteArray := prog_5_method_5_code
def yX3_takesBits : MethodName := ⟨RX3, "takesBits", "(I)Z"⟩
abbrev cX3_takesOffset : ByteArray := prog_5_method_6_code
def yX3_takesOffset : MethodName := ⟨RX3, "takesOffset", "(I)Z"⟩
abbrev cX3_takesCheck : ByteArray := prog_5_method_7_code
def yX3_takesCheck : MethodName := ⟨RX3, "takesCheck", "(I)Z"⟩
abbrev cX3_takesInCheck : ByteArray := prog_5_method_8_code
def yX3_takesInCheck : MethodName := ⟨RX3, "takesInCheck", "(I)Z"⟩
def RX4 : String := "SparseChecks$Seen"
def TX4 : u_T := fun k => match k with
  | 0 => ("SparseChecks$Seen", "rounds", "[I", true)
  | 1 => ("SparseChecks$Seen", "open", "[I", true)
  | _ => ("SparseChecks$Seen", "count", "I", false)
def tyX4 : Nat → FieldType := fun k => match k with
  | 0 => .array .int
  | 1 => .array .int
  | _ => .int
abbrev wsX40 : List Cond := u_ws RX4 TX4 3
theorem nmX4 : ∀ a, a < 3 → ∀ b, b < 3 → a ≠ b → (TX4 a).2.1 ≠ (TX4 b).2.1 := by decide +kernel
theorem tyX4_ok : ∀ k, k < 3 → parseFieldDescriptor (TX4 k).2.2.1 = some (tyX4 k) := by decide +kernel
abbrev cX4_init : ByteArray := prog_6_method_1_code
def yX4_init : MethodName := ⟨RX4, "<init>", "()V"⟩
abbrev cX4_add : ByteArray := prog_6_method_2_code
def yX4_add : MethodName := ⟨RX4, "add", "(II)I"⟩
abbrev cX4_isSoBy : ByteArray := prog_6_method_3_code
def yX4_isSoBy : MethodName := ⟨RX4, "isSoBy", "(LSparseChecks$State;LSparseChecks$Decoder;)Z"⟩
abbrev cX4_mostRounds : ByteArray := prog_6_method_4_code
def yX4_mostRounds : MethodName := ⟨RX4, "mostRounds", "()I"⟩
abbrev cX4_isSoBehind : ByteArray := prog_6_method_5_code
def yX4_isSoBehind : MethodName := ⟨RX4, "isSoBehind", "(II)Z"⟩
def RX5 : String := "SparseChecks$State"
def TX5 : u_T := fun k => match k with
  | 0 => ("SparseChecks$State", "over", "[I", true)
  | 1 => ("SparseChecks$State", "level", "[I", true)
  | 2 => ("SparseChecks$State", "total", "[I", true)
  | 3 => ("SparseChecks$State", "message", "[I", true)
  | 4 => ("SparseChecks$State", "bits", "I", false)
  | 5 => ("SparseChecks$State", "checks", "I", false)
  | 6 => ("SparseChecks$State", "offset", "I", false)
  | _ => ("SparseChecks$State", "rounds", "I", false)
def tyX5 : Nat → FieldType := fun k => match k with
  | 0 => .array .int
  | 1 => .array .int
  | 2 => .array .int
  | 3 => .array .int
  | 4 => .int
  | 5 => .int
  | 6 => .int
  | _ => .int
abbrev wsX50 : List Cond := u_ws RX5 TX5 8
theorem nmX5 : ∀ a, a < 8 → ∀ b, b < 8 → a ≠ b → (TX5 a).2.1 ≠ (TX5 b).2.1 := by decide +kernel
theorem tyX5_ok : ∀ k, k < 8 → parseFieldDescriptor (TX5 k).2.2.1 = some (tyX5 k) := by decide +kernel
abbrev cX5_init : ByteArray := prog_7_method_1_code
def yX5_init : MethodName := ⟨RX5, "<init>", "()V"⟩
abbrev cX5_becomeCode : ByteArray := prog_7_method_2_code
def yX5_becomeCode : MethodName := ⟨RX5, "becomeCode", "(LSparseChecks$Reading;)V"⟩
abbrev cX5_becomeLike : ByteArray := prog_7_method_3_code
def yX5_becomeLike : MethodName := ⟨RX5, "becomeLike", "(LSparseChecks$State;)V"⟩
abbrev cX5_beginAnew : ByteArray := prog_7_method_4_code
def yX5_beginAnew : MethodName := ⟨RX5, "beginAnew", "()V"⟩
abbrev cX5_hasBit : ByteArray := prog_7_method_5_code
def yX5_hasBit : MethodName := ⟨RX5, "hasBit", "(I)Z"⟩
abbrev cX5_hasCheck : ByteArray := prog_7_method_6_code
def yX5_hasCheck : MethodName := ⟨RX5, "hasCheck", "(I)Z"⟩
abbrev cX5_allChecks : ByteArray := prog_7_method_7_code
def yX5_allChecks : MethodName := ⟨RX5, "allChecks", "()I"⟩
abbrev cX5_isOver : ByteArray := prog_7_method_8_code
def yX5_isOver : MethodName := ⟨RX5, "isOver", "(II)Z"⟩
abbrev cX5_turnOver : ByteArray := prog_7_method_9_code
def yX5_turnOver : MethodName := ⟨RX5, "turnOver", "(II)V"⟩
abbrev cX5_checksOver : ByteArray := prog_7_method_10_code
def yX5_checksOver : MethodName := ⟨RX5, "checksOver", "(I)I"⟩
abbrev cX5_word : ByteArray := prog_7_method_11_code
def yX5_word : MethodName := ⟨RX5, "word", "()I"⟩
abbrev cX5_open : ByteArray := prog_7_method_12_code
def yX5_open : MethodName := ⟨RX5, "open", "()I"⟩
abbrev cX5_openBy : ByteArray := prog_7_method_13_code
def yX5_openBy : MethodName := ⟨RX5, "openBy", "(I)I"⟩
abbrev cX5_solved : ByteArray := prog_7_method_14_code
def yX5_solved : MethodName := ⟨RX5, "solved", "()Z"⟩
def RX6 : String := "SparseChecks$Sums"
def TX6 : u_T := fun k => match k with
  | 0 => ("SparseChecks$Sums", "state", "LSparseChecks$State;", true)
  | _ => ("SparseChecks$Sums", "basis", "[I", true)
def tyX6 : Nat → FieldType := fun k => match k with
  | 0 => .object "SparseChecks$State"
  | _ => .array .int
abbrev wsX60 : List Cond := u_ws RX6 TX6 2
theorem nmX6 : ∀ a, a < 2 → ∀ b, b < 2 → a ≠ b → (TX6 a).2.1 ≠ (TX6 b).2.1 := by decide +kernel
theorem tyX6_ok : ∀ k, k < 2 → parseFieldDescriptor (TX6 k).2.2.1 = some (tyX6 k) := by decide +kernel
abbrev cX6_init : ByteArray := prog_8_method_1_code
def yX6_init : MethodName := ⟨RX6, "<init>", "(LSparseChecks$State;)V"⟩
abbrev cX6_rankOf : ByteArray := prog_8_method_2_code
def yX6_rankOf : MethodName := ⟨RX6, "rankOf", "(I)I"⟩
abbrev cX6_joinsBasis : ByteArray := prog_8_method_3_code
def yX6_joinsBasis : MethodName := ⟨RX6, "joinsBasis", "(I)Z"⟩
abbrev cX6_howManyWords : ByteArray := prog_8_method_4_code
def yX6_howManyWords : MethodName := ⟨RX6, "howManyWords", "()I"⟩
abbrev cX6_distance : ByteArray := prog_8_method_5_code
def yX6_distance : MethodName := ⟨RX6, "distance", "()I"⟩
abbrev cX6_howManyTraps : ByteArray := prog_8_method_6_code
def yX6_howManyTraps : MethodName := ⟨RX6, "howManyTraps", "(II)I"⟩
abbrev cX6_leastTrap : ByteArray := prog_8_method_7_code
def yX6_leastTrap : MethodName := ⟨RX6, "leastTrap", "(II)I"⟩
abbrev cX6_isTrap : ByteArray := prog_8_method_8_code
def yX6_isTrap : MethodName := ⟨RX6, "isTrap", "(III)Z"⟩
abbrev cX6_ordersInWhichRankGrows : ByteArray := prog_8_method_9_code
def yX6_ordersInWhichRankGrows : MethodName := ⟨RX6, "ordersInWhichRankGrows", "(I)I"⟩
def RX7 : String := "SparseChecks$Text"
def TX7 : u_T := fun k => match k with
  | 0 => ("SparseChecks$Text", "letters", "[I", true)
  | 1 => ("SparseChecks$Text", "reading", "LSparseChecks$Reading;", true)
  | _ => ("SparseChecks$Text", "length", "I", false)
def tyX7 : Nat → FieldType := fun k => match k with
  | 0 => .array .int
  | 1 => .object "SparseChecks$Reading"
  | _ => .int
abbrev wsX70 : List Cond := u_ws RX7 TX7 3
theorem nmX7 : ∀ a, a < 3 → ∀ b, b < 3 → a ≠ b → (TX7 a).2.1 ≠ (TX7 b).2.1 := by decide +kernel
theorem tyX7_ok : ∀ k, k < 3 → parseFieldDescriptor (TX7 k).2.2.1 = some (tyX7 k) := by decide +kernel
abbrev cX7_init : ByteArray := prog_9_method_1_code
def yX7_init : MethodName := ⟨RX7, "<init>", "()V"⟩
abbrev cX7_append : ByteArray := prog_9_method_2_code
def yX7_append : MethodName := ⟨RX7, "append", "(I)I"⟩
abbrev cX7_firstFault : ByteArray := prog_9_method_3_code
def yX7_firstFault : MethodName := ⟨RX7, "firstFault", "()I"⟩
def RX8 : String := "SparseChecks$Ways"
def TX8 : u_T := fun k => match k with
  | _ => ("SparseChecks$Ways", "state", "LSparseChecks$State;", true)
def tyX8 : Nat → FieldType := fun k => match k with
  | _ => .object "SparseChecks$State"
abbrev wsX80 : List Cond := u_ws RX8 TX8 1
theorem nmX8 : ∀ a, a < 1 → ∀ b, b < 1 → a ≠ b → (TX8 a).2.1 ≠ (TX8 b).2.1 := by decide +kernel
theorem tyX8_ok : ∀ k, k < 1 → parseFieldDescriptor (TX8 k).2.2.1 = some (tyX8 k) := by decide +kernel
abbrev cX8_init : ByteArray := prog_10_method_1_code
def yX8_init : MethodName := ⟨RX8, "<init>", "(LSparseChecks$State;)V"⟩
abbrev cX8_ring : ByteArray := prog_10_method_2_code
def yX8_ring : MethodName := ⟨RX8, "ring", "()I"⟩
abbrev cX8_ringOver : ByteArray := prog_10_method_3_code
def yX8_ringOver : MethodName := ⟨RX8, "ringOver", "(II)I"⟩
abbrev cX8_checkToGrowInto : ByteArray := prog_10_method_4_code
def yX8_checkToGrowInto : MethodName := ⟨RX8, "checkToGrowInto", "(I)I"⟩
abbrev cX8_farthestChecks : ByteArray := prog_10_method_5_code
def yX8_farthestChecks : MethodName := ⟨RX8, "farthestChecks", "(I)I"⟩
abbrev cX8_bitsUnder : ByteArray := prog_10_method_6_code
def yX8_bitsUnder : MethodName := ⟨RX8, "bitsUnder", "(I)I"⟩
abbrev cX8_checksOverAny : ByteArray := prog_10_method_7_code
def yX8_checksOverAny : MethodName := ⟨RX8, "checksOverAny", "(I)I"⟩
def RX9 : String := "SparseChecks"
def TX9 : u_T := fun k => match k with
  | 0 => ("SparseChecks", "text", "LSparseChecks$Text;", true)
  | 1 => ("SparseChecks", "now", "LSparseChecks$State;", true)
  | 2 => ("SparseChecks", "trial", "LSparseChecks$State;", true)
  | 3 => ("SparseChecks", "decoder", "LSparseChecks$Decoder;", true)
  | 4 => ("SparseChecks", "ways", "LSparseChecks$Ways;", true)
  | 5 => ("SparseChecks", "sums", "LSparseChecks$Sums;", true)
  | 6 => ("SparseChecks", "acts", "LSparseChecks$Acts;", true)
  | 7 => ("SparseChecks", "seen", "LSparseChecks$Seen;", true)
  | 8 => ("SparseChecks", "slots", "[LSparseChecks$State;", true)
  | 9 => ("SparseChecks", "kept", "[Z", true)
  | _ => ("SparseChecks", "seedNow", "J", false)
def tyX9 : Nat → FieldType := fun k => match k with
  | 0 => .object "SparseChecks$Text"
  | 1 => .object "SparseChecks$State"
  | 2 => .object "SparseChecks$State"
  | 3 => .object "SparseChecks$Decoder"
  | 4 => .object "SparseChecks$Ways"
  | 5 => .object "SparseChecks$Sums"
  | 6 => .object "SparseChecks$Acts"
  | 7 => .object "SparseChecks$Seen"
  | 8 => .array (.object "SparseChecks$State")
  | 9 => .array .boolean
  | _ => .long
abbrev wsX90 : List Cond := u_ws RX9 TX9 11
theorem nmX9 : ∀ a, a < 11 → ∀ b, b < 11 → a ≠ b → (TX9 a).2.1 ≠ (TX9 b).2.1 := by decide +kernel
theorem tyX9_ok : ∀ k, k < 11 → parseFieldDescriptor (TX9 k).2.2.1 = some (tyX9 k) := by decide +kernel
abbrev cX9_init : ByteArray := prog_1_method_1_code
def yX9_init : MethodName := ⟨RX9, "<init>", "()V"⟩
abbrev cX9_write : ByteArray := prog_1_method_2_code
def yX9_write : MethodName := ⟨RX9, "write", "(I)I"⟩
abbrev cX9_wipe : ByteArray := prog_1_method_3_code
def yX9_wipe : MethodName := ⟨RX9, "wipe", "()I"⟩
abbrev cX9_fault : ByteArray := prog_1_method_4_code
def yX9_fault : MethodName := ⟨RX9, "fault", "()I"⟩
abbrev cX9_code : ByteArray := prog_1_method_5_code
def yX9_code : MethodName := ⟨RX9, "code", "()I"⟩
abbrev cX9_about : ByteArray := prog_1_method_6_code
def yX9_about : MethodName := ⟨RX9, "about", "(I)I"⟩
abbrev cX9_bit : ByteArray := prog_1_method_7_code
def yX9_bit : MethodName := ⟨RX9, "bit", "(II)I"⟩
abbrev cX9_check : ByteArray := prog_1_method_8_code
def yX9_check : MethodName := ⟨RX9, "check", "(I)I"⟩
abbrev cX9_message : ByteArray := prog_1_method_9_code
def yX9_message : MethodName := ⟨RX9, "message", "(II)I"⟩
abbrev cX9_level : ByteArray := prog_1_method_10_code
def yX9_level : MethodName := ⟨RX9, "level", "(II)I"⟩
abbrev cX9_begin : ByteArray := prog_1_method_11_code
def yX9_begin : MethodName := ⟨RX9, "begin", "()I"⟩
abbrev cX9_round : ByteArray := prog_1_method_12_code
def yX9_round : MethodName := ⟨RX9, "round", "(I)I"⟩
abbrev cX9_put : ByteArray := prog_1_method_13_code
def yX9_put : MethodName := ⟨RX9, "put", "(II)I"⟩
abbrev cX9_grow : ByteArray := prog_1_method_14_code
def yX9_grow : MethodName := ⟨RX9, "grow", "(II)I"⟩
abbrev cX9_offset : ByteArray := prog_1_method_15_code
def yX9_offset : MethodName := ⟨RX9, "offset", "(I)I"⟩
abbrev cX9_undo : ByteArray := prog_1_method_16_code
def yX9_undo : MethodName := ⟨RX9, "undo", "()I"⟩
abbrev cX9_traps : ByteArray := prog_1_method_17_code
def yX9_traps : MethodName := ⟨RX9, "traps", "(III)I"⟩
abbrev cX9_same : ByteArray := prog_1_method_18_code
def yX9_same : MethodName := ⟨RX9, "same", "(I)I"⟩
abbrev cX9_judge : ByteArray := prog_1_method_19_code
def yX9_judge : MethodName := ⟨RX9, "judge", "(IJ)I"⟩
abbrev cX9_see : ByteArray := prog_1_method_20_code
def yX9_see : MethodName := ⟨RX9, "see", "(II)I"⟩
abbrev cX9_unsee : ByteArray := prog_1_method_21_code
def yX9_unsee : MethodName := ⟨RX9, "unsee", "()I"⟩
abbrev cX9_which : ByteArray := prog_1_method_22_code
def yX9_which : MethodName := ⟨RX9, "which", "()I"⟩
abbrev cX9_share : ByteArray := prog_1_method_23_code
def yX9_share : MethodName := ⟨RX9, "share", "(IZ)I"⟩
abbrev cX9_chance : ByteArray := prog_1_method_24_code
def yX9_chance : MethodName := ⟨RX9, "chance", "(IIZ)I"⟩
abbrev cX9_seed : ByteArray := prog_1_method_25_code
def yX9_seed : MethodName := ⟨RX9, "seed", "(J)J"⟩
abbrev cX9_drawn : ByteArray := prog_1_method_26_code
def yX9_drawn : MethodName := ⟨RX9, "drawn", "(I)I"⟩
abbrev cX9_keep : ByteArray := prog_1_method_27_code
def yX9_keep : MethodName := ⟨RX9, "keep", "(I)I"⟩
abbrev cX9_again : ByteArray := prog_1_method_28_code
def yX9_again : MethodName := ⟨RX9, "again", "(I)I"⟩
abbrev cX9_needs : ByteArray := prog_1_method_29_code
def yX9_needs : MethodName := ⟨RX9, "needs", "()I"⟩
abbrev cX9_ends : ByteArray := prog_1_method_30_code
def yX9_ends : MethodName := ⟨RX9, "ends", "()I"⟩
abbrev cX9_best : ByteArray := prog_1_method_31_code
def yX9_best : MethodName := ⟨RX9, "best", "()I"⟩
abbrev cX9_endsEmpty : ByteArray := prog_1_method_32_code
def yX9_endsEmpty : MethodName := ⟨RX9, "endsEmpty", "(II)Z"⟩
abbrev cX9_power : ByteArray := prog_1_method_33_code
def yX9_power : MethodName := ⟨RX9, "power", "(II)J"⟩
abbrev cX9_inLeastTerms : ByteArray := prog_1_method_34_code
def yX9_inLeastTerms : MethodName := ⟨RX9, "inLeastTerms", "(JJZ)I"⟩
abbrev cX9_commonDivisor : ByteArray := prog_1_method_35_code
def yX9_commonDivisor : MethodName := ⟨RX9, "commonDivisor", "(JJ)J"⟩
abbrev cX9_held : ByteArray := prog_1_method_36_code
def yX9_held : MethodName := ⟨RX9, "held", "(III)I"⟩
def RX10 : String := "SparseChecksModel"
def TX10 : u_T := fun k => match k with
  | 0 => ("SparseChecksModel", "text", "[I", true)
  | 1 => ("SparseChecksModel", "length", "I", false)
  | 2 => ("SparseChecksModel", "bits", "I", false)
  | 3 => ("SparseChecksModel", "checks", "I", false)
  | 4 => ("SparseChecksModel", "now", "[I", true)
  | 5 => ("SparseChecksModel", "trial", "[I", true)
  | 6 => ("SparseChecksModel", "diary", "[I", true)
  | 7 => ("SparseChecksModel", "acts", "I", false)
  | 8 => ("SparseChecksModel", "next", "I", false)
  | 9 => ("SparseChecksModel", "kept", "[I", true)
  | 10 => ("SparseChecksModel", "isKept", "[Z", true)
  | 11 => ("SparseChecksModel", "seenBehind", "[I", true)
  | 12 => ("SparseChecksModel", "seenOpen", "[I", true)
  | 13 => ("SparseChecksModel", "seen", "I", false)
  | 14 => ("SparseChecksModel", "seed", "J", false)
  | 15 => ("SparseChecksModel", "order", "[I", true)
  | 16 => ("SparseChecksModel", "asked", "[I", true)
  | 17 => ("SparseChecksModel", "basis", "[I", true)
  | 18 => ("SparseChecksModel", "worth", "[I", true)
  | 19 => ("SparseChecksModel", "way", "[I", true)
  | 20 => ("SparseChecksModel", "readBits", "I", false)
  | 21 => ("SparseChecksModel", "readOffset", "I", false)
  | 22 => ("SparseChecksModel", "readChecks", "I", false)
  | 23 => ("SparseChecksModel", "readOver", "[I", true)
  | 24 => ("SparseChecksModel", "part", "I", false)
  | _ => ("SparseChecksModel", "lastBit", "I", false)
def tyX10 : Nat → FieldType := fun k => match k with
  | 0 => .array .int
  | 1 => .int
  | 2 => .int
  | 3 => .int
  | 4 => .array .int
  | 5 => .array .int
  | 6 => .array .int
  | 7 => .int
  | 8 => .int
  | 9 => .array .int
  | 10 => .array .boolean
  | 11 => .array .int
  | 12 => .array .int
  | 13 => .int
  | 14 => .long
  | 15 => .array .int
  | 16 => .array .int
  | 17 => .array .int
  | 18 => .array .int
  | 19 => .array .int
  | 20 => .int
  | 21 => .int
  | 22 => .int
  | 23 => .array .int
  | 24 => .int
  | _ => .int
abbrev wsX100 : List Cond := u_ws RX10 TX10 26
theorem nmX10 : ∀ a, a < 26 → ∀ b, b < 26 → a ≠ b → (TX10 a).2.1 ≠ (TX10 b).2.1 := by decide +kernel
theorem tyX10_ok : ∀ k, k < 26 → parseFieldDescriptor (TX10 k).2.2.1 = some (tyX10 k) := by decide +kernel
abbrev cX10_init : ByteArray := prog_12_method_1_code
def yX10_init : MethodName := ⟨RX10, "<init>", "()V"⟩
abbrev cX10_copy : ByteArray := prog_12_method_3_code
def yX10_copy : MethodName := ⟨RX10, "copy", "([I[I)V"⟩
abbrev cX10_in : ByteArray := prog_12_method_4_code
def yX10_in : MethodName := ⟨RX10, "in", "(JJJ)Z"⟩
abbrev cX10_has : ByteArray := prog_12_method_5_code
def yX10_has : MethodName := ⟨RX10, "has", "(II)Z"⟩
abbrev cX10_ones : ByteArray := prog_12_method_6_code
def yX10_ones : MethodName := ⟨RX10, "ones", "(I)I"⟩
abbrev cX10_held : ByteArray := prog_12_method_7_code
def yX10_held : MethodName := ⟨RX10, "held", "(III)I"⟩
abbrev cX10_power : ByteArray := prog_12_method_8_code
def yX10_power : MethodName := ⟨RX10, "power", "(II)I"⟩
abbrev cX10_factorial : ByteArray := prog_12_method_9_code
def yX10_factorial : MethodName := ⟨RX10, "factorial", "(I)I"⟩
abbrev cX10_fraction : ByteArray := prog_12_method_10_code
def yX10_fraction : MethodName := ⟨RX10, "fraction", "(IIZ)I"⟩
abbrev cX10_isBit : ByteArray := prog_12_method_11_code
def yX10_isBit : MethodName := ⟨RX10, "isBit", "(I)Z"⟩
abbrev cX10_isCheck : ByteArray := prog_12_method_12_code
def yX10_isCheck : MethodName := ⟨RX10, "isCheck", "(I)Z"⟩
abbrev cX10_layOrder : ByteArray := prog_12_method_13_code
def yX10_layOrder : MethodName := ⟨RX10, "layOrder", "()V"⟩
abbrev cX10_write : ByteArray := prog_12_method_14_code
def yX10_write : MethodName := ⟨RX10, "write", "(I)I"⟩
abbrev cX10_wipe : ByteArray := prog_12_method_15_code
def yX10_wipe : MethodName := ⟨RX10, "wipe", "()I"⟩
abbrev cX10_take : ByteArray := prog_12_method_16_code
def yX10_take : MethodName := ⟨RX10, "take", "(I)Z"⟩
abbrev cX10_readText : ByteArray := prog_12_method_17_code
def yX10_readText : MethodName := ⟨RX10, "readText", "()I"⟩
abbrev cX10_fault : ByteArray := prog_12_method_18_code
def yX10_fault : MethodName := ⟨RX10, "fault", "()I"⟩
abbrev cX10_code : ByteArray := prog_12_method_19_code
def yX10_code : MethodName := ⟨RX10, "code", "()I"⟩
abbrev cX10_goCheck : ByteArray := prog_12_method_20_code
def yX10_goCheck : MethodName := ⟨RX10, "goCheck", "([II)V"⟩
abbrev cX10_goOn : ByteArray := prog_12_method_21_code
def yX10_goOn : MethodName := ⟨RX10, "goOn", "([I)V"⟩
abbrev cX10_beginOn : ByteArray := prog_12_method_22_code
def yX10_beginOn : MethodName := ⟨RX10, "beginOn", "([I)V"⟩
abbrev cX10_wordOf : ByteArray := prog_12_method_23_code
def yX10_wordOf : MethodName := ⟨RX10, "wordOf", "([I)I"⟩
abbrev cX10_openBy : ByteArray := prog_12_method_24_code
def yX10_openBy : MethodName := ⟨RX10, "openBy", "([II)I"⟩
abbrev cX10_openOf : ByteArray := prog_12_method_25_code
def yX10_openOf : MethodName := ⟨RX10, "openOf", "([I)I"⟩
abbrev cX10_solve : ByteArray := prog_12_method_26_code
def yX10_solve : MethodName := ⟨RX10, "solve", "()I"⟩
abbrev cX10_needs : ByteArray := prog_12_method_27_code
def yX10_needs : MethodName := ⟨RX10, "needs", "()I"⟩
abbrev cX10_ends : ByteArray := prog_12_method_28_code
def yX10_ends : MethodName := ⟨RX10, "ends", "()I"⟩
abbrev cX10_best : ByteArray := prog_12_method_29_code
def yX10_best : MethodName := ⟨RX10, "best", "()I"⟩
abbrev cX10_layWays : ByteArray := prog_12_method_30_code
def yX10_layWays : MethodName := ⟨RX10, "layWays", "([IIII)V"⟩
abbrev cX10_ring : ByteArray := prog_12_method_31_code
def yX10_ring : MethodName := ⟨RX10, "ring", "()I"⟩
abbrev cX10_rankBy : ByteArray := prog_12_method_32_code
def yX10_rankBy : MethodName := ⟨RX10, "rankBy", "(I)I"⟩
abbrev cX10_distance : ByteArray := prog_12_method_33_code
def yX10_distance : MethodName := ⟨RX10, "distance", "()I"⟩
abbrev cX10_about : ByteArray := prog_12_method_34_code
def yX10_about : MethodName := ⟨RX10, "about", "(I)I"⟩
abbrev cX10_checksOver : ByteArray := prog_12_method_35_code
def yX10_checksOver : MethodName := ⟨RX10, "checksOver", "([II)I"⟩
abbrev cX10_bit : ByteArray := prog_12_method_36_code
def yX10_bit : MethodName := ⟨RX10, "bit", "(II)I"⟩
abbrev cX10_check : ByteArray := prog_12_method_37_code
def yX10_check : MethodName := ⟨RX10, "check", "(I)I"⟩
abbrev cX10_message : ByteArray := prog_12_method_38_code
def yX10_message : MethodName := ⟨RX10, "message", "(II)I"⟩
abbrev cX10_note : ByteArray := prog_12_method_39_code
def yX10_note : MethodName := ⟨RX10, "note", "()V"⟩
abbrev cX10_level : ByteArray := prog_12_method_40_code
def yX10_level : MethodName := ⟨RX10, "level", "(II)I"⟩
abbrev cX10_begin : ByteArray := prog_12_method_41_code
def yX10_begin : MethodName := ⟨RX10, "begin", "()I"⟩
abbrev cX10_round : ByteArray := prog_12_method_42_code
def yX10_round : MethodName := ⟨RX10, "round", "(I)I"⟩
abbrev cX10_putOn : ByteArray := prog_12_method_43_code
def yX10_putOn : MethodName := ⟨RX10, "putOn", "([III)V"⟩
abbrev cX10_put : ByteArray := prog_12_method_44_code
def yX10_put : MethodName := ⟨RX10, "put", "(II)I"⟩
abbrev cX10_isBefore : ByteArray := prog_12_method_45_code
def yX10_isBefore : MethodName := ⟨RX10, "isBefore", "(II)Z"⟩
abbrev cX10_grow : ByteArray := prog_12_method_46_code
def yX10_grow : MethodName := ⟨RX10, "grow", "(II)I"⟩
abbrev cX10_offset : ByteArray := prog_12_method_47_code
def yX10_offset : MethodName := ⟨RX10, "offset", "(I)I"⟩
abbrev cX10_undo : ByteArray := prog_12_method_48_code
def yX10_undo : MethodName := ⟨RX10, "undo", "()I"⟩
abbrev cX10_traps : ByteArray := prog_12_method_49_code
def yX10_traps : MethodName := ⟨RX10, "traps", "(III)I"⟩
abbrev cX10_same : ByteArray := prog_12_method_50_code
def yX10_same : MethodName := ⟨RX10, "same", "(I)I"⟩
abbrev cX10_judged : ByteArray := prog_12_method_51_code
def yX10_judged : MethodName := ⟨RX10, "judged", "(III)Z"⟩
abbrev cX10_thousands : ByteArray := prog_12_method_52_code
def yX10_thousands : MethodName := ⟨RX10, "thousands", "(I)J"⟩
abbrev cX10_judge : ByteArray := prog_12_method_53_code
def yX10_judge : MethodName := ⟨RX10, "judge", "(IJ)I"⟩
abbrev cX10_see : ByteArray := prog_12_method_54_code
def yX10_see : MethodName := ⟨RX10, "see", "(II)I"⟩
abbrev cX10_unsee : ByteArray := prog_12_method_55_code
def yX10_unsee : MethodName := ⟨RX10, "unsee", "()I"⟩
abbrev cX10_isSoBy : ByteArray := prog_12_method_56_code
def yX10_isSoBy : MethodName := ⟨RX10, "isSoBy", "(II)Z"⟩
abbrev cX10_which : ByteArray := prog_12_method_57_code
def yX10_which : MethodName := ⟨RX10, "which", "()I"⟩
abbrev cX10_share : ByteArray := prog_12_method_58_code
def yX10_share : MethodName := ⟨RX10, "share", "(IZ)I"⟩
abbrev cX10_chance : ByteArray := prog_12_method_59_code
def yX10_chance : MethodName := ⟨RX10, "chance", "(IIZ)I"⟩
abbrev cX10_seed : ByteArray := prog_12_method_60_code
def yX10_seed : MethodName := ⟨RX10, "seed", "(J)J"⟩
abbrev cX10_drawn : ByteArray := prog_12_method_61_code
def yX10_drawn : MethodName := ⟨RX10, "drawn", "(I)I"⟩
abbrev cX10_keep : ByteArray := prog_12_method_62_code
def yX10_keep : MethodName := ⟨RX10, "keep", "(I)I"⟩
abbrev cX10_again : ByteArray := prog_12_method_63_code
def yX10_again : MethodName := ⟨RX10, "again", "(I)I"⟩
def RJ6 : String := "java/lang/Integer"
def TJ6 : u_T := fun k => match k with
  | _ => ("", "", "", false)
def tyJ6 : Nat → FieldType := fun k => match k with
  | _ => .int
abbrev wsJ60 : List Cond := u_ws RJ6 TJ6 0
theorem nmJ6 : ∀ a, a < 0 → ∀ b, b < 0 → a ≠ b → (TJ6 a).2.1 ≠ (TJ6 b).2.1 := by decide +kernel
theorem tyJ6_ok : ∀ k, k < 0 → parseFieldDescriptor (TJ6 k).2.2.1 = some (tyJ6 k) := by decide +kernel
abbrev cJ6_bitCount_0f7a4 : ByteArray := prog_13_method_49_code
def yJ6_bitCount_0f7a4 : MethodName := ⟨RJ6, "bitCount", "(I)I"⟩
def RJ9 : String := "java/lang/Math"
def TJ9 : u_T := fun k => match k with
  | _ => ("", "", "", false)
def tyJ9 : Nat → FieldType := fun k => match k with
  | _ => .int
abbrev wsJ90 : List Cond := u_ws RJ9 TJ9 0
theorem nmJ9 : ∀ a, a < 0 → ∀ b, b < 0 → a ≠ b → (TJ9 a).2.1 ≠ (TJ9 b).2.1 := by decide +kernel
theorem tyJ9_ok : ∀ k, k < 0 → parseFieldDescriptor (TJ9 k).2.2.1 = some (tyJ9 k) := by decide +kernel
abbrev cJ9_max_7cf53 : ByteArray := prog_14_method_65_code
def yJ9_max_7cf53 : MethodName := ⟨RJ9, "max", "(II)I"⟩
def RJ10 : String := "java/lang/System"
def TJ10 : u_T := fun k => match k with
  | _ => ("", "", "", false)
def tyJ10 : Nat → FieldType := fun k => match k with
  | _ => .int
abbrev wsJ100 : List Cond := u_ws RJ10 TJ10 0
theorem nmJ10 : ∀ a, a < 0 → ∀ b, b < 0 → a ≠ b → (TJ10 a).2.1 ≠ (TJ10 b).2.1 := by decide +kernel
theorem tyJ10_ok : ∀ k, k < 0 → parseFieldDescriptor (TJ10 k).2.2.1 = some (tyJ10 k) := by decide +kernel
def RL : String := "SparseChecksLaw"
abbrev cL_law : ByteArray := code
def yL_law : MethodName := ⟨RL, "law", "([I)Z"⟩
end
section
/-! THE ABSTRACT MACHINE: values whose references are places of the world (9999: null), memory of typed rows, steps as predicate transformers -/
def tblG : List Cond := lw_tbl.filter goodWord
theorem tg {w : Cond} (i : Nat) (h : lw_tbl[i]? = some w) (g : goodWord w = true) : w ∈ tblG := List.mem_filter.mpr ⟨List.mem_of_getElem? h, g⟩
def kCl : List vw_C := [(RX0, TX0, 3), (RX1, TX1, 5), (RX2, TX2, 0), (RX3, TX3, 7), (RX4, TX4, 3), (RX5, TX5, 8), (RX6, TX6, 2), (RX7, TX7, 3), (RX8, TX8, 1), (RX9, TX9, 11), (RX10, TX10, 26)]
def tyC : Nat → Nat → FieldType := fun ci => match ci with
  | 0 => tyX0 | 1 => tyX1 | 2 => tyX2 | 3 => tyX3 | 4 => tyX4 | 5 => tyX5 | 6 => tyX6 | 7 => tyX7 | 8 => tyX8 | 9 => tyX9 | _ => tyX10
def nfC : Nat → Nat := fun ci => match ci with
  | 0 => 3 | 1 => 5 | 2 => 0 | 3 => 7 | 4 => 3 | 5 => 8 | 6 => 2 | 7 => 3 | 8 => 1 | 9 => 11 | _ => 26
def fkOf : FieldType → Nat := fun t => match t with
  | .int => 0 | .boolean => 0 | .long => 1 | _ => 2
abbrev Vals : Type := List (Option Value)
/-- cells, slots, kind and length (or class) of a place, references -/
abbrev Sh : Type := Nat × Nat × (Nat → Nat × Nat) × (Nat → Nat → Nat)
abbrev Mem : Type := Sh × (Nat → Nat → Int32) × (Nat → Nat → Int64)
def rO (ad : Nat → Nat) (r : Nat) : Option Nat := if r = 9999 then none else some (ad r)
def cv (ad : Nat → Nat) (v : Value) : Value := match v with
  | .ref k => va_rf (rO ad k)
  | v => v
def fV (ad : Nat → Nat) (M : Mem) (ci k j : Nat) : Value := if fkOf (tyC ci j) = 0 then .int (M.2.1 k j) else if fkOf (tyC ci j) = 1 then .long (M.2.2 k j) else cv ad (.ref (M.1.2.2.2 k j))
def fsM (ad : Nat → Nat) (M : Mem) (ci k : Nat) : List Value := (List.range (nfC ci)).map (fV ad M ci k)
def cEnc (ca : Nat → ClassId) (ad : Nat → Nat) (M : Mem) (k : Nat) : va_E :=
  if (M.1.2.2.1 k).1 = 0 then .inr ((M.1.2.2.1 k).2, fsM ad M (M.1.2.2.1 k).2 k)
  else if (M.1.2.2.1 k).1 = 3 then .inl (ca 3, (M.1.2.2.1 k).2, .inr (.inr (.inr (.inr (fun j => rO ad (M.1.2.2.2 k j))))))
  else .inl (ca (M.1.2.2.1 k).1, (M.1.2.2.1 k).2, .inl (M.2.1 k))
def wsM (ca : Nat → ClassId) (ad : Nat → Nat) (M : Mem) : va_W := (List.range M.1.1).map (fun k => (ad k, cEnc ca ad M k))
def tysC (ca : Nat → ClassId) : List (ClassId × FieldType) := [(ca 1, .int), (ca 2, .boolean), (ca 3, .object RX5)]
/-- the world: every place's cell, from ad 0 on, and nothing behind them -/
def Wd (D : va_G) (ca : Nat → ClassId) (ad : Nat → Nat) (M : Mem) (H : Heap) : Prop := va_P D kCl (wsM ca ad M) H ∧ M.1.1 ≤ 9000
def facI : Nat → Int32 := fun j => ([1, 1, 2, 6, 24, 120, 720] : List Int32).getD j 0
abbrev AA (ad : Nat → Nat) : Nat → Prop := fun q => ad 0 ≤ q
/-- what stays: the tables, the places' addresses, the static array, the script -/
def Ev (D : va_G) (ca : Nat → ClassId) (ad : Nat → Nat) (scr : Option (Nat × (Nat → Int32))) (s : State) : Prop :=
  va_K D kCl (tysC ca) s ∧ (∀ k, k < 9000 → ad k = ad 0 + k) ∧ va_Z RX9 "FACTORIALS" "[I" (.ref (ad 9001)) (AA ad) s s.heap ∧ va_T .int (ad 9001) 7 (fun j => .int (facI j)) (AA ad) s s.heap ∧
  va_Nw (.methodLinkNest RX1 73 yX9_held RX9) s ∧ va_Nw (.fieldLinkNest RX6 55 RX9 "FACTORIALS" "[I" RX9) s ∧ va_AO RX5 s ∧
  (∀ q, scr = some q → va_X (ad 9002) q.1 q.2 s s.heap ∧ ad 9002 < s.heap.size ∧ ad 9002 < ad 0) ∧ ad 0 ≤ s.heap.size
/-- a method: code, class, locals, answer's type, room, whether it is a constructor, the script (the law alone) -/
abbrev Mt : Type := ByteArray × String × Nat × Option FieldType × Room × Bool × Option (Nat × (Nat → Int32)) × Option (Nat × Nat)
def HC (mt : Mt) (p : Program) (s : State) (m : MethodId) (args : Array Value) (meth : Method) (c : Code) (D : va_G) (ca : Nat → ClassId) (ad : Nat → Nat) (N0 S0 : Nat) : Prop :=
  p.tables.exec = Jvm.exec ∧ c.code = mt.1 ∧ c.maxLocals = mt.2.2.1 ∧ s.vm.findClass mt.2.1 = some m.cls ∧ (∀ w ∈ tblG, w.before args s = true) ∧ meth.locks = false ∧ meth.sig.returnType = mt.2.2.2.1 ∧ (mt.2.2.2.2.2.1 = true → meth.name = "<init>") ∧ Ev D ca ad mt.2.2.2.2.2.2.1 s ∧ s.heap.size = ad 0 + N0 ∧ (∀ q, mt.2.2.2.2.2.2.2 = some q → N0 = q.1 ∧ S0 = q.2)
def LH (ad : Nat → Nat) (la : Array Slot) (nL : Nat) (ls : Vals) : Prop := ∃ lv, lv_has la nL lv ∧ ∀ (i : Nat) (v : Value), ls[i]? = some (some v) → (i, cv ad v) ∈ lv
def rtOk (rt : Option FieldType) (r : Option Value) : Prop := match rt, r with
  | none, none => True
  | some .int, some (.int _) => True
  | some .boolean, some (.int v) => v = 0 ∨ v = 1
  | some .long, some (.long _) => True
  | _, _ => False
def rdec (cc : ByteArray) (pc : Nat) (r : Option Value) : Prop := match r with
  | none => decode cc pc = .ok (.return_, 1)
  | some (.int _) => decode cc pc = .ok (.ireturn, 1)
  | some (.long _) => decode cc pc = .ok (.lreturn, 1)
  | _ => False
def RO (mt : Mt) (R : Option Value → Mem → Prop) (p : Program) (l : Launch) (e : Env) (s : State) (m : MethodId) (args : Array Value) (below : List Frame) (meth : Method) (c : Code) (D : va_G) (ca : Nat → ClassId) (ad : Nat → Nat) (N0 S0 : Nat) (Q : State → Prop) : Prop :=
  ∀ (r : Option Value) (M : Mem) (H : Heap) (locs : List Loc) (la : Array Slot) (pc cells slots : Nat), R r M → Wd D ca ad M H → va_S (AA ad) s.heap H locs → N0 + cells = M.1.1 → S0 + slots = M.1.2.1 → cells ≤ mt.2.2.2.2.1.cells → slots ≤ mt.2.2.2.2.1.slots → rtOk mt.2.2.2.1 r → rdec mt.1 pc r →
    W p l e mt.2.2.2.2.1 s m args below meth c H locs cells slots Q (F0 m pc la (r.toList.map (cv ad)))
def JW (mt : Mt) (p : Program) (l : Launch) (e : Env) (s : State) (m : MethodId) (args : Array Value) (below : List Frame) (meth : Method) (c : Code) (D : va_G) (ca : Nat → ClassId) (ad : Nat → Nat) (N0 S0 : Nat) (Q : State → Prop) (pc : Nat) (ls : Vals) (st : List Value) (M : Mem) : Prop :=
  ∀ (H : Heap) (locs : List Loc) (la : Array Slot) (cells slots : Nat), Wd D ca ad M H → va_S (AA ad) s.heap H locs → LH ad la mt.2.2.1 ls → N0 + cells = M.1.1 → S0 + slots = M.1.2.1 → cells ≤ mt.2.2.2.2.1.cells → slots ≤ mt.2.2.2.2.1.slots →
    W p l e mt.2.2.2.2.1 s m args below meth c H locs cells slots Q (F0 m pc la (st.map (cv ad)))
/-- from this point the method returns, with R -/
def J (mt : Mt) (R : Option Value → Mem → Prop) (pc : Nat) (ls : Vals) (st : List Value) (M : Mem) : Prop :=
  ∀ (p : Program) (l : Launch) (e : Env) (s : State) (m : MethodId) (args : Array Value) (below : List Frame) (meth : Method) (c : Code) (D : va_G) (ca : Nat → ClassId) (ad : Nat → Nat) (N0 S0 : Nat) (Q : State → Prop),
    HC mt p s m args meth c D ca ad N0 S0 → RO mt R p l e s m args below meth c D ca ad N0 S0 Q → JW mt p l e s m args below meth c D ca ad N0 S0 Q pc ls st M
abbrev KT : Type := Nat → Vals → List Value → Mem → Prop
abbrev X : Type := Vals → List Value → Mem → KT → (Option Value → Mem → Prop) → Prop
def Snd (mt : Mt) (pc : Nat) (x : X) : Prop :=
  ∀ (R : Option Value → Mem → Prop) (p : Program) (l : Launch) (e : Env) (s : State) (m : MethodId) (args : Array Value) (below : List Frame) (meth : Method) (c : Code) (D : va_G) (ca : Nat → ClassId) (ad : Nat → Nat) (N0 S0 : Nat) (Q : State → Prop),
    HC mt p s m args meth c D ca ad N0 S0 → RO mt R p l e s m args below meth c D ca ad N0 S0 Q → ∀ (ls : Vals) (st : List Value) (M : Mem) (K : KT), x ls st M K R → (∀ pc' ls' st' M', K pc' ls' st' M' → JW mt p l e s m args below meth c D ca ad N0 S0 Q pc' ls' st' M') → JW mt p l e s m args below meth c D ca ad N0 S0 Q pc ls st M
/-! the runner -/
abbrev Tb : Type := List (Nat × X × Bool)
def lk : Tb → Nat → X × Bool
  | [], _ => (fun _ _ _ _ _ => False, false)
  | (p, q) :: r, pc => bif Nat.beq p pc then q else lk r pc
def run (tb : Tb) (K : KT) (R : Option Value → Mem → Prop) : Nat → KT
  | 0, pc, ls, st, M => K pc ls st M
  | n + 1, pc, ls, st, M => if (lk tb pc).2 = true then K pc ls st M else (lk tb pc).1 ls st M (run tb K R n) R
def TbOk (mt : Mt) (tb : Tb) : Prop := ∀ q ∈ tb, Snd mt q.1 q.2.1
theorem lk_snd {mt : Mt} : ∀ {tb : Tb}, TbOk mt tb → ∀ pc, Snd mt pc (lk tb pc).1
  | [], _, pc => fun _ _ _ _ _ _ _ _ _ _ _ _ _ _ _ _ _ _ _ _ _ _ h => h.elim
  | (p, q) :: r, h, pc => by
    unfold lk
    cases hb : Nat.beq p pc with
    | true =>
      have hp : p = pc := Nat.eq_of_beq_eq_true hb
      subst hp
      exact h (p, q) List.mem_cons_self
    | false => exact lk_snd (fun q hq => h q (List.mem_cons_of_mem _ hq)) pc
theorem run_snd {mt : Mt} {tb : Tb} (h : TbOk mt tb) {K : KT} {R : Option Value → Mem → Prop} (hK : ∀ pc ls st M, K pc ls st M → J mt R pc ls st M) : ∀ n pc ls st M, run tb K R n pc ls st M → J mt R pc ls st M
  | 0, pc, ls, st, M, hr => hK pc ls st M hr
  | n + 1, pc, ls, st, M, hr => by
    unfold run at hr
    split at hr
    · exact hK pc ls st M hr
    · intro p l e s m args below meth c D ca ad N0 S0 Q hc ro
      exact lk_snd h pc R p l e s m args below meth c D ca ad N0 S0 Q hc ro ls st M _ hr (fun pc' ls' st' M' hk => run_snd h hK n pc' ls' st' M' hk p l e s m args below meth c D ca ad N0 S0 Q hc ro)
/-- a stretch: run the table from pc up to the cuts; the runner is a variable, known by its one equation (so that nothing unfolds it) -/
theorem J.of {mt : Mt} {tb : Tb} (h : TbOk mt tb) (n : Nat) {R : Option Value → Mem → Prop} {pc : Nat} {ls : Vals} {st : List Value} {M : Mem} (hr : ∀ ρ : Nat → KT, (∀ n pc ls st M, ρ (n + 1) pc ls st M = (if (lk tb pc).2 = true then J mt R pc ls st M else (lk tb pc).1 ls st M (ρ n) R)) → (lk tb pc).1 ls st M (ρ n) R) : J mt R pc ls st M := by
  intro p l e s m args below meth c D ca ad N0 S0 Q hc ro
  exact lk_snd h pc R p l e s m args below meth c D ca ad N0 S0 Q hc ro ls st M _ (hr (run tb (J mt R) R) (fun n pc ls st M => rfl)) (fun pc' ls' st' M' hk => run_snd h (fun _ _ _ _ h => h) n pc' ls' st' M' hk p l e s m args below meth c D ca ad N0 S0 Q hc ro)
/-- fewer locals known -/
def lsub : Vals → Vals → Prop
  | [], [] => True
  | none :: a, _ :: b => lsub a b
  | some v :: a, w :: b => w = some v ∧ lsub a b
  | _, _ => False
theorem lsub_get : ∀ {a b : Vals}, lsub a b → ∀ (i : Nat) (v : Value), a[i]? = some (some v) → b[i]? = some (some v)
  | [], [], _, i, v, h => by simp at h
  | none :: a, w :: b, hs, i, v, h => by
    cases i with
    | zero => simp at h
    | succ i => simp only [List.getElem?_cons_succ] at h ⊢; exact lsub_get (a := a) hs i v h
  | some x :: a, w :: b, hs, i, v, h => by
    cases i with
    | zero => simp only [List.getElem?_cons_zero] at h ⊢; rw [hs.1]; exact h
    | succ i => simp only [List.getElem?_cons_succ] at h ⊢; exact lsub_get (a := a) hs.2 i v h
theorem J.weak {mt : Mt} {R : Option Value → Mem → Prop} {pc : Nat} {ls ls' : Vals} {st : List Value} {M : Mem} (hs : lsub ls' ls) (h : J mt R pc ls' st M) : J mt R pc ls st M := by
  intro p l e s m args below meth c D ca ad N0 S0 Q hc ro H locs la cells slots hw hS hl
  obtain ⟨lv, h1, h2⟩ := hl
  exact h p l e s m args below meth c D ca ad N0 S0 Q hc ro H locs la cells slots hw hS ⟨lv, h1, fun i v hi => h2 i v (lsub_get hs i v hi)⟩
end
section
/-! THE STEPS -/
def lg : Vals → Nat → Option Value
  | [], _ => none
  | a :: _, 0 => a
  | _ :: r, i + 1 => lg r i
theorem lg_get : ∀ {ls : Vals} {i : Nat} {v : Value}, lg ls i = some v → ls[i]? = some (some v)
  | [], i, v, h => by simp [lg] at h
  | a :: r, 0, v, h => by simp only [lg] at h; simp [h]
  | a :: r, i + 1, v, h => by simp only [lg] at h; simp only [List.getElem?_cons_succ]; exact lg_get h
def wide : Option Value → Bool
  | some (.long _) => true
  | some (.double _) => true
  | _ => false
/-- a value of one word is stored -/
def lset : Vals → Nat → Value → Vals
  | [], _, _ => []
  | _ :: r, 0, v => some v :: r
  | a :: r, 1, v => (bif wide a then none else a) :: lset r 0 v
  | a :: r, i + 2, v => a :: lset r (i + 1) v
/-- a value of two words is stored -/
def lset2 : Vals → Nat → Value → Vals
  | [], _, _ => []
  | [_], 0, _ => [none]
  | _ :: _ :: r, 0, v => some v :: none :: r
  | a :: r, 1, v => (bif wide a then none else a) :: lset2 r 0 v
  | a :: r, i + 2, v => a :: lset2 r (i + 1) v
theorem lset_get : ∀ {ls : Vals} {i : Nat} {v : Value} (j : Nat) (w : Value), (lset ls i v)[j]? = some (some w) → (j = i ∧ w = v) ∨ (j ≠ i ∧ ls[j]? = some (some w) ∧ (j + 1 = i → wide (some w) = false))
  | [], i, v, j, w, h => by simp [lset] at h
  | a :: r, 0, v, j, w, h => by
    cases j with
    | zero => simp [lset] at h; exact Or.inl ⟨rfl, h.symm⟩
    | succ j => simp only [lset, List.getElem?_cons_succ] at h ⊢; exact Or.inr ⟨by omega, h, by omega⟩
  | a :: r, 1, v, j, w, h => by
    cases j with
    | zero =>
      simp only [lset, List.getElem?_cons_zero, Option.some.injEq] at h ⊢
      cases hw : wide a with
      | true => rw [hw] at h; simp at h
      | false => rw [hw] at h; simp only [cond_false] at h; exact Or.inr ⟨by omega, h, fun _ => by rw [← h]; exact hw⟩
    | succ j =>
      simp only [lset, List.getElem?_cons_succ] at h ⊢
      rcases lset_get (ls := r) (i := 0) j w h with ⟨h1, h2⟩ | ⟨h1, h2, h3⟩
      · exact Or.inl ⟨by omega, h2⟩
      · exact Or.inr ⟨by omega, h2, by omega⟩
  | a :: r, i + 2, v, j, w, h => by
    cases j with
    | zero => simp only [lset, List.getElem?_cons_zero] at h ⊢; exact Or.inr ⟨by omega, h, by omega⟩
    | succ j =>
      simp only [lset, List.getElem?_cons_succ] at h ⊢
      rcases lset_get (ls := r) (i := i + 1) j w h with ⟨h1, h2⟩ | ⟨h1, h2, h3⟩
      · exact Or.inl ⟨by omega, h2⟩
      · exact Or.inr ⟨by omega, h2, fun e => h3 (by omega)⟩
theorem lset2_get : ∀ {ls : Vals} {i : Nat} {v : Value} (j : Nat) (w : Value), (lset2 ls i v)[j]? = some (some w) → (j = i ∧ w = v) ∨ (j ≠ i ∧ j ≠ i + 1 ∧ ls[j]? = some (some w) ∧ (j + 1 = i → wide (some w) = false))
  | [], i, v, j, w, h => by simp [lset2] at h
  | [a], 0, v, j, w, h => by cases j <;> simp [lset2] at h
  | a :: b :: r, 0, v, j, w, h => by
    match j with
    | 0 => simp [lset2] at h; exact Or.inl ⟨rfl, h.symm⟩
    | 1 => simp [lset2] at h
    | j + 2 => simp only [lset2, List.getElem?_cons_succ] at h ⊢; exact Or.inr ⟨by omega, by omega, h, by omega⟩
  | a :: r, 1, v, j, w, h => by
    cases j with
    | zero =>
      simp only [lset2, List.getElem?_cons_zero, Option.some.injEq] at h ⊢
      cases hw : wide a with
      | true => rw [hw] at h; simp at h
      | false => rw [hw] at h; simp only [cond_false] at h; exact Or.inr ⟨by omega, by omega, h, fun _ => by rw [← h]; exact hw⟩
    | succ j =>
      simp only [lset2, List.getElem?_cons_succ] at h ⊢
      rcases lset2_get (ls := r) (i := 0) j w h with ⟨h1, h2⟩ | ⟨h1, h1', h2, h3⟩
      · exact Or.inl ⟨by omega, h2⟩
      · exact Or.inr ⟨by omega, by omega, h2, by omega⟩
  | a :: r, i + 2, v, j, w, h => by
    cases j with
    | zero => simp only [lset2, List.getElem?_cons_zero] at h ⊢; exact Or.inr ⟨by omega, by omega, h, by omega⟩
    | succ j =>
      simp only [lset2, List.getElem?_cons_succ] at h ⊢
      rcases lset2_get (ls := r) (i := i + 1) j w h with ⟨h1, h2⟩ | ⟨h1, h1', h2, h3⟩
      · exact Or.inl ⟨by omega, h2⟩
      · exact Or.inr ⟨by omega, by omega, h2, fun e => h3 (by omega)⟩
theorem va_rf_cat (o : Option Nat) : (va_rf o).category = 1 := by cases o <;> rfl
theorem cv_cat (ad : Nat → Nat) (v : Value) : (cv ad v).category = v.category := by
  cases v <;> first | rfl | exact va_rf_cat _
theorem wide_cat (v : Value) : wide (some v) = false → v.category = 1 := by cases v <;> simp [wide, Value.category]
theorem LH.at {ad : Nat → Nat} {la : Array Slot} {nL : Nat} {ls : Vals} (h : LH ad la nL ls) {i : Nat} {v : Value} (hi : lg ls i = some v) : la[i]? = some (.val (cv ad v)) := by
  obtain ⟨lv, h1, h2⟩ := h
  exact h1.2.2 _ (h2 i v (lg_get hi))
theorem LH.set {ad : Nat → Nat} {la' : Array Slot} {nL i : Nat} {ls : Vals} {v : Value} {lv : List (Nat × Value)} (h2 : ∀ (i : Nat) (v : Value), ls[i]? = some (some v) → (i, cv ad v) ∈ lv) (h : lv_has la' nL ((i, cv ad v) :: lv.filter (fun q => !(q.1 == i) && !(q.1 + 1 == i && q.2.category == 2)))) : LH ad la' nL (lset ls i v) := by
  refine ⟨_, h, fun j w hj => ?_⟩
  rcases lset_get j w hj with ⟨rfl, rfl⟩ | ⟨h3, h4, h5⟩
  · exact List.mem_cons_self
  · refine List.mem_cons_of_mem _ (List.mem_filter.mpr ⟨h2 j w h4, ?_⟩)
    simp only [Bool.and_eq_true, Bool.not_eq_true', beq_eq_false_iff_ne, ne_eq, Bool.and_eq_false_iff]
    refine ⟨h3, ?_⟩
    by_cases e : j + 1 = i
    · exact Or.inr (by rw [cv_cat, wide_cat w (h5 e)]; decide)
    · exact Or.inl e
theorem LH.set2 {ad : Nat → Nat} {la' : Array Slot} {nL i : Nat} {ls : Vals} {v : Value} {lv : List (Nat × Value)} (h2 : ∀ (i : Nat) (v : Value), ls[i]? = some (some v) → (i, cv ad v) ∈ lv) (h : lv_has la' nL ((i, cv ad v) :: lv.filter (fun q => !(q.1 == i) && (!(q.1 == i + 1) && !(q.1 + 1 == i && q.2.category == 2))))) : LH ad la' nL (lset2 ls i v) := by
  refine ⟨_, h, fun j w hj => ?_⟩
  rcases lset2_get j w hj with ⟨rfl, rfl⟩ | ⟨h3, h3', h4, h5⟩
  · exact List.mem_cons_self
  · refine List.mem_cons_of_mem _ (List.mem_filter.mpr ⟨h2 j w h4, ?_⟩)
    simp only [Bool.and_eq_true, Bool.not_eq_true', beq_eq_false_iff_ne, ne_eq, Bool.and_eq_false_iff]
    refine ⟨h3, h3', ?_⟩
    by_cases e : j + 1 = i
    · exact Or.inr (by rw [cv_cat, wide_cat w (h5 e)]; decide)
    · exact Or.inl e
/-! kinds of a place -/
def tO (S : Sh) (k ci : Nat) : Prop := k < S.1 ∧ S.2.2.1 k = (0, ci)
def tA (S : Sh) (k t : Nat) : Prop := k < S.1 ∧ (S.2.2.1 k).1 = t
def ln (S : Sh) (k : Nat) : Nat := (S.2.2.1 k).2
abbrev sR (S : Sh) (k j : Nat) : Nat := S.2.2.2 k j
def mS {α : Type} (I : Nat → α) (k : Nat) (r : α) : Nat → α := fun q => if q = k then r else I q
theorem mS_s {α : Type} {I : Nat → α} {k : Nat} {r : α} : mS I k r k = r := by simp [mS]
theorem mS_n {α : Type} {I : Nat → α} {k q : Nat} {r : α} (h : q ≠ k) : mS I k r q = I q := by simp [mS, h]
/-! the steps as transformers -/
def x_c (nx : Nat) (v : Value) : X := fun ls st M K _ => K nx ls (v :: st) M
def x_il (nx i : Nat) : X := fun ls st M K _ => match lg ls i with
  | some (.int x) => K nx ls (.int x :: st) M
  | _ => False
def x_ll (nx i : Nat) : X := fun ls st M K _ => match lg ls i with
  | some (.long x) => K nx ls (.long x :: st) M
  | _ => False
def x_al (nx i : Nat) : X := fun ls st M K _ => match lg ls i with
  | some (.ref x) => K nx ls (.ref x :: st) M
  | _ => False
def x_is (nx i : Nat) : X := fun ls st M K _ => match st with
  | .int x :: st => K nx (lset ls i (.int x)) st M
  | _ => False
def x_as (nx i : Nat) : X := fun ls st M K _ => match st with
  | .ref x :: st => K nx (lset ls i (.ref x)) st M
  | _ => False
def x_ls (nx i : Nat) : X := fun ls st M K _ => match st with
  | .long x :: st => K nx (lset2 ls i (.long x)) st M
  | _ => False
def x_inc (nx i : Nat) (d : Int32) : X := fun ls st M K _ => match lg ls i with
  | some (.int x) => K nx (lset ls i (.int (x + d))) st M
  | _ => False
def x_ii (nx : Nat) (f : Int32 → Int32 → Int32) : X := fun ls st M K _ => match st with
  | .int y :: .int x :: st => K nx ls (.int (f x y) :: st) M
  | _ => False
def x_iq (nx : Nat) (f : Int32 → Int32 → Int32) : X := fun ls st M K _ => match st with
  | .int y :: .int x :: st => ¬ y = 0 ∧ K nx ls (.int (f x y) :: st) M
  | _ => False
def x_i1 (nx : Nat) (f : Int32 → Int32) : X := fun ls st M K _ => match st with
  | .int x :: st => K nx ls (.int (f x) :: st) M
  | _ => False
def x_l2 (nx : Nat) (f : Int64 → Int64 → Int64) : X := fun ls st M K _ => match st with
  | .long y :: .long x :: st => K nx ls (.long (f x y) :: st) M
  | _ => False
def x_lq (nx : Nat) (f : Int64 → Int64 → Int64) : X := fun ls st M K _ => match st with
  | .long y :: .long x :: st => ¬ y = 0 ∧ K nx ls (.long (f x y) :: st) M
  | _ => False
def x_lh (nx : Nat) (f : Int64 → Int32 → Int64) : X := fun ls st M K _ => match st with
  | .int y :: .long x :: st => K nx ls (.long (f x y) :: st) M
  | _ => False
def x_i2l (nx : Nat) : X := fun ls st M K _ => match st with
  | .int x :: st => K nx ls (.long x.toInt64 :: st) M
  | _ => False
def x_l2i (nx : Nat) : X := fun ls st M K _ => match st with
  | .long x :: st => K nx ls (.int x.toInt32 :: st) M
  | _ => False
def x_lcmp (nx : Nat) : X := fun ls st M K _ => match st with
  | .long y :: .long x :: st => K nx ls (.int (lg_cmp x y) :: st) M
  | _ => False
def x_dup (nx : Nat) : X := fun ls st M K _ => match st with
  | .int x :: st => K nx ls (.int x :: .int x :: st) M
  | .ref x :: st => K nx ls (.ref x :: .ref x :: st) M
  | _ => False
def x_dup2 (nx : Nat) : X := fun ls st M K _ => match st with
  | .int y :: .ref x :: st => K nx ls (.int y :: .ref x :: .int y :: .ref x :: st) M
  | _ => False
def x_pop (nx : Nat) : X := fun ls st M K _ => match st with
  | .int _ :: st => K nx ls st M
  | _ => False
def x_if (tgt nx : Nat) (c : Int32 → Prop) : X := fun ls st M K _ => match st with
  | .int x :: st => (c x → K tgt ls st M) ∧ (¬ c x → K nx ls st M)
  | _ => False
def x_ic (tgt nx : Nat) (c : Int32 → Int32 → Prop) : X := fun ls st M K _ => match st with
  | .int y :: .int x :: st => (c x y → K tgt ls st M) ∧ (¬ c x y → K nx ls st M)
  | _ => False
def x_go (tgt : Nat) : X := fun ls st M K _ => K tgt ls st M
def swc (P : Nat → Prop) (x : Int32) : Int → List Nat → Prop
  | _, [] => True
  | lo, t :: r => (x.toInt = lo → P t) ∧ swc P x (lo + 1) r
def x_sw (lo hi : Int) (ts : List Nat) (d : Nat) : X := fun ls st M K _ => match st with
  | .int x :: st => swc (fun t => K t ls st M) x lo ts ∧ ((x.toInt < lo ∨ hi < x.toInt) → K d ls st M)
  | _ => False
def x_gI (ci j nx : Nat) : X := fun ls st M K _ => match st with
  | .ref k :: st => tO M.1 k ci ∧ K nx ls (.int (M.2.1 k j) :: st) M
  | _ => False
def x_gL (ci j nx : Nat) : X := fun ls st M K _ => match st with
  | .ref k :: st => tO M.1 k ci ∧ K nx ls (.long (M.2.2 k j) :: st) M
  | _ => False
def x_gR (ci j nx : Nat) : X := fun ls st M K _ => match st with
  | .ref k :: st => tO M.1 k ci ∧ K nx ls (.ref (sR M.1 k j) :: st) M
  | _ => False
def x_pI (ci j nx : Nat) : X := fun ls st M K _ => match st with
  | .int x :: .ref k :: st => tO M.1 k ci ∧ K nx ls st (M.1, mS M.2.1 k (upd (M.2.1 k) j x), M.2.2)
  | _ => False
def x_pZ (ci j nx : Nat) : X := fun ls st M K _ => match st with
  | .int x :: .ref k :: st => tO M.1 k ci ∧ (x = 0 ∨ x = 1) ∧ K nx ls st (M.1, mS M.2.1 k (upd (M.2.1 k) j x), M.2.2)
  | _ => False
def x_pL (ci j nx : Nat) : X := fun ls st M K _ => match st with
  | .long x :: .ref k :: st => tO M.1 k ci ∧ K nx ls st (M.1, M.2.1, mS M.2.2 k (vp_updL (M.2.2 k) j x))
  | _ => False
def x_pR (ci j nx : Nat) : X := fun ls st M K _ => match st with
  | .ref x :: .ref k :: st => tO M.1 k ci ∧ K nx ls st ((M.1.1, M.1.2.1, M.1.2.2.1, mS M.1.2.2.2 k (va_up (M.1.2.2.2 k) j x)), M.2.1, M.2.2)
  | _ => False
def x_ia (nx : Nat) : X := fun ls st M K _ => match st with
  | .int i :: .ref k :: st => tA M.1 k 1 ∧ vp_in i (ln M.1 k) ∧ K nx ls (.int (M.2.1 k i.toNatClampNeg) :: st) M
  | _ => False
def x_za (nx : Nat) : X := fun ls st M K _ => match st with
  | .int i :: .ref k :: st => tA M.1 k 2 ∧ vp_in i (ln M.1 k) ∧ K nx ls (.int (M.2.1 k i.toNatClampNeg) :: st) M
  | _ => False
def x_aa (nx : Nat) : X := fun ls st M K _ => match st with
  | .int i :: .ref k :: st => tA M.1 k 3 ∧ vp_in i (ln M.1 k) ∧ K nx ls (.ref (sR M.1 k i.toNatClampNeg) :: st) M
  | _ => False
def x_ias (nx : Nat) : X := fun ls st M K _ => match st with
  | .int x :: .int i :: .ref k :: st => tA M.1 k 1 ∧ vp_in i (ln M.1 k) ∧ K nx ls st (M.1, mS M.2.1 k (upd (M.2.1 k) i.toNatClampNeg x), M.2.2)
  | _ => False
def x_zas (nx : Nat) : X := fun ls st M K _ => match st with
  | .int x :: .int i :: .ref k :: st => tA M.1 k 2 ∧ vp_in i (ln M.1 k) ∧ (x = 0 ∨ x = 1) ∧ K nx ls st (M.1, mS M.2.1 k (upd (M.2.1 k) i.toNatClampNeg x), M.2.2)
  | _ => False
def x_aas (nx : Nat) : X := fun ls st M K _ => match st with
  | .ref x :: .int i :: .ref k :: st => tA M.1 k 3 ∧ vp_in i (ln M.1 k) ∧ tO M.1 x 5 ∧ ¬ x = 9999 ∧ K nx ls st ((M.1.1, M.1.2.1, M.1.2.2.1, mS M.1.2.2.2 k (va_up (M.1.2.2.2 k) i.toNatClampNeg x)), M.2.1, M.2.2)
  | _ => False
def x_fac (nx : Nat) : X := fun ls st M K _ => K nx ls (.ref 9001 :: st) M
def x_fa (nx : Nat) : X := fun ls st M K _ => match st with
  | .int i :: .ref k :: st => k = 9001 ∧ vp_in i 7 ∧ K nx ls (.int (facI i.toNatClampNeg) :: st) M
  | _ => False
def x_slen (nx : Nat) (q : Nat × (Nat → Int32)) : X := fun ls st M K _ => match st with
  | .ref k :: st => k = 9002 ∧ K nx ls (.int (nI q.1) :: st) M
  | _ => False
def x_sa (nx : Nat) (q : Nat × (Nat → Int32)) : X := fun ls st M K _ => match st with
  | .int i :: .ref k :: st => k = 9002 ∧ vp_in i q.1 ∧ K nx ls (.int (q.2 i.toNatClampNeg) :: st) M
  | _ => False
def x_ac (nx N : Nat) : X := fun ls st M K _ => match st with
  | .int n :: .int d :: .ref b :: .int s :: .ref a :: st => n = nI N ∧ d = 0 ∧ s = 0 ∧ tA M.1 a 1 ∧ tA M.1 b 1 ∧ N ≤ ln M.1 a ∧ N ≤ ln M.1 b ∧ st = [] ∧ K nx ls [] (M.1, mS M.2.1 b (va_cpy (M.2.1 a) (M.2.1 b) 0 0 N), M.2.2)
  | _ => False
def x_oi (nx : Nat) : X := fun ls st M K _ => match st with
  | [.ref _] => K nx ls [] M
  | _ => False
def x_new (ci nx : Nat) (cap : Nat × Nat) : X := fun ls st M K _ => M.1.1 + 1 ≤ cap.1 ∧ M.1.2.1 + nfC ci ≤ cap.2 ∧ M.1.1 + 1 ≤ 9000 ∧ ci < 11 ∧
  K nx ls (.ref M.1.1 :: st) ((M.1.1 + 1, M.1.2.1 + nfC ci, mS M.1.2.2.1 M.1.1 (0, ci), mS M.1.2.2.2 M.1.1 (fun _ => 9999)), mS M.2.1 M.1.1 (fun _ => 0), mS M.2.2 M.1.1 (fun _ => 0))
def x_na (t nx : Nat) (cap : Nat × Nat) : X := fun ls st M K _ => match st with
  | .int n :: st => ¬ n < 0 ∧ n.toNatClampNeg ≤ 10000 ∧ M.1.1 + 1 ≤ cap.1 ∧ M.1.2.1 + n.toNatClampNeg ≤ cap.2 ∧ M.1.1 + 1 ≤ 9000 ∧
    K nx ls (.ref M.1.1 :: st) ((M.1.1 + 1, M.1.2.1 + n.toNatClampNeg, mS M.1.2.2.1 M.1.1 (t, n.toNatClampNeg), mS M.1.2.2.2 M.1.1 (fun _ => 9999)), mS M.2.1 M.1.1 (fun _ => 0), M.2.2)
  | _ => False
def pa : Nat → List Value → List Value → Option (List Value × List Value)
  | 0, st, acc => some (acc, st)
  | _ + 1, [], _ => none
  | n + 1, v :: st, acc => pa n st (v :: acc)
def short : List Value → Nat → Bool
  | [], _ => true
  | _ :: _, 0 => false
  | _ :: r, n + 1 => short r n
def oc : Option Value → List Value → List Value
  | none, l => l
  | some v, l => v :: l
abbrev PTT : Type := List Value → Mem → (Option Value → Mem → Prop) → Prop
def x_cS (n : Nat) (P : PTT) (nx : Nat) : X := fun ls st M K _ => match pa n st [] with
  | some (as, r) => short r 4 = true ∧ P as M (fun v M' => M'.1 = M.1 ∧ K nx ls (oc v r) M')
  | none => False
def x_cV (ci n : Nat) (P : PTT) (nx : Nat) : X := fun ls st M K _ => match pa (n + 1) st [] with
  | some (.ref k :: as, r) => tO M.1 k ci ∧ short r 4 = true ∧ P (.ref k :: as) M (fun v M' => M'.1 = M.1 ∧ K nx ls (oc v r) M')
  | _ => False
def x_cI (n : Nat) (P : PTT) (nx mc ms : Nat) (cap : Nat × Nat) : X := fun ls st M K _ => match pa (n + 1) st [] with
  | some (.ref k :: as, r) => ¬ k = 9999 ∧ short r 4 = true ∧ M.1.1 + mc ≤ cap.1 ∧ M.1.2.1 + ms ≤ cap.2 ∧ P (.ref k :: as) M (fun v M' => v = none ∧ M'.1.1 = M.1.1 + mc ∧ M'.1.2.1 = M.1.2.1 + ms ∧ K nx ls r M')
  | _ => False
def x_rI : X := fun _ st M _ R => match st with
  | [.int v] => R (some (.int v)) M
  | _ => False
def x_rZ : X := fun _ st M _ R => match st with
  | [.int v] => (v = 0 ∨ v = 1) ∧ R (some (.int v)) M
  | _ => False
def x_rL : X := fun _ st M _ R => match st with
  | [.long v] => R (some (.long v)) M
  | _ => False
def x_r0 : X := fun _ st M _ R => match st with
  | [] => R none M
  | _ => False
end
section
/-! EACH STEP IS SOUND -/
def ushr (x y : Int32) : Int32 := (x.toUInt32 >>> (y.toUInt32 &&& Int32.toUInt32 31)).toInt32
def lushr (x : Int64) (y : Int32) : Int64 := (x.toUInt64 >>> (y.toInt64.toUInt64 &&& Int64.toUInt64 63)).toInt64
section SND
variable {mt : Mt} {pc : Nat}
theorem s_iconst {n : Int} {v : Int32} (hd : decode mt.1 pc = .ok (.iconst n, 1)) (hv : Int32.ofInt n = v) : Snd mt pc (x_c (pc + 1) (.int v)) := by
  intro R p l e s m args below meth c D ca ad N0 S0 Q hc ro ls st M K hx hk H locs la cells slots hw hS hl h1 h2 h3 h4
  exact lv_iconst hc.1 hc.2.1 hd hv (hk _ _ _ _ hx H locs la cells slots hw hS hl h1 h2 h3 h4)
theorem s_bipush {n : Int} {v : Int32} (hd : decode mt.1 pc = .ok (.bipush n, 2)) (hv : (Int8.ofInt n).toInt32 = v) : Snd mt pc (x_c (pc + 2) (.int v)) := by
  intro R p l e s m args below meth c D ca ad N0 S0 Q hc ro ls st M K hx hk H locs la cells slots hw hS hl h1 h2 h3 h4
  exact lv_bipush hc.1 hc.2.1 hd hv (hk _ _ _ _ hx H locs la cells slots hw hS hl h1 h2 h3 h4)
theorem s_sipush {n : Int} {v : Int32} (hd : decode mt.1 pc = .ok (.sipush n, 3)) (hv : (Int16.ofInt n).toInt32 = v) : Snd mt pc (x_c (pc + 3) (.int v)) := by
  intro R p l e s m args below meth c D ca ad N0 S0 Q hc ro ls st M K hx hk H locs la cells slots hw hS hl h1 h2 h3 h4
  exact lv_sipush hc.1 hc.2.1 hd hv (hk _ _ _ _ hx H locs la cells slots hw hS hl h1 h2 h3 h4)
theorem s_lconst {n : Fin 2} {v : Int64} (hd : decode mt.1 pc = .ok (.lconst n, 1)) (hv : Int64.ofNat (n : Nat) = v) : Snd mt pc (x_c (pc + 1) (.long v)) := by
  intro R p l e s m args below meth c D ca ad N0 S0 Q hc ro ls st M K hx hk H locs la cells slots hw hS hl h1 h2 h3 h4
  exact lv_lconst hc.1 hc.2.1 hd hv (hk _ _ _ _ hx H locs la cells slots hw hS hl h1 h2 h3 h4)
theorem s_ldcw {idx : Nat} {v : Int32} (hd : decode mt.1 pc = .ok (.ldc_w idx, 3)) (hw : Cond.constant mt.2.1 idx v ∈ tblG) : Snd mt pc (x_c (pc + 3) (.int v)) := by
  intro R p l e s m args below meth c D ca ad N0 S0 Q hc ro ls st M K hx hk H locs la cells slots hw' hS hl h1 h2 h3 h4
  exact lv_ldcw hc.1 hc.2.1 hc.2.2.2.1 (hc.2.2.2.2.1 _ hw) hd (hk _ _ _ _ hx H locs la cells slots hw' hS hl h1 h2 h3 h4)
theorem s_ldc2 {idx : Nat} {v : Int64} (hd : decode mt.1 pc = .ok (.ldc2_w idx, 3)) (hw : Cond.constantLong mt.2.1 idx v ∈ tblG) : Snd mt pc (x_c (pc + 3) (.long v)) := by
  intro R p l e s m args below meth c D ca ad N0 S0 Q hc ro ls st M K hx hk H locs la cells slots hw' hS hl h1 h2 h3 h4
  exact lv_ldc2 hc.1 hc.2.1 hc.2.2.2.1 (hc.2.2.2.2.1 _ hw) hd (hk _ _ _ _ hx H locs la cells slots hw' hS hl h1 h2 h3 h4)
theorem s_iload_n {k : Fin 4} (hd : decode mt.1 pc = .ok (.iload_n k, 1)) : Snd mt pc (x_il (pc + 1) k.val) := by
  intro R p l e s m args below meth c D ca ad N0 S0 Q hc ro ls st M K hx hk
  unfold x_il at hx; split at hx
  next x hg =>
    intro H locs la cells slots hw hS hl h1 h2 h3 h4
    exact lv_iload_n hc.1 hc.2.1 hd rfl (hl.at hg) (hk _ _ _ _ hx H locs la cells slots hw hS hl h1 h2 h3 h4)
  next => exact hx.elim
theorem s_iload {i : Nat} (hd : decode mt.1 pc = .ok (.iload i, 2)) : Snd mt pc (x_il (pc + 2) i) := by
  intro R p l e s m args below meth c D ca ad N0 S0 Q hc ro ls st M K hx hk
  unfold x_il at hx; split at hx
  next x hg =>
    intro H locs la cells slots hw hS hl h1 h2 h3 h4
    exact lv_iload hc.1 hc.2.1 hd (hl.at hg) (hk _ _ _ _ hx H locs la cells slots hw hS hl h1 h2 h3 h4)
  next => exact hx.elim
theorem s_lload_n {k : Fin 4} (hd : decode mt.1 pc = .ok (.lload_n k, 1)) : Snd mt pc (x_ll (pc + 1) k.val) := by
  intro R p l e s m args below meth c D ca ad N0 S0 Q hc ro ls st M K hx hk
  unfold x_ll at hx; split at hx
  next x hg =>
    intro H locs la cells slots hw hS hl h1 h2 h3 h4
    exact lv_lload_n hc.1 hc.2.1 hd rfl (hl.at hg) (hk _ _ _ _ hx H locs la cells slots hw hS hl h1 h2 h3 h4)
  next => exact hx.elim
theorem s_lload {i : Nat} (hd : decode mt.1 pc = .ok (.lload i, 2)) : Snd mt pc (x_ll (pc + 2) i) := by
  intro R p l e s m args below meth c D ca ad N0 S0 Q hc ro ls st M K hx hk
  unfold x_ll at hx; split at hx
  next x hg =>
    intro H locs la cells slots hw hS hl h1 h2 h3 h4
    exact lv_lload hc.1 hc.2.1 hd (hl.at hg) (hk _ _ _ _ hx H locs la cells slots hw hS hl h1 h2 h3 h4)
  next => exact hx.elim
theorem s_aload_n {k : Fin 4} (hd : decode mt.1 pc = .ok (.aload_n k, 1)) : Snd mt pc (x_al (pc + 1) k.val) := by
  intro R p l e s m args below meth c D ca ad N0 S0 Q hc ro ls st M K hx hk
  unfold x_al at hx; split at hx
  next x hg =>
    intro H locs la cells slots hw hS hl h1 h2 h3 h4
    have hq := hk _ _ _ _ hx H locs la cells slots hw hS hl h1 h2 h3 h4
    have hg' := hl.at hg
    simp only [cv, List.map_cons] at hq hg'
    cases ho : rO ad x with
    | none => rw [ho] at hq hg'; exact lv_aload_nN hc.1 hc.2.1 hd rfl hg' hq
    | some a => rw [ho] at hq hg'; exact lv_aload_n hc.1 hc.2.1 hd rfl hg' hq
  next => exact hx.elim
theorem s_aload {i : Nat} (hd : decode mt.1 pc = .ok (.aload i, 2)) : Snd mt pc (x_al (pc + 2) i) := by
  intro R p l e s m args below meth c D ca ad N0 S0 Q hc ro ls st M K hx hk
  unfold x_al at hx; split at hx
  next x hg =>
    intro H locs la cells slots hw hS hl h1 h2 h3 h4
    have hq := hk _ _ _ _ hx H locs la cells slots hw hS hl h1 h2 h3 h4
    have hg' := hl.at hg
    simp only [cv, List.map_cons] at hq hg'
    cases ho : rO ad x with
    | none => rw [ho] at hq hg'; exact lv_aloadN hc.1 hc.2.1 hd hg' hq
    | some a => rw [ho] at hq hg'; exact lv_aload hc.1 hc.2.1 hd hg' hq
  next => exact hx.elim
theorem s_istore_n {k : Fin 4} (hd : decode mt.1 pc = .ok (.istore_n k, 1)) (hn : k.val < mt.2.2.1) : Snd mt pc (x_is (pc + 1) k.val) := by
  intro R p l e s m args below meth c D ca ad N0 S0 Q hc ro ls st M K hx hk
  unfold x_is at hx; split at hx
  next x st =>
    intro H locs la cells slots hw hS hl h1 h2 h3 h4
    obtain ⟨lv, l1, l2⟩ := hl
    exact lv_istore_n hc.1 hc.2.1 hd rfl l1 hn rfl (fun la' h' => hk _ _ _ _ hx H locs la' cells slots hw hS (LH.set l2 h') h1 h2 h3 h4)
  next => exact hx.elim
theorem s_istore {i : Nat} (hd : decode mt.1 pc = .ok (.istore i, 2)) (hn : i < mt.2.2.1) : Snd mt pc (x_is (pc + 2) i) := by
  intro R p l e s m args below meth c D ca ad N0 S0 Q hc ro ls st M K hx hk
  unfold x_is at hx; split at hx
  next x st =>
    intro H locs la cells slots hw hS hl h1 h2 h3 h4
    obtain ⟨lv, l1, l2⟩ := hl
    exact lv_istore hc.1 hc.2.1 hd l1 hn rfl (fun la' h' => hk _ _ _ _ hx H locs la' cells slots hw hS (LH.set l2 h') h1 h2 h3 h4)
  next => exact hx.elim
theorem s_astore_n {k : Fin 4} (hd : decode mt.1 pc = .ok (.astore_n k, 1)) (hn : k.val < mt.2.2.1) : Snd mt pc (x_as (pc + 1) k.val) := by
  intro R p l e s m args below meth c D ca ad N0 S0 Q hc ro ls st M K hx hk
  unfold x_as at hx; split at hx
  next x st =>
    intro H locs la cells slots hw hS hl h1 h2 h3 h4
    obtain ⟨lv, l1, l2⟩ := hl
    have key : ∀ la', lv_has la' mt.2.2.1 ((k.val, cv ad (.ref x)) :: lv.filter (fun q => !(q.1 == k.val) && !(q.1 + 1 == k.val && q.2.category == 2))) → W p l e mt.2.2.2.2.1 s m args below meth c H locs cells slots Q (F0 m (pc + 1) la' (st.map (cv ad))) := fun la' h' => hk _ _ _ _ hx H locs la' cells slots hw hS (LH.set l2 h') h1 h2 h3 h4
    simp only [cv, List.map_cons] at key ⊢
    cases ho : rO ad x with
    | none => rw [ho] at key; exact lv_astore_nN hc.1 hc.2.1 hd rfl l1 hn rfl key
    | some a => rw [ho] at key; exact lv_astore_n hc.1 hc.2.1 hd rfl l1 hn rfl key
  next => exact hx.elim
theorem s_lstore_n {k : Fin 4} (hd : decode mt.1 pc = .ok (.lstore_n k, 1)) (hn : k.val + 1 < mt.2.2.1) : Snd mt pc (x_ls (pc + 1) k.val) := by
  intro R p l e s m args below meth c D ca ad N0 S0 Q hc ro ls st M K hx hk
  unfold x_ls at hx; split at hx
  next x st =>
    intro H locs la cells slots hw hS hl h1 h2 h3 h4
    obtain ⟨lv, l1, l2⟩ := hl
    exact lv_lstore_n hc.1 hc.2.1 hd rfl l1 hn rfl (fun la' h' => hk _ _ _ _ hx H locs la' cells slots hw hS (LH.set2 l2 h') h1 h2 h3 h4)
  next => exact hx.elim
theorem s_lstore {i : Nat} (hd : decode mt.1 pc = .ok (.lstore i, 2)) (hn : i + 1 < mt.2.2.1) : Snd mt pc (x_ls (pc + 2) i) := by
  intro R p l e s m args below meth c D ca ad N0 S0 Q hc ro ls st M K hx hk
  unfold x_ls at hx; split at hx
  next x st =>
    intro H locs la cells slots hw hS hl h1 h2 h3 h4
    obtain ⟨lv, l1, l2⟩ := hl
    exact lv_lstore hc.1 hc.2.1 hd l1 hn rfl (fun la' h' => hk _ _ _ _ hx H locs la' cells slots hw hS (LH.set2 l2 h') h1 h2 h3 h4)
  next => exact hx.elim
theorem s_iinc {i : Nat} {n : Int} {d : Int32} (hd : decode mt.1 pc = .ok (.iinc i n, 3)) (hn : i < mt.2.2.1) (hv : Int32.ofInt n = d) : Snd mt pc (x_inc (pc + 3) i d) := by
  intro R p l e s m args below meth c D ca ad N0 S0 Q hc ro ls st M K hx hk
  unfold x_inc at hx; split at hx
  next x hg =>
    intro H locs la cells slots hw hS hl h1 h2 h3 h4
    obtain ⟨lv, l1, l2⟩ := hl
    obtain ⟨k, hk'⟩ := List.getElem?_of_mem (l2 i (.int x) (lg_get hg))
    exact lv_iinc hc.1 hc.2.1 hd l1 hk' (by rw [hv]) hn rfl (fun la' h' => hk _ _ _ _ hx H locs la' cells slots hw hS (LH.set l2 h') h1 h2 h3 h4)
  next => exact hx.elim
theorem s_goto {off : Int} {tgt : Nat} (hd : decode mt.1 pc = .ok (.goto off, 3)) (ht : (pc : Int) + off = (tgt : Int)) : Snd mt pc (x_go tgt) := by
  intro R p l e s m args below meth c D ca ad N0 S0 Q hc ro ls st M K hx hk H locs la cells slots hw hS hl h1 h2 h3 h4
  exact lv_goto hc.1 hc.2.1 hd ht (hk _ _ _ _ hx H locs la cells slots hw hS hl h1 h2 h3 h4)
theorem s_i2l (hd : decode mt.1 pc = .ok (.i2l, 1)) : Snd mt pc (x_i2l (pc + 1)) := by
  intro R p l e s m args below meth c D ca ad N0 S0 Q hc ro ls st M K hx hk
  unfold x_i2l at hx; split at hx
  next x st =>
    intro H locs la cells slots hw hS hl h1 h2 h3 h4
    exact lv_i2l hc.1 hc.2.1 hd rfl (hk _ _ _ _ hx H locs la cells slots hw hS hl h1 h2 h3 h4)
  next => exact hx.elim
theorem s_l2i (hd : decode mt.1 pc = .ok (.l2i, 1)) : Snd mt pc (x_l2i (pc + 1)) := by
  intro R p l e s m args below meth c D ca ad N0 S0 Q hc ro ls st M K hx hk
  unfold x_l2i at hx; split at hx
  next x st =>
    intro H locs la cells slots hw hS hl h1 h2 h3 h4
    exact lv_l2i hc.1 hc.2.1 hd rfl (hk _ _ _ _ hx H locs la cells slots hw hS hl h1 h2 h3 h4)
  next => exact hx.elim
theorem s_lcmp (hd : decode mt.1 pc = .ok (.lcmp, 1)) : Snd mt pc (x_lcmp (pc + 1)) := by
  intro R p l e s m args below meth c D ca ad N0 S0 Q hc ro ls st M K hx hk
  unfold x_lcmp at hx; split at hx
  next y x st =>
    intro H locs la cells slots hw hS hl h1 h2 h3 h4
    exact W.lcmp hc.1 hc.2.1 hd (hk _ _ _ _ hx H locs la cells slots hw hS hl h1 h2 h3 h4)
  next => exact hx.elim
theorem s_dup (hd : decode mt.1 pc = .ok (.dup, 1)) : Snd mt pc (x_dup (pc + 1)) := by
  intro R p l e s m args below meth c D ca ad N0 S0 Q hc ro ls st M K hx hk
  unfold x_dup at hx; split at hx
  next x st =>
    intro H locs la cells slots hw hS hl h1 h2 h3 h4
    exact lv_dup hc.1 hc.2.1 hd (cv_cat ad (.int x)) (hk _ _ _ _ hx H locs la cells slots hw hS hl h1 h2 h3 h4)
  next x st =>
    intro H locs la cells slots hw hS hl h1 h2 h3 h4
    exact lv_dup hc.1 hc.2.1 hd (cv_cat ad (.ref x)) (hk _ _ _ _ hx H locs la cells slots hw hS hl h1 h2 h3 h4)
  next => exact hx.elim
theorem s_dup2 (hd : decode mt.1 pc = .ok (.dup2, 1)) : Snd mt pc (x_dup2 (pc + 1)) := by
  intro R p l e s m args below meth c D ca ad N0 S0 Q hc ro ls st M K hx hk
  unfold x_dup2 at hx; split at hx
  next y x st =>
    intro H locs la cells slots hw hS hl h1 h2 h3 h4
    exact lv_dup2_11 hc.1 hc.2.1 hd (cv_cat ad (.int y)) (cv_cat ad (.ref x)) (hk _ _ _ _ hx H locs la cells slots hw hS hl h1 h2 h3 h4)
  next => exact hx.elim
theorem s_pop (hd : decode mt.1 pc = .ok (.pop, 1)) : Snd mt pc (x_pop (pc + 1)) := by
  intro R p l e s m args below meth c D ca ad N0 S0 Q hc ro ls st M K hx hk
  unfold x_pop at hx; split at hx
  next x st =>
    intro H locs la cells slots hw hS hl h1 h2 h3 h4
    exact lv_pop hc.1 hc.2.1 hd (cv_cat ad (.int x)) (hk _ _ _ _ hx H locs la cells slots hw hS hl h1 h2 h3 h4)
  next => exact hx.elim
theorem s_iadd (hd : decode mt.1 pc = .ok (.iadd, 1)) : Snd mt pc (x_ii (pc + 1) (fun x y : Int32 => x + y)) := by
  intro R p l e s m args below meth c D ca ad N0 S0 Q hc ro ls st M K hx hk
  unfold x_ii at hx; split at hx
  next y x st =>
    intro H locs la cells slots hw hS hl h1 h2 h3 h4
    exact lv_iadd hc.1 hc.2.1 hd (hk _ _ _ _ hx H locs la cells slots hw hS hl h1 h2 h3 h4)
  next => exact hx.elim
theorem s_isub (hd : decode mt.1 pc = .ok (.isub, 1)) : Snd mt pc (x_ii (pc + 1) (fun x y : Int32 => x - y)) := by
  intro R p l e s m args below meth c D ca ad N0 S0 Q hc ro ls st M K hx hk
  unfold x_ii at hx; split at hx
  next y x st =>
    intro H locs la cells slots hw hS hl h1 h2 h3 h4
    exact lv_isub hc.1 hc.2.1 hd (hk _ _ _ _ hx H locs la cells slots hw hS hl h1 h2 h3 h4)
  next => exact hx.elim
theorem s_imul (hd : decode mt.1 pc = .ok (.imul, 1)) : Snd mt pc (x_ii (pc + 1) (fun x y : Int32 => x * y)) := by
  intro R p l e s m args below meth c D ca ad N0 S0 Q hc ro ls st M K hx hk
  unfold x_ii at hx; split at hx
  next y x st =>
    intro H locs la cells slots hw hS hl h1 h2 h3 h4
    exact lv_imul hc.1 hc.2.1 hd (hk _ _ _ _ hx H locs la cells slots hw hS hl h1 h2 h3 h4)
  next => exact hx.elim
theorem s_iand (hd : decode mt.1 pc = .ok (.iand, 1)) : Snd mt pc (x_ii (pc + 1) (fun x y : Int32 => x &&& y)) := by
  intro R p l e s m args below meth c D ca ad N0 S0 Q hc ro ls st M K hx hk
  unfold x_ii at hx; split at hx
  next y x st =>
    intro H locs la cells slots hw hS hl h1 h2 h3 h4
    exact lv_iand hc.1 hc.2.1 hd (hk _ _ _ _ hx H locs la cells slots hw hS hl h1 h2 h3 h4)
  next => exact hx.elim
theorem s_ior (hd : decode mt.1 pc = .ok (.ior, 1)) : Snd mt pc (x_ii (pc + 1) (fun x y : Int32 => x ||| y)) := by
  intro R p l e s m args below meth c D ca ad N0 S0 Q hc ro ls st M K hx hk
  unfold x_ii at hx; split at hx
  next y x st =>
    intro H locs la cells slots hw hS hl h1 h2 h3 h4
    exact lv_ior hc.1 hc.2.1 hd (hk _ _ _ _ hx H locs la cells slots hw hS hl h1 h2 h3 h4)
  next => exact hx.elim
theorem s_ixor (hd : decode mt.1 pc = .ok (.ixor, 1)) : Snd mt pc (x_ii (pc + 1) (fun x y : Int32 => x ^^^ y)) := by
  intro R p l e s m args below meth c D ca ad N0 S0 Q hc ro ls st M K hx hk
  unfold x_ii at hx; split at hx
  next y x st =>
    intro H locs la cells slots hw hS hl h1 h2 h3 h4
    exact lv_ixor hc.1 hc.2.1 hd (hk _ _ _ _ hx H locs la cells slots hw hS hl h1 h2 h3 h4)
  next => exact hx.elim
theorem s_ishl (hd : decode mt.1 pc = .ok (.ishl, 1)) : Snd mt pc (x_ii (pc + 1) (fun x y : Int32 => x <<< (y &&& 31))) := by
  intro R p l e s m args below meth c D ca ad N0 S0 Q hc ro ls st M K hx hk
  unfold x_ii at hx; split at hx
  next y x st =>
    intro H locs la cells slots hw hS hl h1 h2 h3 h4
    exact lv_ishl hc.1 hc.2.1 hd (hk _ _ _ _ hx H locs la cells slots hw hS hl h1 h2 h3 h4)
  next => exact hx.elim
theorem s_ishr (hd : decode mt.1 pc = .ok (.ishr, 1)) : Snd mt pc (x_ii (pc + 1) (fun x y : Int32 => x >>> (y &&& 31))) := by
  intro R p l e s m args below meth c D ca ad N0 S0 Q hc ro ls st M K hx hk
  unfold x_ii at hx; split at hx
  next y x st =>
    intro H locs la cells slots hw hS hl h1 h2 h3 h4
    exact lv_ishr hc.1 hc.2.1 hd (hk _ _ _ _ hx H locs la cells slots hw hS hl h1 h2 h3 h4)
  next => exact hx.elim
theorem s_iushr (hd : decode mt.1 pc = .ok (.iushr, 1)) : Snd mt pc (x_ii (pc + 1) ushr) := by
  intro R p l e s m args below meth c D ca ad N0 S0 Q hc ro ls st M K hx hk
  unfold x_ii at hx; split at hx
  next y x st =>
    intro H locs la cells slots hw hS hl h1 h2 h3 h4
    exact lv_iushr hc.1 hc.2.1 hd rfl (hk _ _ _ _ hx H locs la cells slots hw hS hl h1 h2 h3 h4)
  next => exact hx.elim
theorem s_idiv (hd : decode mt.1 pc = .ok (.idiv, 1)) : Snd mt pc (x_iq (pc + 1) (fun x y : Int32 => x / y)) := by
  intro R p l e s m args below meth c D ca ad N0 S0 Q hc ro ls st M K hx hk
  unfold x_iq at hx; split at hx
  next y x st =>
    intro H locs la cells slots hw hS hl h1 h2 h3 h4
    exact lv_idiv hc.1 hc.2.1 hd hx.1 (hk _ _ _ _ hx.2 H locs la cells slots hw hS hl h1 h2 h3 h4)
  next => exact hx.elim
theorem s_irem (hd : decode mt.1 pc = .ok (.irem, 1)) : Snd mt pc (x_iq (pc + 1) (fun x y : Int32 => x - x / y * y)) := by
  intro R p l e s m args below meth c D ca ad N0 S0 Q hc ro ls st M K hx hk
  unfold x_iq at hx; split at hx
  next y x st =>
    intro H locs la cells slots hw hS hl h1 h2 h3 h4
    exact lv_irem hc.1 hc.2.1 hd hx.1 (hk _ _ _ _ hx.2 H locs la cells slots hw hS hl h1 h2 h3 h4)
  next => exact hx.elim
theorem s_ineg (hd : decode mt.1 pc = .ok (.ineg, 1)) : Snd mt pc (x_i1 (pc + 1) (fun x : Int32 => -x)) := by
  intro R p l e s m args below meth c D ca ad N0 S0 Q hc ro ls st M K hx hk
  unfold x_i1 at hx; split at hx
  next x st =>
    intro H locs la cells slots hw hS hl h1 h2 h3 h4
    exact lv_ineg hc.1 hc.2.1 hd (hk _ _ _ _ hx H locs la cells slots hw hS hl h1 h2 h3 h4)
  next => exact hx.elim
theorem s_ladd (hd : decode mt.1 pc = .ok (.ladd, 1)) : Snd mt pc (x_l2 (pc + 1) (fun x y : Int64 => x + y)) := by
  intro R p l e s m args below meth c D ca ad N0 S0 Q hc ro ls st M K hx hk
  unfold x_l2 at hx; split at hx
  next y x st =>
    intro H locs la cells slots hw hS hl h1 h2 h3 h4
    exact lv_ladd hc.1 hc.2.1 hd (hk _ _ _ _ hx H locs la cells slots hw hS hl h1 h2 h3 h4)
  next => exact hx.elim
theorem s_lsub (hd : decode mt.1 pc = .ok (.lsub, 1)) : Snd mt pc (x_l2 (pc + 1) (fun x y : Int64 => x - y)) := by
  intro R p l e s m args below meth c D ca ad N0 S0 Q hc ro ls st M K hx hk
  unfold x_l2 at hx; split at hx
  next y x st =>
    intro H locs la cells slots hw hS hl h1 h2 h3 h4
    exact lv_lsub hc.1 hc.2.1 hd (hk _ _ _ _ hx H locs la cells slots hw hS hl h1 h2 h3 h4)
  next => exact hx.elim
theorem s_lmul (hd : decode mt.1 pc = .ok (.lmul, 1)) : Snd mt pc (x_l2 (pc + 1) (fun x y : Int64 => x * y)) := by
  intro R p l e s m args below meth c D ca ad N0 S0 Q hc ro ls st M K hx hk
  unfold x_l2 at hx; split at hx
  next y x st =>
    intro H locs la cells slots hw hS hl h1 h2 h3 h4
    exact lv_lmul hc.1 hc.2.1 hd (hk _ _ _ _ hx H locs la cells slots hw hS hl h1 h2 h3 h4)
  next => exact hx.elim
theorem s_land (hd : decode mt.1 pc = .ok (.land, 1)) : Snd mt pc (x_l2 (pc + 1) (fun x y : Int64 => x &&& y)) := by
  intro R p l e s m args below meth c D ca ad N0 S0 Q hc ro ls st M K hx hk
  unfold x_l2 at hx; split at hx
  next y x st =>
    intro H locs la cells slots hw hS hl h1 h2 h3 h4
    exact lv_land hc.1 hc.2.1 hd (hk _ _ _ _ hx H locs la cells slots hw hS hl h1 h2 h3 h4)
  next => exact hx.elim
theorem s_lor (hd : decode mt.1 pc = .ok (.lor, 1)) : Snd mt pc (x_l2 (pc + 1) (fun x y : Int64 => x ||| y)) := by
  intro R p l e s m args below meth c D ca ad N0 S0 Q hc ro ls st M K hx hk
  unfold x_l2 at hx; split at hx
  next y x st =>
    intro H locs la cells slots hw hS hl h1 h2 h3 h4
    exact lv_lor hc.1 hc.2.1 hd (hk _ _ _ _ hx H locs la cells slots hw hS hl h1 h2 h3 h4)
  next => exact hx.elim
theorem s_ldiv (hd : decode mt.1 pc = .ok (.ldiv, 1)) : Snd mt pc (x_lq (pc + 1) (fun x y : Int64 => x / y)) := by
  intro R p l e s m args below meth c D ca ad N0 S0 Q hc ro ls st M K hx hk
  unfold x_lq at hx; split at hx
  next y x st =>
    intro H locs la cells slots hw hS hl h1 h2 h3 h4
    exact lv_ldiv hc.1 hc.2.1 hd hx.1 (hk _ _ _ _ hx.2 H locs la cells slots hw hS hl h1 h2 h3 h4)
  next => exact hx.elim
theorem s_lrem (hd : decode mt.1 pc = .ok (.lrem, 1)) : Snd mt pc (x_lq (pc + 1) (fun x y : Int64 => x - x / y * y)) := by
  intro R p l e s m args below meth c D ca ad N0 S0 Q hc ro ls st M K hx hk
  unfold x_lq at hx; split at hx
  next y x st =>
    intro H locs la cells slots hw hS hl h1 h2 h3 h4
    exact lv_lrem hc.1 hc.2.1 hd hx.1 (hk _ _ _ _ hx.2 H locs la cells slots hw hS hl h1 h2 h3 h4)
  next => exact hx.elim
theorem s_lushr (hd : decode mt.1 pc = .ok (.lushr, 1)) : Snd mt pc (x_lh (pc + 1) lushr) := by
  intro R p l e s m args below meth c D ca ad N0 S0 Q hc ro ls st M K hx hk
  unfold x_lh at hx; split at hx
  next y x st =>
    intro H locs la cells slots hw hS hl h1 h2 h3 h4
    exact lv_lushr hc.1 hc.2.1 hd rfl (hk _ _ _ _ hx H locs la cells slots hw hS hl h1 h2 h3 h4)
  next => exact hx.elim
theorem s_lshl (hd : decode mt.1 pc = .ok (.lshl, 1)) : Snd mt pc (x_lh (pc + 1) (fun (x : Int64) (y : Int32) => x <<< (y.toInt64 &&& 63))) := by
  intro R p l e s m args below meth c D ca ad N0 S0 Q hc ro ls st M K hx hk
  unfold x_lh at hx; split at hx
  next y x st =>
    intro H locs la cells slots hw hS hl h1 h2 h3 h4
    exact lv_lshl hc.1 hc.2.1 hd rfl (hk _ _ _ _ hx H locs la cells slots hw hS hl h1 h2 h3 h4)
  next => exact hx.elim
end SND
end
section
/-! branches, switches -/
def x_ifn (tgt nx : Nat) (c : Int32 → Prop) : X := fun ls st M K _ => match st with
  | .int x :: st => (¬ c x → K tgt ls st M) ∧ (c x → K nx ls st M)
  | _ => False
def x_icn (tgt nx : Nat) (c : Int32 → Int32 → Prop) : X := fun ls st M K _ => match st with
  | .int y :: .int x :: st => (¬ c x y → K tgt ls st M) ∧ (c x y → K nx ls st M)
  | _ => False
section BRN
variable {mt : Mt} {pc : Nat}
theorem s_if_eq {off : Int} {tgt : Nat} (hd : decode mt.1 pc = .ok (.ifCond .eq off, 3)) (ht : (pc : Int) + off = (tgt : Int)) : Snd mt pc (x_if tgt (pc + 3) (fun x : Int32 => x = 0)) := by
  intro R p l e s m args below meth c D ca ad N0 S0 Q hc ro ls st M K hx hk
  unfold x_if at hx; split at hx
  next x st =>
    intro H locs la cells slots hw hS hl h1 h2 h3 h4
    exact lv_if_eq hc.1 hc.2.1 hd ht (fun h => hk _ _ _ _ (hx.1 h) H locs la cells slots hw hS hl h1 h2 h3 h4) (fun h => hk _ _ _ _ (hx.2 h) H locs la cells slots hw hS hl h1 h2 h3 h4)
  next => exact hx.elim
theorem s_ic_eq {off : Int} {tgt : Nat} (hd : decode mt.1 pc = .ok (.if_icmp .eq off, 3)) (ht : (pc : Int) + off = (tgt : Int)) : Snd mt pc (x_ic tgt (pc + 3) (fun x y : Int32 => x = y)) := by
  intro R p l e s m args below meth c D ca ad N0 S0 Q hc ro ls st M K hx hk
  unfold x_ic at hx; split at hx
  next y x st =>
    intro H locs la cells slots hw hS hl h1 h2 h3 h4
    exact lv_icmp_eq hc.1 hc.2.1 hd ht (fun h => hk _ _ _ _ (hx.1 h) H locs la cells slots hw hS hl h1 h2 h3 h4) (fun h => hk _ _ _ _ (hx.2 h) H locs la cells slots hw hS hl h1 h2 h3 h4)
  next => exact hx.elim
theorem s_if_ne {off : Int} {tgt : Nat} (hd : decode mt.1 pc = .ok (.ifCond .ne off, 3)) (ht : (pc : Int) + off = (tgt : Int)) : Snd mt pc (x_ifn tgt (pc + 3) (fun x : Int32 => x = 0)) := by
  intro R p l e s m args below meth c D ca ad N0 S0 Q hc ro ls st M K hx hk
  unfold x_ifn at hx; split at hx
  next x st =>
    intro H locs la cells slots hw hS hl h1 h2 h3 h4
    exact lv_if_ne hc.1 hc.2.1 hd ht (fun h => hk _ _ _ _ (hx.1 h) H locs la cells slots hw hS hl h1 h2 h3 h4) (fun h => hk _ _ _ _ (hx.2 h) H locs la cells slots hw hS hl h1 h2 h3 h4)
  next => exact hx.elim
theorem s_ic_ne {off : Int} {tgt : Nat} (hd : decode mt.1 pc = .ok (.if_icmp .ne off, 3)) (ht : (pc : Int) + off = (tgt : Int)) : Snd mt pc (x_icn tgt (pc + 3) (fun x y : Int32 => x = y)) := by
  intro R p l e s m args below meth c D ca ad N0 S0 Q hc ro ls st M K hx hk
  unfold x_icn at hx; split at hx
  next y x st =>
    intro H locs la cells slots hw hS hl h1 h2 h3 h4
    exact lv_icmp_ne hc.1 hc.2.1 hd ht (fun h => hk _ _ _ _ (hx.1 h) H locs la cells slots hw hS hl h1 h2 h3 h4) (fun h => hk _ _ _ _ (hx.2 h) H locs la cells slots hw hS hl h1 h2 h3 h4)
  next => exact hx.elim
theorem s_if_lt {off : Int} {tgt : Nat} (hd : decode mt.1 pc = .ok (.ifCond .lt off, 3)) (ht : (pc : Int) + off = (tgt : Int)) : Snd mt pc (x_if tgt (pc + 3) (fun x : Int32 => x < 0)) := by
  intro R p l e s m args below meth c D ca ad N0 S0 Q hc ro ls st M K hx hk
  unfold x_if at hx; split at hx
  next x st =>
    intro H locs la cells slots hw hS hl h1 h2 h3 h4
    exact lv_if_lt hc.1 hc.2.1 hd ht (fun h => hk _ _ _ _ (hx.1 h) H locs la cells slots hw hS hl h1 h2 h3 h4) (fun h => hk _ _ _ _ (hx.2 h) H locs la cells slots hw hS hl h1 h2 h3 h4)
  next => exact hx.elim
theorem s_ic_lt {off : Int} {tgt : Nat} (hd : decode mt.1 pc = .ok (.if_icmp .lt off, 3)) (ht : (pc : Int) + off = (tgt : Int)) : Snd mt pc (x_ic tgt (pc + 3) (fun x y : Int32 => x < y)) := by
  intro R p l e s m args below meth c D ca ad N0 S0 Q hc ro ls st M K hx hk
  unfold x_ic at hx; split at hx
  next y x st =>
    intro H locs la cells slots hw hS hl h1 h2 h3 h4
    exact lv_icmp_lt hc.1 hc.2.1 hd ht (fun h => hk _ _ _ _ (hx.1 h) H locs la cells slots hw hS hl h1 h2 h3 h4) (fun h => hk _ _ _ _ (hx.2 h) H locs la cells slots hw hS hl h1 h2 h3 h4)
  next => exact hx.elim
theorem s_if_ge {off : Int} {tgt : Nat} (hd : decode mt.1 pc = .ok (.ifCond .ge off, 3)) (ht : (pc : Int) + off = (tgt : Int)) : Snd mt pc (x_if tgt (pc + 3) (fun x : Int32 => 0 ≤ x)) := by
  intro R p l e s m args below meth c D ca ad N0 S0 Q hc ro ls st M K hx hk
  unfold x_if at hx; split at hx
  next x st =>
    intro H locs la cells slots hw hS hl h1 h2 h3 h4
    exact lv_if_ge hc.1 hc.2.1 hd ht (fun h => hk _ _ _ _ (hx.1 h) H locs la cells slots hw hS hl h1 h2 h3 h4) (fun h => hk _ _ _ _ (hx.2 h) H locs la cells slots hw hS hl h1 h2 h3 h4)
  next => exact hx.elim
theorem s_ic_ge {off : Int} {tgt : Nat} (hd : decode mt.1 pc = .ok (.if_icmp .ge off, 3)) (ht : (pc : Int) + off = (tgt : Int)) : Snd mt pc (x_ic tgt (pc + 3) (fun x y : Int32 => y ≤ x)) := by
  intro R p l e s m args below meth c D ca ad N0 S0 Q hc ro ls st M K hx hk
  unfold x_ic at hx; split at hx
  next y x st =>
    intro H locs la cells slots hw hS hl h1 h2 h3 h4
    exact lv_icmp_ge hc.1 hc.2.1 hd ht (fun h => hk _ _ _ _ (hx.1 h) H locs la cells slots hw hS hl h1 h2 h3 h4) (fun h => hk _ _ _ _ (hx.2 h) H locs la cells slots hw hS hl h1 h2 h3 h4)
  next => exact hx.elim
theorem s_if_gt {off : Int} {tgt : Nat} (hd : decode mt.1 pc = .ok (.ifCond .gt off, 3)) (ht : (pc : Int) + off = (tgt : Int)) : Snd mt pc (x_if tgt (pc + 3) (fun x : Int32 => 0 < x)) := by
  intro R p l e s m args below meth c D ca ad N0 S0 Q hc ro ls st M K hx hk
  unfold x_if at hx; split at hx
  next x st =>
    intro H locs la cells slots hw hS hl h1 h2 h3 h4
    exact lv_if_gt hc.1 hc.2.1 hd ht (fun h => hk _ _ _ _ (hx.1 h) H locs la cells slots hw hS hl h1 h2 h3 h4) (fun h => hk _ _ _ _ (hx.2 h) H locs la cells slots hw hS hl h1 h2 h3 h4)
  next => exact hx.elim
theorem s_ic_gt {off : Int} {tgt : Nat} (hd : decode mt.1 pc = .ok (.if_icmp .gt off, 3)) (ht : (pc : Int) + off = (tgt : Int)) : Snd mt pc (x_ic tgt (pc + 3) (fun x y : Int32 => y < x)) := by
  intro R p l e s m args below meth c D ca ad N0 S0 Q hc ro ls st M K hx hk
  unfold x_ic at hx; split at hx
  next y x st =>
    intro H locs la cells slots hw hS hl h1 h2 h3 h4
    exact lv_icmp_gt hc.1 hc.2.1 hd ht (fun h => hk _ _ _ _ (hx.1 h) H locs la cells slots hw hS hl h1 h2 h3 h4) (fun h => hk _ _ _ _ (hx.2 h) H locs la cells slots hw hS hl h1 h2 h3 h4)
  next => exact hx.elim
theorem s_if_le {off : Int} {tgt : Nat} (hd : decode mt.1 pc = .ok (.ifCond .le off, 3)) (ht : (pc : Int) + off = (tgt : Int)) : Snd mt pc (x_if tgt (pc + 3) (fun x : Int32 => x ≤ 0)) := by
  intro R p l e s m args below meth c D ca ad N0 S0 Q hc ro ls st M K hx hk
  unfold x_if at hx; split at hx
  next x st =>
    intro H locs la cells slots hw hS hl h1 h2 h3 h4
    exact lv_if_le hc.1 hc.2.1 hd ht (fun h => hk _ _ _ _ (hx.1 h) H locs la cells slots hw hS hl h1 h2 h3 h4) (fun h => hk _ _ _ _ (hx.2 h) H locs la cells slots hw hS hl h1 h2 h3 h4)
  next => exact hx.elim
theorem s_ic_le {off : Int} {tgt : Nat} (hd : decode mt.1 pc = .ok (.if_icmp .le off, 3)) (ht : (pc : Int) + off = (tgt : Int)) : Snd mt pc (x_ic tgt (pc + 3) (fun x y : Int32 => x ≤ y)) := by
  intro R p l e s m args below meth c D ca ad N0 S0 Q hc ro ls st M K hx hk
  unfold x_ic at hx; split at hx
  next y x st =>
    intro H locs la cells slots hw hS hl h1 h2 h3 h4
    exact lv_icmp_le hc.1 hc.2.1 hd ht (fun h => hk _ _ _ _ (hx.1 h) H locs la cells slots hw hS hl h1 h2 h3 h4) (fun h => hk _ _ _ _ (hx.2 h) H locs la cells slots hw hS hl h1 h2 h3 h4)
  next => exact hx.elim
theorem swc_at {P : Nat → Prop} {x : Int32} : ∀ {lo : Int} {ts : List Nat}, swc P x lo ts → ∀ (i : Nat) (t : Nat), ts[i]? = some t → x.toInt = lo + i → P t
  | lo, [], _, i, t, h, _ => by simp at h
  | lo, a :: r, hs, 0, t, h, e => by simp at h; subst h; exact hs.1 (by simpa using e)
  | lo, a :: r, hs, i + 1, t, h, e => swc_at hs.2 i t (by simpa using h) (by push_cast at e ⊢; omega)
theorem s_sw {lo hi dflt : Int} {offs : Array Int} {ts : List Nat} {len d : Nat} (hd : decode mt.1 pc = .ok (.tableswitch dflt lo hi offs, len)) (h0 : ts.length = (hi + 1 - lo).toNat) (ho : ∀ i, i < ts.length → ∃ off t, offs[i]? = some off ∧ ts[i]? = some t ∧ (pc : Int) + off = (t : Int)) (ht : (pc : Int) + dflt = (d : Int)) : Snd mt pc (x_sw lo hi ts d) := by
  intro R p l e s m args below meth c D ca ad N0 S0 Q hc ro ls st M K hx hk
  unfold x_sw at hx; split at hx
  next x st =>
    intro H locs la cells slots hw hS hl h1 h2 h3 h4
    by_cases ha : x.toInt < lo ∨ hi < x.toInt
    · exact lv_tableOut hc.1 hc.2.1 hd ha ht (hk _ _ _ _ (hx.2 ha) H locs la cells slots hw hS hl h1 h2 h3 h4)
    · have ha1 : ¬ x.toInt < lo := fun h => ha (Or.inl h)
      have ha2 : ¬ hi < x.toInt := fun h => ha (Or.inr h)
      have hi' : (x.toInt - lo).toNat < ts.length := by rw [h0]; omega
      obtain ⟨off, t, o1, o2, o3⟩ := ho _ hi'
      exact lv_tableIn hc.1 hc.2.1 hd ha1 ha2 o1 o3 (hk _ _ _ _ (swc_at hx.1 _ t o2 (by omega)) H locs la cells slots hw hS hl h1 h2 h3 h4)
  next => exact hx.elim
end BRN
end
section
/-! the world's cells, and what a write makes of them -/
theorem wsM_get {ca : Nat → ClassId} {ad : Nat → Nat} {M : Mem} {k : Nat} (h : k < M.1.1) : (wsM ca ad M)[k]? = some (ad k, cEnc ca ad M k) := by
  unfold wsM
  rw [List.getElem?_map, List.getElem?_range h]; rfl
theorem wsM_len {ca : Nat → ClassId} {ad : Nat → Nat} {M : Mem} : (wsM ca ad M).length = M.1.1 := by simp [wsM]
theorem wsM_ext {ca : Nat → ClassId} {ad : Nat → Nat} {M : Mem} {w : va_W} (hl : w.length = M.1.1) (h : ∀ k, k < M.1.1 → w[k]? = some (ad k, cEnc ca ad M k)) : w = wsM ca ad M := by
  apply List.ext_getElem?
  intro k
  by_cases hk : k < M.1.1
  · rw [h k hk, wsM_get hk]
  · rw [List.getElem?_eq_none (by omega), List.getElem?_eq_none (by rw [wsM_len]; omega)]
theorem cEnc_obj {ca : Nat → ClassId} {ad : Nat → Nat} {M : Mem} {k ci : Nat} (h : M.1.2.2.1 k = (0, ci)) : cEnc ca ad M k = .inr (ci, fsM ad M ci k) := by simp [cEnc, h]
theorem cEnc_arr {ca : Nat → ClassId} {ad : Nat → Nat} {M : Mem} {k t : Nat} (h : (M.1.2.2.1 k).1 = t) (h0 : t ≠ 0) (h3 : t ≠ 3) : cEnc ca ad M k = .inl (ca t, ln M.1 k, .inl (M.2.1 k)) := by simp [cEnc, h, h0, h3, ln]
theorem cEnc_ref {ca : Nat → ClassId} {ad : Nat → Nat} {M : Mem} {k : Nat} (h : (M.1.2.2.1 k).1 = 3) : cEnc ca ad M k = .inl (ca 3, ln M.1 k, .inr (.inr (.inr (.inr (fun j => rO ad (M.1.2.2.2 k j)))))) := by simp [cEnc, h, ln]
theorem wsM_obj {ca : Nat → ClassId} {ad : Nat → Nat} {M : Mem} {k ci : Nat} (h : tO M.1 k ci) : (wsM ca ad M)[k]? = some (ad k, .inr (ci, fsM ad M ci k)) := by rw [wsM_get h.1, cEnc_obj h.2]
theorem wsM_arr {ca : Nat → ClassId} {ad : Nat → Nat} {M : Mem} {k t : Nat} (h : tA M.1 k t) (h0 : t ≠ 0) (h3 : t ≠ 3) : (wsM ca ad M)[k]? = some (ad k, .inl (ca t, ln M.1 k, .inl (M.2.1 k))) := by rw [wsM_get h.1, cEnc_arr h.2 h0 h3]
theorem wsM_ref {ca : Nat → ClassId} {ad : Nat → Nat} {M : Mem} {k : Nat} (h : tA M.1 k 3) : (wsM ca ad M)[k]? = some (ad k, .inl (ca 3, ln M.1 k, .inr (.inr (.inr (.inr (fun j => rO ad (M.1.2.2.2 k j))))))) := by rw [wsM_get h.1, cEnc_ref h.2]
theorem fsM_get {ad : Nat → Nat} {M : Mem} {ci k j : Nat} (h : j < nfC ci) : (fsM ad M ci k)[j]? = some (fV ad M ci k j) := by
  unfold fsM
  rw [List.getElem?_map, List.getElem?_range h]; rfl
theorem fsM_len {ad : Nat → Nat} {M : Mem} {ci k : Nat} : (fsM ad M ci k).length = nfC ci := by simp [fsM]
theorem fsM_set {ad : Nat → Nat} {M M' : Mem} {ci k j : Nat} {v : Value} (hv : j < nfC ci → fV ad M' ci k j = v) (ho : ∀ i, i ≠ j → fV ad M' ci k i = fV ad M ci k i) : (fsM ad M ci k).set j v = fsM ad M' ci k := by
  apply List.ext_getElem?
  intro i
  by_cases hi : i < nfC ci
  · rw [fsM_get hi]
    by_cases e : i = j
    · subst e
      rw [List.getElem?_set_self (by rw [fsM_len]; exact hi), hv hi]
    · rw [List.getElem?_set_ne (Ne.symm e), fsM_get hi, ho i e]
  · rw [List.getElem?_eq_none (by rw [List.length_set, fsM_len]; omega), List.getElem?_eq_none (by rw [fsM_len]; omega)]
/-- one place's cell is another: the world of the new memory -/
theorem wsM_set {ca : Nat → ClassId} {ad : Nat → Nat} {M M' : Mem} {k : Nat} {E : va_E} (hn : M'.1.1 = M.1.1) (he : cEnc ca ad M' k = E) (ho : ∀ q, q ≠ k → cEnc ca ad M' q = cEnc ca ad M q) : (wsM ca ad M).set k (ad k, E) = wsM ca ad M' := by
  refine wsM_ext (by rw [List.length_set, wsM_len, hn]) fun q hq => ?_
  by_cases e : q = k
  · subst e
    rw [List.getElem?_set_self (by rw [wsM_len]; omega), he]
  · rw [List.getElem?_set_ne (Ne.symm e), wsM_get (by omega), ho q e]
theorem wsM_D {ca : Nat → ClassId} {ad : Nat → Nat} {M : Mem} (hn : M.1.1 ≤ 9000) (had : ∀ k, k < 9000 → ad k = ad 0 + k) : va_D (AA ad) (wsM ca ad M) := by
  have key : ∀ (k : Nat) (q : Nat × va_E), (wsM ca ad M)[k]? = some q → k < M.1.1 ∧ q.1 = ad k := by
    intro k q h
    have hk : k < M.1.1 := by
      have := (List.getElem?_eq_some_iff.mp h).1
      rwa [wsM_len] at this
    rw [wsM_get hk] at h
    cases h
    exact ⟨hk, rfl⟩
  refine ⟨fun i j p q hi hj e => ?_, fun k q hk => ?_⟩
  · obtain ⟨i1, i2⟩ := key i p hi
    obtain ⟨j1, j2⟩ := key j q hj
    rw [i2, j2, had i (by omega), had j (by omega)] at e
    omega
  · obtain ⟨k1, k2⟩ := key k q hk
    show ad 0 ≤ q.1
    rw [k2, had k (by omega)]
    omega
theorem cv_ref {ad : Nat → Nat} {k : Nat} (h : k < 9000) : cv ad (.ref k) = .ref (ad k) := by simp [cv, rO, va_rf, show ¬ k = 9999 by omega]
theorem cv_ref' {ad : Nat → Nat} {k : Nat} (h : ¬ k = 9999) : cv ad (.ref k) = .ref (ad k) := by simp [cv, rO, va_rf, h]
theorem fV_congr {ad : Nat → Nat} {M M' : Mem} {ci k j : Nat} (h1 : M'.2.1 k j = M.2.1 k j) (h2 : M'.2.2 k j = M.2.2 k j) (h3 : M'.1.2.2.2 k j = M.1.2.2.2 k j) : fV ad M' ci k j = fV ad M ci k j := by simp [fV, h1, h2, h3]
theorem cEnc_congr {ca : Nat → ClassId} {ad : Nat → Nat} {M M' : Mem} {k : Nat} (h0 : M'.1.2.2.1 k = M.1.2.2.1 k) (h1 : M'.2.1 k = M.2.1 k) (h2 : M'.2.2 k = M.2.2 k) (h3 : M'.1.2.2.2 k = M.1.2.2.2 k) : cEnc ca ad M' k = cEnc ca ad M k := by
  have hf : ∀ ci, fV ad M' ci k = fV ad M ci k := fun ci => funext fun j => by simp only [fV, h1, h2, h3]
  simp only [cEnc, h0, h1, h3, fsM, hf]
/-- the heap is no larger than what was made -/
theorem W.size {p : Program} {l : Launch} {e : Env} {R : Room} {s : State} {m : MethodId} {args : Array Value} {below : List Frame} {meth : Method} {c : Code} {H : Heap} {locs : List Loc} {cells slots : Nat} {Q : State → Prop} {g : JFrame} (h : H.size ≤ s.heap.size + cells → W p l e R s m args below meth c H locs cells slots Q g) : W p l e R s m args below meth c H locs cells slots Q g := by
  intro T hT X
  have hs := X.same.2.2.1
  have hs' : T.heap.size ≤ s.heap.size + cells := hs
  exact h (by rw [← hT]; exact hs') T hT X
theorem Wd_size {D : va_G} {ca : Nat → ClassId} {ad : Nat → Nat} {M : Mem} {H : Heap} {s : State} {locs : List Loc} {cells N0 : Nat} (hw : Wd D ca ad M H) (had : ∀ k, k < 9000 → ad k = ad 0 + k) (hS : va_S (AA ad) s.heap H locs) (h0 : s.heap.size = ad 0 + N0) (h1 : N0 + cells = M.1.1) (hu : H.size ≤ s.heap.size + cells) : H.size = ad 0 + M.1.1 := by
  by_cases hz : M.1.1 = 0
  · have := hS.1
    omega
  · have hk : M.1.1 - 1 < M.1.1 := by omega
    have := (hw.1 _ _ (wsM_get (ca := ca) (ad := ad) hk)).lt
    have h9 := hw.2
    simp only [] at this
    rw [had _ (by omega)] at this
    omega
end
section
/-! the classes, by their number -/
def RCl : Nat → String := fun ci => match ci with
  | 0 => RX0 | 1 => RX1 | 2 => RX2 | 3 => RX3 | 4 => RX4 | 5 => RX5 | 6 => RX6 | 7 => RX7 | 8 => RX8 | 9 => RX9 | _ => RX10
def TCl : Nat → u_T := fun ci => match ci with
  | 0 => TX0 | 1 => TX1 | 2 => TX2 | 3 => TX3 | 4 => TX4 | 5 => TX5 | 6 => TX6 | 7 => TX7 | 8 => TX8 | 9 => TX9 | _ => TX10
theorem cl_at {ci : Nat} (h : ci < 11) : kCl[ci]? = some (RCl ci, TCl ci, nfC ci) := by
  match ci, h with
  | 0, _ => rfl
  | 1, _ => rfl
  | 2, _ => rfl
  | 3, _ => rfl
  | 4, _ => rfl
  | 5, _ => rfl
  | 6, _ => rfl
  | 7, _ => rfl
  | 8, _ => rfl
  | 9, _ => rfl
  | 10, _ => rfl
theorem cl_ty {ci : Nat} (h : ci < 11) : ∀ k, k < nfC ci → parseFieldDescriptor (TCl ci k).2.2.1 = some (tyC ci k) := by
  match ci, h with
  | 0, _ => exact tyX0_ok
  | 1, _ => exact tyX1_ok
  | 2, _ => exact tyX2_ok
  | 3, _ => exact tyX3_ok
  | 4, _ => exact tyX4_ok
  | 5, _ => exact tyX5_ok
  | 6, _ => exact tyX6_ok
  | 7, _ => exact tyX7_ok
  | 8, _ => exact tyX8_ok
  | 9, _ => exact tyX9_ok
  | 10, _ => exact tyX10_ok
theorem cl_nm {ci : Nat} (h : ci < 11) : ∀ a, a < nfC ci → ∀ b, b < nfC ci → a ≠ b → (TCl ci a).2.1 ≠ (TCl ci b).2.1 := by
  match ci, h with
  | 0, _ => exact nmX0
  | 1, _ => exact nmX1
  | 2, _ => exact nmX2
  | 3, _ => exact nmX3
  | 4, _ => exact nmX4
  | 5, _ => exact nmX5
  | 6, _ => exact nmX6
  | 7, _ => exact nmX7
  | 8, _ => exact nmX8
  | 9, _ => exact nmX9
  | 10, _ => exact nmX10
theorem tgs {ws : List Cond} (ps : List Nat) (hp : ws = ps.filterMap (fun i => lw_tbl[i]?)) (hg : ws.all goodWord = true) : ∀ w ∈ ws, w ∈ tblG := by
  intro w hw
  have h1 := List.all_eq_true.mp hg w hw
  rw [hp] at hw
  obtain ⟨i, -, hi⟩ := List.mem_filterMap.mp hw
  exact tg i hi h1
theorem cl_in0 : ∀ w ∈ u_ws RX0 TX0 3, w ∈ tblG := tgs [230, 232, 234] (by decide +kernel) (by decide +kernel)
theorem cl_in1 : ∀ w ∈ u_ws RX1 TX1 5, w ∈ tblG := tgs [183, 185, 187, 189, 191] (by decide +kernel) (by decide +kernel)
theorem cl_in2 : ∀ w ∈ u_ws RX2 TX2 0, w ∈ tblG := tgs [] (by decide +kernel) (by decide +kernel)
theorem cl_in3 : ∀ w ∈ u_ws RX3 TX3 7, w ∈ tblG := tgs [87, 89, 91, 93, 95, 97, 99] (by decide +kernel) (by decide +kernel)
theorem cl_in4 : ∀ w ∈ u_ws RX4 TX4 3, w ∈ tblG := tgs [247, 249, 251] (by decide +kernel) (by decide +kernel)
theorem cl_in5 : ∀ w ∈ u_ws RX5 TX5 8, w ∈ tblG := tgs [151, 153, 155, 157, 159, 161, 163, 165] (by decide +kernel) (by decide +kernel)
theorem cl_in6 : ∀ w ∈ u_ws RX6 TX6 2, w ∈ tblG := tgs [212, 214] (by decide +kernel) (by decide +kernel)
theorem cl_in7 : ∀ w ∈ u_ws RX7 TX7 3, w ∈ tblG := tgs [108, 110, 112] (by decide +kernel) (by decide +kernel)
theorem cl_in8 : ∀ w ∈ u_ws RX8 TX8 1, w ∈ tblG := tgs [201] (by decide +kernel) (by decide +kernel)
theorem cl_in9 : ∀ w ∈ u_ws RX9 TX9 11, w ∈ tblG := tgs [265, 267, 269, 271, 273, 275, 277, 279, 281, 283, 285] (by decide +kernel) (by decide +kernel)
theorem cl_in10 : ∀ w ∈ u_ws RX10 TX10 26, w ∈ tblG := tgs [722, 724, 726, 728, 730, 732, 734, 736, 738, 740, 742, 744, 746, 748, 750, 752, 754, 756, 758, 760, 762, 764, 766, 768, 770, 772] (by decide +kernel) (by decide +kernel)
theorem cl_in {ci : Nat} (h : ci < 11) : ∀ w ∈ u_ws (RCl ci) (TCl ci) (nfC ci), w ∈ tblG := by
  match ci, h with
  | 0, _ => exact cl_in0
  | 1, _ => exact cl_in1
  | 2, _ => exact cl_in2
  | 3, _ => exact cl_in3
  | 4, _ => exact cl_in4
  | 5, _ => exact cl_in5
  | 6, _ => exact cl_in6
  | 7, _ => exact cl_in7
  | 8, _ => exact cl_in8
  | 9, _ => exact cl_in9
  | 10, _ => exact cl_in10
theorem tw_nat : Cond.native arraycopyName ∈ tblG := tg 347 (by decide +kernel) (by decide +kernel)
theorem tw_stat : Cond.static arraycopyName ∈ tblG := tg 346 (by decide +kernel) (by decide +kernel)
theorem tw_sys : Cond.initialized "java/lang/System" ∈ tblG := tg 52 (by decide +kernel) (by decide +kernel)
section HCP
variable {mt : Mt} {p : Program} {s : State} {m : MethodId} {args : Array Value} {meth : Method} {c : Code} {D : va_G} {ca : Nat → ClassId} {ad : Nat → Nat} {N0 S0 : Nat}
theorem HC.ts (h : HC mt p s m args meth c D ca ad N0 S0) : ∀ w ∈ tblG, w.before args s = true := h.2.2.2.2.1
theorem HC.own (h : HC mt p s m args meth c D ca ad N0 S0) : s.vm.findClass mt.2.1 = some m.cls := h.2.2.2.1
theorem HC.ev (h : HC mt p s m args meth c D ca ad N0 S0) : Ev D ca ad mt.2.2.2.2.2.2.1 s := h.2.2.2.2.2.2.2.2.1
theorem HC.K (h : HC mt p s m args meth c D ca ad N0 S0) : va_K D kCl (tysC ca) s := h.ev.1
theorem HC.adr (h : HC mt p s m args meth c D ca ad N0 S0) : ∀ k, k < 9000 → ad k = ad 0 + k := h.ev.2.1
theorem HC.sz (h : HC mt p s m args meth c D ca ad N0 S0) : s.heap.size = ad 0 + N0 := h.2.2.2.2.2.2.2.2.2.1
end HCP
section CEL
variable {mt : Mt} {pc : Nat}
theorem s_gI {ci j idx : Nat} (hd : decode mt.1 pc = .ok (.getfield idx, 3)) (hci : ci < 11) (hj : j < nfC ci) (h0 : fkOf (tyC ci j) = 0) (hlink : Cond.fieldLink mt.2.1 idx (TCl ci j).1 (TCl ci j).2.1 (TCl ci j).2.2.1 ∈ tblG) : Snd mt pc (x_gI ci j (pc + 3)) := by
  intro R p l e s m args below meth c D ca ad N0 S0 Q hc ro ls st M K hx hk
  unfold x_gI at hx; split at hx
  next k st =>
    intro H locs la cells slots hw hS hl h1 h2 h3 h4
    rw [List.map_cons, cv_ref (Nat.lt_of_lt_of_le hx.1.1 hw.2)]
    exact va_get hc.1 hc.2.1 hc.ts (cl_in hci) hc.own hc.K hw.1 k (wsM_obj hx.1) (cl_at hci) j hj (hc.ts _ hlink) (fun _ h => h) (v := .int (M.2.1 k j)) (by rw [fsM_get hj]; simp [fV, h0]) hd (hk _ _ _ _ hx.2 H locs la cells slots hw hS hl h1 h2 h3 h4)
  next => exact hx.elim
theorem s_gL {ci j idx : Nat} (hd : decode mt.1 pc = .ok (.getfield idx, 3)) (hci : ci < 11) (hj : j < nfC ci) (h0 : fkOf (tyC ci j) = 1) (hlink : Cond.fieldLink mt.2.1 idx (TCl ci j).1 (TCl ci j).2.1 (TCl ci j).2.2.1 ∈ tblG) : Snd mt pc (x_gL ci j (pc + 3)) := by
  intro R p l e s m args below meth c D ca ad N0 S0 Q hc ro ls st M K hx hk
  unfold x_gL at hx; split at hx
  next k st =>
    intro H locs la cells slots hw hS hl h1 h2 h3 h4
    rw [List.map_cons, cv_ref (Nat.lt_of_lt_of_le hx.1.1 hw.2)]
    exact va_get hc.1 hc.2.1 hc.ts (cl_in hci) hc.own hc.K hw.1 k (wsM_obj hx.1) (cl_at hci) j hj (hc.ts _ hlink) (fun _ h => h) (v := .long (M.2.2 k j)) (by rw [fsM_get hj]; simp [fV, h0]) hd (hk _ _ _ _ hx.2 H locs la cells slots hw hS hl h1 h2 h3 h4)
  next => exact hx.elim
theorem s_gR {ci j idx : Nat} (hd : decode mt.1 pc = .ok (.getfield idx, 3)) (hci : ci < 11) (hj : j < nfC ci) (h0 : fkOf (tyC ci j) = 2) (hlink : Cond.fieldLink mt.2.1 idx (TCl ci j).1 (TCl ci j).2.1 (TCl ci j).2.2.1 ∈ tblG) : Snd mt pc (x_gR ci j (pc + 3)) := by
  intro R p l e s m args below meth c D ca ad N0 S0 Q hc ro ls st M K hx hk
  unfold x_gR at hx; split at hx
  next k st =>
    intro H locs la cells slots hw hS hl h1 h2 h3 h4
    rw [List.map_cons, cv_ref (Nat.lt_of_lt_of_le hx.1.1 hw.2)]
    exact va_get hc.1 hc.2.1 hc.ts (cl_in hci) hc.own hc.K hw.1 k (wsM_obj hx.1) (cl_at hci) j hj (hc.ts _ hlink) (fun _ h => h) (v := cv ad (.ref (sR M.1 k j))) (by rw [fsM_get hj]; simp [fV, h0]) hd (hk _ _ _ _ hx.2 H locs la cells slots hw hS hl h1 h2 h3 h4)
  next => exact hx.elim
theorem s_pI {ci j idx : Nat} (hd : decode mt.1 pc = .ok (.putfield idx, 3)) (hci : ci < 11) (hj : j < nfC ci) (h0 : tyC ci j = .int) (hfin : (TCl ci j).2.2.2 = false) (hlink : Cond.fieldLink mt.2.1 idx (TCl ci j).1 (TCl ci j).2.1 (TCl ci j).2.2.1 ∈ tblG) : Snd mt pc (x_pI ci j (pc + 3)) := by
  intro R p l e s m args below meth c D ca ad N0 S0 Q hc ro ls st M K hx hk
  unfold x_pI at hx; split at hx
  next x k st =>
    intro H locs la cells slots hw hS hl h1 h2 h3 h4
    rw [List.map_cons, List.map_cons, cv_ref (Nat.lt_of_lt_of_le hx.1.1 hw.2)]
    refine va_put hc.1 hc.2.1 hc.ts (cl_in hci) (tyC ci) (cl_ty hci) (cl_nm hci) hc.own hc.K hw.1 (wsM_D hw.2 hc.adr) hS k (wsM_obj hx.1) (cl_at hci) j hj (hc.ts _ hlink) (fun _ h => h) hfin (v := .int x) (by rw [cl_ty hci j hj, h0]) rfl rfl (by rw [fsM_len]; exact hj) hd (fun H1 locs1 hP1 hD1 hS1 => ?_)
    have e : (wsM ca ad M).set k (ad k, .inr (ci, (fsM ad M ci k).set j (.int x))) = wsM ca ad (M.1, mS M.2.1 k (upd (M.2.1 k) j x), M.2.2) := by
      refine wsM_set rfl ?_ fun q hq => cEnc_congr rfl (mS_n hq) rfl rfl
      rw [cEnc_obj (M := (M.1, mS M.2.1 k (upd (M.2.1 k) j x), M.2.2)) hx.1.2, fsM_set (j := j) (v := .int x) (M' := (M.1, mS M.2.1 k (upd (M.2.1 k) j x), M.2.2))]
      · intro _; simp [fV, h0, fkOf, mS_s, upd]
      · intro i hi; exact fV_congr (by simp [mS_s, upd, hi]) rfl rfl
    rw [e] at hP1
    exact hk _ _ _ _ hx.2 H1 locs1 la cells slots ⟨hP1, hw.2⟩ hS1 hl h1 h2 h3 h4
  next => exact hx.elim
theorem s_pZ {ci j idx : Nat} (hd : decode mt.1 pc = .ok (.putfield idx, 3)) (hci : ci < 11) (hj : j < nfC ci) (h0 : tyC ci j = .boolean) (hfin : (TCl ci j).2.2.2 = false) (hlink : Cond.fieldLink mt.2.1 idx (TCl ci j).1 (TCl ci j).2.1 (TCl ci j).2.2.1 ∈ tblG) : Snd mt pc (x_pZ ci j (pc + 3)) := by
  intro R p l e s m args below meth c D ca ad N0 S0 Q hc ro ls st M K hx hk
  unfold x_pZ at hx; split at hx
  next x k st =>
    intro H locs la cells slots hw hS hl h1 h2 h3 h4
    rw [List.map_cons, List.map_cons, cv_ref (Nat.lt_of_lt_of_le hx.1.1 hw.2)]
    refine va_put hc.1 hc.2.1 hc.ts (cl_in hci) (tyC ci) (cl_ty hci) (cl_nm hci) hc.own hc.K hw.1 (wsM_D hw.2 hc.adr) hS k (wsM_obj hx.1) (cl_at hci) j hj (hc.ts _ hlink) (fun _ h => h) hfin (ty := .boolean) (v := .int x) (by rw [cl_ty hci j hj, h0]) (by rcases hx.2.1 with h | h <;> subst h <;> rfl) (by rcases hx.2.1 with h | h <;> subst h <;> rfl) (by rw [fsM_len]; exact hj) hd (fun H1 locs1 hP1 hD1 hS1 => ?_)
    have e : (wsM ca ad M).set k (ad k, .inr (ci, (fsM ad M ci k).set j (.int x))) = wsM ca ad (M.1, mS M.2.1 k (upd (M.2.1 k) j x), M.2.2) := by
      refine wsM_set rfl ?_ fun q hq => cEnc_congr rfl (mS_n hq) rfl rfl
      rw [cEnc_obj (M := (M.1, mS M.2.1 k (upd (M.2.1 k) j x), M.2.2)) hx.1.2, fsM_set (j := j) (v := .int x) (M' := (M.1, mS M.2.1 k (upd (M.2.1 k) j x), M.2.2))]
      · intro _; simp [fV, h0, fkOf, mS_s, upd]
      · intro i hi; exact fV_congr (by simp [mS_s, upd, hi]) rfl rfl
    rw [e] at hP1
    exact hk _ _ _ _ hx.2.2 H1 locs1 la cells slots ⟨hP1, hw.2⟩ hS1 hl h1 h2 h3 h4
  next => exact hx.elim
theorem s_pL {ci j idx : Nat} (hd : decode mt.1 pc = .ok (.putfield idx, 3)) (hci : ci < 11) (hj : j < nfC ci) (h0 : tyC ci j = .long) (hfin : (TCl ci j).2.2.2 = false) (hlink : Cond.fieldLink mt.2.1 idx (TCl ci j).1 (TCl ci j).2.1 (TCl ci j).2.2.1 ∈ tblG) : Snd mt pc (x_pL ci j (pc + 3)) := by
  intro R p l e s m args below meth c D ca ad N0 S0 Q hc ro ls st M K hx hk
  unfold x_pL at hx; split at hx
  next x k st =>
    intro H locs la cells slots hw hS hl h1 h2 h3 h4
    rw [List.map_cons, List.map_cons, cv_ref (Nat.lt_of_lt_of_le hx.1.1 hw.2)]
    refine va_put hc.1 hc.2.1 hc.ts (cl_in hci) (tyC ci) (cl_ty hci) (cl_nm hci) hc.own hc.K hw.1 (wsM_D hw.2 hc.adr) hS k (wsM_obj hx.1) (cl_at hci) j hj (hc.ts _ hlink) (fun _ h => h) hfin (v := .long x) (by rw [cl_ty hci j hj, h0]) rfl rfl (by rw [fsM_len]; exact hj) hd (fun H1 locs1 hP1 hD1 hS1 => ?_)
    have e : (wsM ca ad M).set k (ad k, .inr (ci, (fsM ad M ci k).set j (.long x))) = wsM ca ad (M.1, M.2.1, mS M.2.2 k (vp_updL (M.2.2 k) j x)) := by
      refine wsM_set rfl ?_ fun q hq => cEnc_congr rfl rfl (mS_n hq) rfl
      rw [cEnc_obj (M := (M.1, M.2.1, mS M.2.2 k (vp_updL (M.2.2 k) j x))) hx.1.2, fsM_set (j := j) (v := .long x) (M' := (M.1, M.2.1, mS M.2.2 k (vp_updL (M.2.2 k) j x)))]
      · intro _; simp [fV, h0, fkOf, mS_s, vp_updL]
      · intro i hi; exact fV_congr rfl (by simp [mS_s, vp_updL, hi]) rfl
    rw [e] at hP1
    exact hk _ _ _ _ hx.2 H1 locs1 la cells slots ⟨hP1, hw.2⟩ hS1 hl h1 h2 h3 h4
  next => exact hx.elim
theorem s_ia (hd : decode mt.1 pc = .ok (.iaload, 1)) : Snd mt pc (x_ia (pc + 1)) := by
  intro R p l e s m args below meth c D ca ad N0 S0 Q hc ro ls st M K hx hk
  unfold x_ia at hx; split at hx
  next i k st =>
    intro H locs la cells slots hw hS hl h1 h2 h3 h4
    rw [List.map_cons, List.map_cons, cv_ref (Nat.lt_of_lt_of_le hx.1.1 hw.2)]
    exact va_iald hc.1 hc.2.1 hc.K hw.1 k 0 (wsM_arr hx.1 (by decide) (by decide)) rfl hx.2.1 hd (hk _ _ _ _ hx.2.2 H locs la cells slots hw hS hl h1 h2 h3 h4)
  next => exact hx.elim
theorem s_za (hd : decode mt.1 pc = .ok (.baload, 1)) : Snd mt pc (x_za (pc + 1)) := by
  intro R p l e s m args below meth c D ca ad N0 S0 Q hc ro ls st M K hx hk
  unfold x_za at hx; split at hx
  next i k st =>
    intro H locs la cells slots hw hS hl h1 h2 h3 h4
    rw [List.map_cons, List.map_cons, cv_ref (Nat.lt_of_lt_of_le hx.1.1 hw.2)]
    exact va_zald hc.1 hc.2.1 hc.K hw.1 k 1 (wsM_arr hx.1 (by decide) (by decide)) rfl hx.2.1 hd (hk _ _ _ _ hx.2.2 H locs la cells slots hw hS hl h1 h2 h3 h4)
  next => exact hx.elim
theorem s_aa (hd : decode mt.1 pc = .ok (.aaload, 1)) : Snd mt pc (x_aa (pc + 1)) := by
  intro R p l e s m args below meth c D ca ad N0 S0 Q hc ro ls st M K hx hk
  unfold x_aa at hx; split at hx
  next i k st =>
    intro H locs la cells slots hw hS hl h1 h2 h3 h4
    rw [List.map_cons, List.map_cons, cv_ref (Nat.lt_of_lt_of_le hx.1.1 hw.2)]
    exact va_aldq hc.1 hc.2.1 hc.K hw.1 k 2 (wsM_ref hx.1) rfl hx.2.1 hd (hk _ _ _ _ hx.2.2 H locs la cells slots hw hS hl h1 h2 h3 h4)
  next => exact hx.elim
theorem s_ias (hd : decode mt.1 pc = .ok (.iastore, 1)) : Snd mt pc (x_ias (pc + 1)) := by
  intro R p l e s m args below meth c D ca ad N0 S0 Q hc ro ls st M K hx hk
  unfold x_ias at hx; split at hx
  next x i k st =>
    intro H locs la cells slots hw hS hl h1 h2 h3 h4
    rw [List.map_cons, List.map_cons, List.map_cons, cv_ref (Nat.lt_of_lt_of_le hx.1.1 hw.2)]
    refine va_iast hc.1 hc.2.1 hc.K hw.1 (wsM_D hw.2 hc.adr) hS k 0 (wsM_arr hx.1 (by decide) (by decide)) rfl hx.2.1 hd (fun H1 locs1 hP1 hD1 hS1 => ?_)
    have e : (wsM ca ad M).set k (ad k, .inl (ca 1, ln M.1 k, .inl (upd (M.2.1 k) i.toNatClampNeg x))) = wsM ca ad (M.1, mS M.2.1 k (upd (M.2.1 k) i.toNatClampNeg x), M.2.2) := by
      refine wsM_set rfl ?_ fun q hq => cEnc_congr rfl (mS_n hq) rfl rfl
      rw [cEnc_arr (M := (M.1, mS M.2.1 k (upd (M.2.1 k) i.toNatClampNeg x), M.2.2)) hx.1.2 (by decide) (by decide)]
      simp only [mS_s]
    rw [e] at hP1
    exact hk _ _ _ _ hx.2.2 H1 locs1 la cells slots ⟨hP1, hw.2⟩ hS1 hl h1 h2 h3 h4
  next => exact hx.elim
theorem s_zas (hd : decode mt.1 pc = .ok (.bastore, 1)) : Snd mt pc (x_zas (pc + 1)) := by
  intro R p l e s m args below meth c D ca ad N0 S0 Q hc ro ls st M K hx hk
  unfold x_zas at hx; split at hx
  next x i k st =>
    intro H locs la cells slots hw hS hl h1 h2 h3 h4
    rw [List.map_cons, List.map_cons, List.map_cons, cv_ref (Nat.lt_of_lt_of_le hx.1.1 hw.2)]
    refine va_zast hc.1 hc.2.1 hc.K hw.1 (wsM_D hw.2 hc.adr) hS k 1 (wsM_arr hx.1 (by decide) (by decide)) rfl hx.2.1 hd (fun H1 locs1 hP1 hD1 hS1 => ?_)
    have hx1 : vp_nar .boolean x = x := by rcases hx.2.2.1 with h | h <;> subst h <;> rfl
    have e : (wsM ca ad M).set k (ad k, .inl (ca 2, ln M.1 k, .inl (upd (M.2.1 k) i.toNatClampNeg x))) = wsM ca ad (M.1, mS M.2.1 k (upd (M.2.1 k) i.toNatClampNeg x), M.2.2) := by
      refine wsM_set rfl ?_ fun q hq => cEnc_congr rfl (mS_n hq) rfl rfl
      rw [cEnc_arr (M := (M.1, mS M.2.1 k (upd (M.2.1 k) i.toNatClampNeg x), M.2.2)) hx.1.2 (by decide) (by decide)]
      simp only [mS_s]
    rw [hx1, e] at hP1
    exact hk _ _ _ _ hx.2.2.2 H1 locs1 la cells slots ⟨hP1, hw.2⟩ hS1 hl h1 h2 h3 h4
  next => exact hx.elim
theorem s_ac {idx N : Nat} (hd : decode mt.1 pc = .ok (.invokestatic idx, 3)) (hN : N < 1000) (hlink : Cond.methodLink mt.2.1 idx arraycopyName ∈ tblG) (hf : 1 ≤ mt.2.2.2.2.1.frames) (hlo : 18 ≤ mt.2.2.2.2.1.locals) : Snd mt pc (x_ac (pc + 3) N) := by
  intro R p l e s m args below meth c D ca ad N0 S0 Q hc ro ls st M K hx hk
  unfold x_ac at hx; split at hx
  next n d b z a st =>
    intro H locs la cells slots hw hS hl h1 h2 h3 h4
    obtain ⟨rfl, rfl, rfl, ta, tb, ha, hb, rfl, hx⟩ := hx
    rw [List.map_cons, List.map_cons, List.map_cons, List.map_cons, List.map_cons, cv_ref (Nat.lt_of_lt_of_le ta.1 hw.2), cv_ref (Nat.lt_of_lt_of_le tb.1 hw.2)]
    have hn : (nI N).toNatClampNeg = N := nI_clamp (by omega)
    have hz : (0 : Int32).toNatClampNeg = 0 := rfl
    obtain ⟨lv, l1, l2⟩ := hl
    refine va_copyi hc.1 hc.2.1 (by rw [hc.2.2.1]; exact l1.1.symm) hc.own (hc.ts _ hlink) (hc.ts _ tw_nat) (hc.ts _ tw_stat) (hc.ts _ tw_sys) hc.K hw.1 (wsM_D hw.2 hc.adr) hS a b 0 0 (wsM_arr ta (by decide) (by decide)) (wsM_arr tb (by decide) (by decide)) rfl rfl rfl (by decide) (by decide) (nI_pos (by omega)) (by rw [hn, hz]; omega) (by rw [hn, hz]; omega) (fun i _ => rfl) hf (by show 0 + (5 + 2 + 11) ≤ _; omega) hd (fun H1 locs1 hP1 hD1 hS1 => ?_)
    rw [hn, hz] at hP1
    have e : (wsM ca ad M).set b (ad b, .inl (ca 1, ln M.1 b, .inl (va_cpy (M.2.1 a) (M.2.1 b) 0 0 N))) = wsM ca ad (M.1, mS M.2.1 b (va_cpy (M.2.1 a) (M.2.1 b) 0 0 N), M.2.2) := by
      refine wsM_set rfl ?_ fun q hq => cEnc_congr rfl (mS_n hq) rfl rfl
      rw [cEnc_arr (M := (M.1, mS M.2.1 b (va_cpy (M.2.1 a) (M.2.1 b) 0 0 N), M.2.2)) tb.2 (by decide) (by decide)]
      simp only [mS_s]
    rw [e] at hP1
    exact hk _ _ _ _ hx H1 locs1 la cells slots ⟨hP1, hw.2⟩ hS1 ⟨lv, l1, l2⟩ h1 h2 h3 h4
  next => exact hx.elim
theorem s_fac {idx : Nat} (hd : decode mt.1 pc = .ok (.getstatic idx, 3)) (hlink : Cond.fieldLink mt.2.1 idx RX9 "FACTORIALS" "[I" ∈ tblG) : Snd mt pc (x_fac (pc + 3)) := by
  intro R p l e s m args below meth c D ca ad N0 S0 Q hc ro ls st M K hx hk H locs la cells slots hw hS hl h1 h2 h3 h4
  exact va_gets hc.1 hc.2.1 hc.ev.2.2.1 hS hc.own (hc.ts _ hlink) (fun _ h => h) hd (hk _ _ _ _ hx H locs la cells slots hw hS hl h1 h2 h3 h4)
theorem s_facN (hd : decode mt.1 pc = .ok (.getstatic 55, 3)) (ho : mt.2.1 = RX6) : Snd mt pc (x_fac (pc + 3)) := by
  intro R p l e s m args below meth c D ca ad N0 S0 Q hc ro ls st M K hx hk H locs la cells slots hw hS hl h1 h2 h3 h4
  exact va_getsN hc.1 hc.2.1 hc.ev.2.2.1 hS hc.own (by rw [ho]; exact va_Nw.use rfl hc.ev.2.2.2.2.2.1) (fun _ h => h) hd (hk _ _ _ _ hx H locs la cells slots hw hS hl h1 h2 h3 h4)
theorem s_fa (hd : decode mt.1 pc = .ok (.iaload, 1)) : Snd mt pc (x_fa (pc + 1)) := by
  intro R p l e s m args below meth c D ca ad N0 S0 Q hc ro ls st M K hx hk
  unfold x_fa at hx; split at hx
  next i k st =>
    intro H locs la cells slots hw hS hl h1 h2 h3 h4
    obtain ⟨rfl, hi, hx⟩ := hx
    exact va_ti hc.1 hc.2.1 hc.ev.2.2.2.1 hS hi rfl hd (hk _ _ _ _ hx H locs la cells slots hw hS hl h1 h2 h3 h4)
  next => exact hx.elim
theorem s_slen {q : Nat × (Nat → Int32)} (hd : decode mt.1 pc = .ok (.arraylength, 1)) (hq : mt.2.2.2.2.2.2.1 = some q) : Snd mt pc (x_slen (pc + 1) q) := by
  intro R p l e s m args below meth c D ca ad N0 S0 Q hc ro ls st M K hx hk
  unfold x_slen at hx; split at hx
  next k st =>
    intro H locs la cells slots hw hS hl h1 h2 h3 h4
    obtain ⟨rfl, hx⟩ := hx
    obtain ⟨hX, hb, ha⟩ := hc.ev.2.2.2.2.2.2.2.1 q hq
    exact va_slen hc.1 hc.2.1 hX hb (Nat.not_le.mpr ha) hS hd (hk _ _ _ _ hx H locs la cells slots hw hS hl h1 h2 h3 h4)
  next => exact hx.elim
theorem s_sa {q : Nat × (Nat → Int32)} (hd : decode mt.1 pc = .ok (.iaload, 1)) (hq : mt.2.2.2.2.2.2.1 = some q) : Snd mt pc (x_sa (pc + 1) q) := by
  intro R p l e s m args below meth c D ca ad N0 S0 Q hc ro ls st M K hx hk
  unfold x_sa at hx; split at hx
  next i k st =>
    intro H locs la cells slots hw hS hl h1 h2 h3 h4
    obtain ⟨rfl, hi, hx⟩ := hx
    obtain ⟨hX, hb, ha⟩ := hc.ev.2.2.2.2.2.2.2.1 q hq
    exact va_sld hc.1 hc.2.1 hX hb (Nat.not_le.mpr ha) hS hi hd (hk _ _ _ _ hx H locs la cells slots hw hS hl h1 h2 h3 h4)
  next => exact hx.elim
end CEL
end
section
/-! CONTRACTS: a method does to memory what its transformer says; calls -/
def Pre (D : va_G) (ca : Nat → ClassId) (ad : Nat → Nat) (M : Mem) (U : State) : Prop := Wd D ca ad M U.heap ∧ Ev D ca ad none U ∧ U.heap.size = ad 0 + M.1.1
def QcM (D : va_G) (ca : Nat → ClassId) (ad : Nat → Nat) (R : Option Value → Mem → Prop) : Array Value → State → Outcome → State → Prop := fun _ st o t => (∃ (r : Option Value) (M' : Mem), o = .returned (r.map (cv ad)) ∧ R r M' ∧ Wd D ca ad M' t.heap) ∧ va_F (AA ad) st t
def mtWs (y : MethodName) (mt : Mt) : List Cond := Cond.code y mt.1 mt.2.2.1 mt.2.2.2.1 :: tblG
def Ok (y : MethodName) (mt : Mt) (P : PTT) : Prop := ∀ (l : Launch) (D : va_G) (ca : Nat → ClassId) (ad : Nat → Nat) (av : List Value) (M : Mem) (R : Option Value → Mem → Prop), P av M R →
  Met l y (mtWs y mt) mt.2.2.2.2.1 (va_Pc (av.map (cv ad)) (Pre D ca ad M)) (QcM D ca ad R) mt.2.2.2.2.1.cells mt.2.2.2.2.1.slots (AA ad)
theorem Ev.same {D : va_G} {ca : Nat → ClassId} {ad : Nat → Nat} {scr : Option (Nat × (Nat → Int32))} {u U : State} (hv : u.vm = U.vm) (hh : u.heap = U.heap) (h : Ev D ca ad scr u) : Ev D ca ad scr U := by
  obtain ⟨h1, h2, h3, h4, h5, h6, h7, h8, h9⟩ := h
  have hal : u.vm.Alike U.vm := by rw [hv]; exact Vm.Alike.refl U.vm
  exact ⟨va_K.moved hal h1, h2, by rw [← hh]; exact va_Z.moved hal h3, by rw [← hh]; exact va_T.moved hal h4, va_Nw.same rfl hv h5, va_Nw.same rfl hv h6, va_AO.moved hal h7, fun q hq => ⟨by rw [← hh]; exact va_X.moved hal (h8 q hq).1, by rw [← hh]; exact (h8 q hq).2.1, (h8 q hq).2.2⟩, by rw [← hh]; exact h9⟩
theorem Ev.warm {D : va_G} {ca : Nat → ClassId} {ad : Nat → Nat} {scr : Option (Nat × (Nat → Int32))} {s U : State} {locs : List Loc} (hW : s.WarmedH U.vm) (hS : va_S (AA ad) s.heap U.heap locs) (h : Ev D ca ad scr s) : Ev D ca ad none U := by
  obtain ⟨h1, h2, h3, h4, h5, h6, h7, h8, h9⟩ := h
  exact ⟨va_K.moved hW.alike h1, h2, va_Z.kept (va_Z.moved hW.alike h3) (fun a ha hA => hS.2.1 a ha hA), va_T.kept (va_T.moved hW.alike h4) (fun a ha hA => hS.2.1 a ha hA), va_Nw.warmM hW h5, va_Nw.warmF hW h6, va_AO.moved hW.alike h7, (fun q hq => nomatch hq), Nat.le_trans h9 hS.1⟩
theorem pre_blind {D : va_G} {ca : Nat → ClassId} {ad : Nat → Nat} {M : Mem} {av : List Value} : FrameBlind (va_Pc av (Pre D ca ad M)) := by
  intro a U g mk h
  obtain ⟨h0, h1, h2, h3⟩ := h
  exact ⟨h0, h1, Ev.same (u := U) (U := U.calling g mk a) rfl rfl h2, h3⟩
theorem pa_spec : ∀ {n : Nat} {st acc as r : List Value}, pa n st acc = some (as, r) → ∃ xs, xs.length = n ∧ st = xs ++ r ∧ as = xs.reverse ++ acc
  | 0, st, acc, as, r, h => by simp only [pa, Option.some.injEq, Prod.mk.injEq] at h; exact ⟨[], rfl, by simp [h.2], by simp [h.1]⟩
  | n + 1, [], acc, as, r, h => by simp [pa] at h
  | n + 1, v :: st, acc, as, r, h => by
    simp only [pa] at h
    obtain ⟨xs, h1, h2, h3⟩ := pa_spec h
    exact ⟨v :: xs, by simp [h1], by simp [h2], by simp [h3]⟩
theorem short_cat : ∀ {r : List Value} {n : Nat}, short r n = true → (r.map fun v => v.category).sum ≤ 2 * n
  | [], n, _ => by simp
  | v :: r, 0, h => by simp [short] at h
  | v :: r, n + 1, h => by
    have h1 := short_cat (r := r) (n := n) h
    have h2 : v.category ≤ 2 := by rcases lv_cat v with h | h <;> omega
    simp only [List.map_cons, List.sum_cons]
    omega
theorem map_cat (ad : Nat → Nat) (r : List Value) : ((r.map (cv ad)).map fun v => v.category) = r.map fun v => v.category := by
  rw [List.map_map]
  exact List.map_congr_left (fun v _ => cv_cat ad v)
theorem goodAll {big : List Cond} (hb : ∀ w ∈ tblG, w ∈ big) {ws : List Cond} (h : ∀ w ∈ ws, w ∈ tblG) : GoodIn big ws := fun w hw => ⟨hb w (h w hw), good_of_word (List.mem_filter.mp (h w hw)).2⟩
section WCM
variable {p : Program} {l : Launch} {e : Env} {R : Room} {s : State} {m : MethodId} {args : Array Value} {below : List Frame} {meth : Method} {c : Code} {H : Heap} {locs : List Loc} {cells slots mc ms : Nat} {Q : State → Prop}
theorem W.callM {D : va_G} {ca : Nat → ClassId} {ad : Nat → Nat} {pc : Nat} {la : Array Slot} {st0 rest : List Value} {a : Array Value} {Rp : Option Value → Mem → Prop} (hr : va_Run p l e R s m args below meth c H locs cells slots mc ms (F0 m pc la st0) rest (QcM D ca ad Rp a) (AA ad)) (hS : va_S (AA ad) s.heap H locs)
    (kk : ∀ (r : Option Value) (M' : Mem) (H1 : Heap) (locs1 : List Loc), Rp r M' → Wd D ca ad M' H1 → va_S (AA ad) s.heap H1 locs1 → W p l e R s m args below meth c H1 locs1 (cells + mc) (slots + ms) Q (F0 m (pc + 3) la ((r.map (cv ad)).toList ++ rest))) : W p l e R s m args below meth c H locs cells slots Q (F0 m pc la st0) := by
  intro T hT X
  obtain ⟨v, st₀, t, T', L, h0, X', hL, e1, e2, ⟨⟨r, M', hv, hp, hb⟩, hz, hk⟩, st⟩ := hr T hT X
  cases hv
  rw [h0] at hz hk
  obtain ⟨t2, a1, b1⟩ := kk r M' T'.heap (locs ++ L) hp (by rw [e1]; exact hb)
    ⟨Nat.le_trans hS.1 (by rw [e1]; exact hz), fun q h1 h2 => by rw [e1, hk q (Nat.lt_of_lt_of_le h1 hS.1) h2]; exact hS.2.1 q h1 h2, fun q hq => by
      rcases List.mem_append.mp hq with h | h
      · exact hS.2.2 q h
      · exact hL q h⟩ T' rfl X'
  exact ⟨t2, st t2 a1, b1⟩
end WCM
theorem oc_map (ad : Nat → Nat) (v : Option Value) (r : List Value) : (oc v r).map (cv ad) = (v.map (cv ad)).toList ++ r.map (cv ad) := by cases v <;> rfl
def rmFit (mt mt' : Mt) : Prop := mt'.2.2.2.2.1.frames + 1 ≤ mt.2.2.2.2.1.frames ∧ 8 + (mt'.2.2.1 + 11) + mt'.2.2.2.2.1.locals ≤ mt.2.2.2.2.1.locals
def yOk (y : MethodName) (n : Nat) : Prop := y.cls ≠ "java/lang/invoke/MethodHandle" ∧ y.cls ≠ "java/lang/invoke/VarHandle" ∧ (parseMethodDescriptor y.desc).map (fun d => d.parameters.length) = some n
section CLS
variable {mt mt' : Mt} {pc : Nat} {y : MethodName} {P : PTT} {idx n : Nat}
theorem mtWs_in (hcode : Cond.code y mt'.1 mt'.2.2.1 mt'.2.2.2.1 ∈ tblG) : ∀ w ∈ mtWs y mt', w ∈ tblG := fun w hw => (List.mem_cons.mp hw).elim (fun e => by rw [e]; exact hcode) id
theorem s_cS (hok : Ok y mt' P) (hd : decode mt.1 pc = .ok (.invokestatic idx, 3)) (hlink : Cond.methodLink mt.2.1 idx y ∈ tblG) (hst : Cond.static y ∈ tblG) (hini : Cond.initialized y.cls ∈ tblG) (hcode : Cond.code y mt'.1 mt'.2.2.1 mt'.2.2.2.1 ∈ tblG) (hy : yOk y n) (hR : rmFit mt mt') (hrc : mt'.2.2.2.2.1.cells = 0) (hrs : mt'.2.2.2.2.1.slots = 0) : Snd mt pc (x_cS n P (pc + 3)) := by
  intro R p l e s m args below meth c D ca ad N0 S0 Q hc ro ls st M K hx hk
  unfold x_cS at hx; split at hx
  next as r hpa =>
    intro H locs la cells slots hw hS hl h1 h2 h3 h4
    obtain ⟨hsh, hP⟩ := hx
    obtain ⟨xs, x1, x2, x3⟩ := pa_spec hpa
    refine W.size fun hu => ?_
    have hsz := Wd_size hw hc.adr hS hc.sz h1 hu
    obtain ⟨lv, l1, l2⟩ := hl
    have hM := hok l D ca ad as M _ hP
    rw [hrc, hrs] at hM
    have hrun := va_runS (bytes := mt'.1) (maxL := mt'.2.2.1) (ret := mt'.2.2.2.1) (H := H) (locs := locs) (cells := cells) (slots := slots) (g := F0 m pc la (st.map (cv ad))) (As := as.map (cv ad)) (rest := r.map (cv ad)) (below := below) (meth := meth) (e := e) (Ts := tblG) (R := mt.2.2.2.2.1) ⟨hc.1, hc.2.1, hc.2.2.1, hc.own, hc.ts⟩ hM (va_cwS n hc.ts (goodAll (fun _ h => h) (fun w hw => by
        rcases List.mem_append.mp hw with h | h
        · simp only [List.mem_cons, List.not_mem_nil, or_false] at h
          rcases h with h | h | h <;> subst h <;> assumption
        · exact mtWs_in hcode w h)) rfl hrc hrs hy hR)
      ⟨pre_blind, fun U hU hW => ⟨rfl, by rw [hU]; exact hw, Ev.warm hW (by rw [hU]; exact hS) hc.ev, by rw [hU]; exact hsz⟩⟩ rfl (by rw [List.length_map, x3]; simp [x1]) l1.1 (by rw [x2, x3]; simp [← List.map_reverse]) (lv_room (by rw [map_cat]; exact Nat.le_trans (short_cat hsh) (by omega))) hd ⟨by omega, by omega⟩
    refine W.callM hrun hS fun v M' H1 locs1 hq hw1 hS1 => ?_
    rw [← oc_map]
    exact hk _ _ _ _ hq.2 H1 locs1 la (cells + 0) (slots + 0) hw1 hS1 ⟨lv, l1, l2⟩ (by rw [hq.1]; exact h1) (by rw [hq.1]; exact h2) h3 h4
  next => exact hx.elim
theorem s_cN (hok : Ok yX9_held mt' P) (ho : mt.2.1 = RX1) (hd : decode mt.1 pc = .ok (.invokestatic 73, 3)) (hst : Cond.static yX9_held ∈ tblG) (hini : Cond.initialized yX9_held.cls ∈ tblG) (hcode : Cond.code yX9_held mt'.1 mt'.2.2.1 mt'.2.2.2.1 ∈ tblG) (hy : yOk yX9_held n) (hR : rmFit mt mt') (hrc : mt'.2.2.2.2.1.cells = 0) (hrs : mt'.2.2.2.2.1.slots = 0) : Snd mt pc (x_cS n P (pc + 3)) := by
  intro R p l e s m args below meth c D ca ad N0 S0 Q hc ro ls st M K hx hk
  unfold x_cS at hx; split at hx
  next as r hpa =>
    intro H locs la cells slots hw hS hl h1 h2 h3 h4
    obtain ⟨hsh, hP⟩ := hx
    obtain ⟨xs, x1, x2, x3⟩ := pa_spec hpa
    refine W.size fun hu => ?_
    have hsz := Wd_size hw hc.adr hS hc.sz h1 hu
    obtain ⟨lv, l1, l2⟩ := hl
    have hM := hok l D ca ad as M _ hP
    rw [hrc, hrs] at hM
    have hrun := va_runSN (bytes := mt'.1) (maxL := mt'.2.2.1) (ret := mt'.2.2.2.1) (H := H) (locs := locs) (cells := cells) (slots := slots) (g := F0 m pc la (st.map (cv ad))) (As := as.map (cv ad)) (rest := r.map (cv ad)) (below := below) (meth := meth) (e := e) (Ts := tblG) (R := mt.2.2.2.2.1) ⟨hc.1, hc.2.1, hc.2.2.1, hc.own, hc.ts⟩ hM ⟨va_cnB (host := RX9) n hc.ts (goodAll (fun _ h => h) (mtWs_in hcode)) rfl hrc hrs (by rw [ho]; exact hc.ev.2.2.2.2.1) (hc.ts _ hini) hy hR, hc.ts _ hst, trivial⟩
      ⟨pre_blind, fun U hU hW => ⟨rfl, by rw [hU]; exact hw, Ev.warm hW (by rw [hU]; exact hS) hc.ev, by rw [hU]; exact hsz⟩⟩ rfl (by rw [List.length_map, x3]; simp [x1]) l1.1 (by rw [x2, x3]; simp [← List.map_reverse]) (lv_room (by rw [map_cat]; exact Nat.le_trans (short_cat hsh) (by omega))) hd ⟨by omega, by omega⟩
    refine W.callM hrun hS fun v M' H1 locs1 hq hw1 hS1 => ?_
    rw [← oc_map]
    exact hk _ _ _ _ hq.2 H1 locs1 la (cells + 0) (slots + 0) hw1 hS1 ⟨lv, l1, l2⟩ (by rw [hq.1]; exact h1) (by rw [hq.1]; exact h2) h3 h4
  next => exact hx.elim
theorem s_cV {ci : Nat} (hok : Ok y mt' P) (hd : decode mt.1 pc = .ok (.invokevirtual idx, 3)) (hci : ci < 11) (hyc : y.cls = RCl ci) (hlink : Cond.methodLink mt.2.1 idx y ∈ tblG) (him : Cond.instanceMethod y ∈ tblG) (hse : Cond.selects (RCl ci) y y ∈ tblG) (hini : Cond.initialized (RCl ci) ∈ tblG) (hcode : Cond.code y mt'.1 mt'.2.2.1 mt'.2.2.2.1 ∈ tblG) (hy : yOk y n) (hR : rmFit mt mt') (hrc : mt'.2.2.2.2.1.cells = 0) (hrs : mt'.2.2.2.2.1.slots = 0) : Snd mt pc (x_cV ci n P (pc + 3)) := by
  intro R p l e s m args below meth c D ca ad N0 S0 Q hc ro ls st M K hx hk
  unfold x_cV at hx; split at hx
  next k as r hpa =>
    intro H locs la cells slots hw hS hl h1 h2 h3 h4
    obtain ⟨hto, hsh, hP⟩ := hx
    obtain ⟨xs, x1, x2, x3⟩ := pa_spec hpa
    refine W.size fun hu => ?_
    have hsz := Wd_size hw hc.adr hS hc.sz h1 hu
    obtain ⟨lv, l1, l2⟩ := hl
    have hM := hok l D ca ad (.ref k :: as) M _ hP
    rw [hrc, hrs] at hM
    have hk9 : k < 9000 := Nat.lt_of_lt_of_le hto.1 hw.2
    have hx4 : xs = as.reverse ++ [.ref k] := by
      have := congrArg List.reverse x3
      simp at this
      exact this.symm
    rw [List.map_cons, cv_ref hk9] at hM
    have hrun := va_runV (C := RCl ci) (b := ad k) (bytes := mt'.1) (maxL := mt'.2.2.1) (ret := mt'.2.2.2.1) (H := H) (locs := locs) (cells := cells) (slots := slots) (g := F0 m pc la (st.map (cv ad))) (As := as.map (cv ad)) (rest := r.map (cv ad)) (below := below) (meth := meth) (e := e) (Ts := tblG) (R := mt.2.2.2.2.1) ⟨hc.1, hc.2.1, hc.2.2.1, hc.own, hc.ts⟩ hM (cwV n hc.ts (goodAll (fun _ h => h) (fun w hw => by
        rcases List.mem_append.mp hw with h | h
        · simp only [List.mem_cons, List.not_mem_nil, or_false] at h
          rcases h with h | h | h | h <;> subst h <;> assumption
        · exact mtWs_in hcode w h)) rfl hrc hrs ⟨hyc, hy⟩ hR)
      ⟨pre_blind, va_recv hc.K hw.1 (cl_at hci) (wsM_obj hto), fun U hU hW => ⟨rfl, by rw [hU]; exact hw, Ev.warm hW (by rw [hU]; exact hS) hc.ev, by rw [hU]; exact hsz⟩⟩ rfl (by rw [List.length_map]; have := congrArg List.length hx4; simp at this; omega) l1.1 (by rw [x2, hx4]; simp [← List.map_reverse, cv_ref hk9]) (lv_room (by rw [map_cat]; exact Nat.le_trans (short_cat hsh) (by omega))) hd ⟨by omega, by omega⟩
    refine W.callM hrun hS fun v M' H1 locs1 hq hw1 hS1 => ?_
    rw [← oc_map]
    exact hk _ _ _ _ hq.2 H1 locs1 la (cells + 0) (slots + 0) hw1 hS1 ⟨lv, l1, l2⟩ (by rw [hq.1]; exact h1) (by rw [hq.1]; exact h2) h3 h4
  next => exact hx.elim
end CLS
/-! how a method begins and ends -/
def ent : List Value → Vals
  | [] => []
  | v :: r => bif wide (some v) then some v :: none :: ent r else some v :: ent r
def pad (n : Nat) (ls : Vals) : Vals := ls ++ List.replicate (n - ls.length) none
theorem wide_cat2 (v : Value) : wide (some v) = true ↔ v.category = 2 := by cases v <;> simp [wide, Value.category]
theorem lg_sl_cons (v : Value) (r : List Value) : lg_sl (v :: r) = (if v.category = 2 then [.val v, .second] else [.val v]) ++ lg_sl r := by simp [lg_sl]
theorem ent_len (ad : Nat → Nat) : ∀ av : List Value, (lg_sl (av.map (cv ad))).length = (ent av).length
  | [] => rfl
  | v :: r => by
    have ih := ent_len ad r
    by_cases h : v.category = 2
    · rw [List.map_cons, lg_sl_cons]; simp [ent, (wide_cat2 v).mpr h, cv_cat, h, ih]
    · have hw : wide (some v) = false := by
        cases hw : wide (some v) with
        | true => exact absurd ((wide_cat2 v).mp hw) h
        | false => rfl
      rw [List.map_cons, lg_sl_cons]; simp [ent, hw, cv_cat, h, ih]
theorem ent_at (ad : Nat → Nat) : ∀ (av : List Value) (b i : Nat) (v : Value), (ent av)[i]? = some (some v) → (b + i, cv ad v) ∈ lv_args b (av.map (cv ad))
  | [], b, i, v, h => by simp [ent] at h
  | w :: r, b, i, v, h => by
    by_cases hc : w.category = 2
    · have hw := (wide_cat2 w).mpr hc
      simp only [ent, hw, cond_true] at h
      simp only [List.map_cons, lv_args, cv_cat, hc, if_true]
      match i, h with
      | 0, h => simp at h; subst h; exact List.mem_cons_self
      | 1, h => simp at h
      | i + 2, h =>
        simp only [List.getElem?_cons_succ] at h
        have := ent_at ad r (b + 2) i v h
        rw [show b + (i + 2) = b + 2 + i by omega]
        exact List.mem_cons_of_mem _ this
    · have hw : wide (some w) = false := by
        cases hw : wide (some w) with
        | true => exact absurd ((wide_cat2 w).mp hw) hc
        | false => rfl
      simp only [ent, hw, cond_false] at h
      simp only [List.map_cons, lv_args, cv_cat, hc, if_false]
      match i, h with
      | 0, h => simp at h; subst h; exact List.mem_cons_self
      | i + 1, h =>
        simp only [List.getElem?_cons_succ] at h
        have := ent_at ad r (b + 1) i v h
        rw [show b + (i + 1) = b + 1 + i by omega]
        exact List.mem_cons_of_mem _ this
theorem pad_at {n i : Nat} {ls : Vals} {v : Value} (h : (pad n ls)[i]? = some (some v)) : ls[i]? = some (some v) := by
  unfold pad at h
  by_cases hi : i < ls.length
  · rwa [List.getElem?_append_left hi] at h
  · rw [List.getElem?_append_right (by omega), List.getElem?_replicate] at h
    split at h <;> simp at h
theorem RO.meth {mt : Mt} {R : Option Value → Mem → Prop} {p : Program} {l : Launch} {e : Env} {s : State} {m : MethodId} {args : Array Value} {below : List Frame} {meth : Method} {c : Code} {D : va_G} {ca : Nat → ClassId} {ad : Nat → Nat} {N0 S0 : Nat} (hx : p.tables.exec = Jvm.exec) (hb : c.code = mt.1) (hr : meth.sig.returnType = mt.2.2.2.1) (hlocks : meth.locks = false) : RO mt R p l e s m args below meth c D ca ad N0 S0 (MQ below (QcM D ca ad R) args s mt.2.2.2.2.1.cells mt.2.2.2.2.1.slots (AA ad)) := by
  intro r M H locs la pc cells slots hR hw hS h1 h2 h3 h4 hrt hd
  refine W.widen (k := mt.2.2.2.2.1.cells) (n := mt.2.2.2.2.1.slots) h3 h4 ?_
  have hq : ∀ t : State, t.heap = H → QcM D ca ad R args s (.returned (r.map (cv ad))) t := fun t ht => ⟨⟨r, M, rfl, hR, by rw [ht]; exact hw⟩, hS.F ht⟩
  unfold rtOk at hrt
  split at hrt
  next e1 => exact W.vret hx hb (hr.trans e1) (fun t ht _ => hq t ht) hS.2.2 hd
  next v e1 => exact W.iret hx hb (hr.trans e1) (fun t ht _ => hq t ht) hS.2.2 hd
  next v e1 => exact W.zret hx hb (hr.trans e1) (by rcases hrt with h | h <;> subst h <;> rfl) (fun t ht _ => hq t ht) hS.2.2 hd
  next v e1 => exact W.lret hx hb (hr.trans e1) (fun t ht _ => hq t ht) hS.2.2 hd
  next => exact hrt.elim
theorem Ok.of {y : MethodName} {mt : Mt} {P : PTT} (hy : plainName y.cls = true) (hn : mt.2.1 = y.cls) (hi : mt.2.2.2.2.2.1 = false) (hs : mt.2.2.2.2.2.2.1 = none) (ha : mt.2.2.2.2.2.2.2 = none) (h : ∀ av M R, P av M R → (ent av).length ≤ mt.2.2.1 ∧ J mt R 0 (pad mt.2.2.1 (ent av)) [] M) : Ok y mt P := by
  intro l D ca ad av M R hP
  obtain ⟨hlen, hJ⟩ := h av M R hP
  refine Met.ofW (cc := mt.1) (maxL := mt.2.2.1) (ret := mt.2.2.2.1) hy rfl ?_
  intro p e s m args below meth c s₁ B hml hv
  obtain ⟨rfl, hw, hev, hsz⟩ := hv
  have hts := atoms_spec (ws := mtWs y mt) B.pre
  have hown : s.vm.findClass mt.2.1 = some m.cls := by rw [hn]; exact findClass_of_methodNamed B.named
  have hc : HC mt p s m (av.map (cv ad)).toArray meth c D ca ad M.1.1 M.1.2.1 := ⟨B.exec, B.bytes, hml, hown, fun w hw => hts w (List.mem_cons_of_mem _ hw), B.notSynchronized, B.returns, fun h => (by rw [hi] at h; cases h), by rw [hs]; exact hev, hsz, fun q hq => (by rw [ha] at hq; cases hq)⟩
  rw [lg_entry_eq]
  have hl := lv_entry (av.map (cv ad)) (n := mt.2.2.1) (by rw [ent_len]; exact hlen)
  exact hJ p l e s m _ below meth c D ca ad M.1.1 M.1.2.1 _ hc (RO.meth B.exec B.bytes B.returns B.notSynchronized) s.heap [] _ 0 0 hw va_S.rf ⟨_, hl, fun i v hi => by have := ent_at ad av 0 i v (pad_at hi); rwa [Nat.zero_add] at this⟩ rfl rfl (Nat.zero_le _) (Nat.zero_le _)
section RET
variable {mt : Mt} {pc : Nat}
theorem s_rI (hd : decode mt.1 pc = .ok (.ireturn, 1)) (hr : mt.2.2.2.1 = some .int) : Snd mt pc x_rI := by
  intro R p l e s m args below meth c D ca ad N0 S0 Q hc ro ls st M K hx hk
  unfold x_rI at hx; split at hx
  next v =>
    intro H locs la cells slots hw hS hl h1 h2 h3 h4
    exact ro (some (.int v)) M H locs la pc cells slots hx hw hS h1 h2 h3 h4 (by rw [hr]; trivial) hd
  next => exact hx.elim
theorem s_rZ (hd : decode mt.1 pc = .ok (.ireturn, 1)) (hr : mt.2.2.2.1 = some .boolean) : Snd mt pc x_rZ := by
  intro R p l e s m args below meth c D ca ad N0 S0 Q hc ro ls st M K hx hk
  unfold x_rZ at hx; split at hx
  next v =>
    intro H locs la cells slots hw hS hl h1 h2 h3 h4
    exact ro (some (.int v)) M H locs la pc cells slots hx.2 hw hS h1 h2 h3 h4 (by rw [hr]; exact hx.1) hd
  next => exact hx.elim
theorem s_rL (hd : decode mt.1 pc = .ok (.lreturn, 1)) (hr : mt.2.2.2.1 = some .long) : Snd mt pc x_rL := by
  intro R p l e s m args below meth c D ca ad N0 S0 Q hc ro ls st M K hx hk
  unfold x_rL at hx; split at hx
  next v =>
    intro H locs la cells slots hw hS hl h1 h2 h3 h4
    exact ro (some (.long v)) M H locs la pc cells slots hx hw hS h1 h2 h3 h4 (by rw [hr]; trivial) hd
  next => exact hx.elim
theorem s_r0 (hd : decode mt.1 pc = .ok (.return_, 1)) (hr : mt.2.2.2.1 = none) : Snd mt pc x_r0 := by
  intro R p l e s m args below meth c D ca ad N0 S0 Q hc ro ls st M K hx hk
  unfold x_r0 at hx; split at hx
  next =>
    intro H locs la cells slots hw hS hl h1 h2 h3 h4
    exact ro none M H locs la pc cells slots hx hw hS h1 h2 h3 h4 (by rw [hr]; trivial) hd
  next => exact hx.elim
end RET
end
section
/-! helpers of the printed tables -/
theorem at_ {cc : ByteArray} {l : List (Nat × Instr × Nat)} (h : ∀ q ∈ l, decode cc q.1 = .ok q.2) (i : Nat) {pc ln : Nat} {ins : Instr} (hq : l[i]? = some (pc, ins, ln)) : decode cc pc = .ok (ins, ln) := h (pc, ins, ln) (List.mem_of_getElem? hq)
theorem tk0 {mt : Mt} : TbOk mt [] := fun _ h => absurd h List.not_mem_nil
theorem tkc {mt : Mt} {pc : Nat} {x : X} {b : Bool} {r : Tb} (h : Snd mt pc x) (hr : TbOk mt r) : TbOk mt ((pc, x, b) :: r) := List.forall_mem_cons.mpr ⟨h, hr⟩
theorem tsw {pc : Nat} {offs : Array Int} (ts : List Nat) (h : offs.toList.map (fun o => (pc : Int) + o) = ts.map (fun t : Nat => (t : Int))) : ∀ i, i < ts.length → ∃ off t, offs[i]? = some off ∧ ts[i]? = some t ∧ (pc : Int) + off = (t : Int) := by
  intro i hi
  have h1 := congrArg (fun l => l[i]?) h
  simp only [List.getElem?_map] at h1
  have h2 : ts[i]? = some ts[i] := List.getElem?_eq_getElem hi
  rw [h2] at h1
  cases ho : offs.toList[i]? with
  | none => rw [ho] at h1; simp at h1
  | some o =>
    rw [ho] at h1
    simp only [Option.map_some, Option.some.injEq] at h1
    refine ⟨o, ts[i], ?_, h2, h1⟩
    rw [← Array.getElem?_toList]
    exact ho
def x_l01 (a b d : Nat) : X := fun ls st M K _ => match st with
  | .int x :: st => (x = 0 → K a ls st M) ∧ (x = 1 → K b ls st M) ∧ (¬ x = 0 → ¬ x = 1 → K d ls st M)
  | _ => False
theorem s_l01 {mt : Mt} {pc : Nat} {dflt oa ob : Int} {len a b d : Nat} (hd : decode mt.1 pc = .ok (.lookupswitch dflt #[(0, oa), (1, ob)], len)) (ha : (pc : Int) + oa = (a : Int)) (hb : (pc : Int) + ob = (b : Int)) (ht : (pc : Int) + dflt = (d : Int)) : Snd mt pc (x_l01 a b d) := by
  intro R p l e s m args below meth c D ca ad N0 S0 Q hc ro ls st M K hx hk
  unfold x_l01 at hx; split at hx
  next x st =>
    intro H locs la cells slots hw hS hl h1 h2 h3 h4
    by_cases h0 : x = 0
    · refine lv_lookup (off := oa) hc.1 hc.2.1 hd rfl ?_ ha (hk _ _ _ _ (hx.1 h0) H locs la cells slots hw hS hl h1 h2 h3 h4)
      subst h0
      rw [Op.lookupswitch.offset_cons, if_pos (by decide)]
    · by_cases h9 : x = 1
      · refine lv_lookup (off := ob) hc.1 hc.2.1 hd rfl ?_ hb (hk _ _ _ _ (hx.2.1 h9) H locs la cells slots hw hS hl h1 h2 h3 h4)
        show Op.lookupswitch.offset [(0, oa), (1, ob)] dflt x.toInt = ob
        rw [lv_osw (k := 0) h0 (by decide)]
        subst h9
        rw [Op.lookupswitch.offset_cons, if_pos (by decide)]
      · refine lv_lookup (off := dflt) hc.1 hc.2.1 hd rfl ?_ ht (hk _ _ _ _ (hx.2.2 h0 h9) H locs la cells slots hw hS hl h1 h2 h3 h4)
        show Op.lookupswitch.offset [(0, oa), (1, ob)] dflt x.toInt = dflt
        rw [lv_osw (k := 0) h0 (by decide), lv_osw (k := 1) h9 (by decide)]
        rfl
  next => exact hx.elim
theorem z01a : ((0 : Int32) = 0 ∨ (0 : Int32) = 1) = True := by simp
theorem z01b : ((1 : Int32) = 0 ∨ (1 : Int32) = 1) = True := by simp
def x_mx (nx : Nat) : X := fun ls st M K _ => match st with
  | [.int y, .int x] => K nx ls [.int (if x < y then y else x)] M
  | _ => False
theorem s_mx {mt : Mt} {pc idx : Nat} (hd : decode mt.1 pc = .ok (.invokestatic idx, 3)) (hlink : Cond.methodLink mt.2.1 idx Lib.Math.max.name ∈ tblG) (hf : 1 ≤ mt.2.2.2.2.1.frames) (hlo : 13 ≤ mt.2.2.2.2.1.locals) : Snd mt pc (x_mx (pc + 3)) := by
  intro R p l e s m args below meth c D ca ad N0 S0 Q hc ro ls st M K hx hk
  unfold x_mx at hx; split at hx
  next y x =>
    intro H locs la cells slots hw hS hl h1 h2 h3 h4
    obtain ⟨lv, l1, l2⟩ := hl
    exact va_mmax hc.1 hc.2.1 (by rw [hc.2.2.1]; exact l1.1.symm) hc.own (hc.ts _ hlink) (hc.ts _ (tg 631 (by decide +kernel) (by decide +kernel))) (hc.ts _ (tg 55 (by decide +kernel) (by decide +kernel))) (hc.ts _ (tg 632 (by decide +kernel) (by decide +kernel))) hf (by show 0 + 13 ≤ _; omega) h3 h4 hd (hk _ _ _ _ hx H locs la cells slots hw hS ⟨lv, l1, l2⟩ h1 h2 h3 h4)
  next => exact hx.elim
end
section
/-! NUMBERS: sets as naturals, loops -/
def tn (x : Int32) : Nat := x.toBitVec.toNat
theorem tn_nI {n : Nat} (h : n < 2 ^ 32) : tn (nI n) = n := pk_tn h
theorem nI_tn (x : Int32) : nI (tn x) = x := by
  apply Int32.toBitVec_inj.mp
  apply BitVec.eq_of_toNat_eq
  exact pk_tn x.toBitVec.isLt
theorem tn_inj {x y : Int32} (h : tn x = tn y) : x = y := by rw [← nI_tn x, ← nI_tn y, h]
theorem tn_and (x y : Int32) : tn (x &&& y) = tn x &&& tn y := by simp [tn]
theorem tn_or (x y : Int32) : tn (x ||| y) = tn x ||| tn y := by simp [tn]
theorem tn_xor (x y : Int32) : tn (x ^^^ y) = tn x ^^^ tn y := by simp [tn]
theorem ncl {n : Nat} (h : n < 2 ^ 31) : (nI n).toNatClampNeg = n := nI_clamp h
/-- a bit, as an int -/
def bI (p : Prop) [Decidable p] : Int32 := if p then 1 else 0
theorem bI_0 {p : Prop} [Decidable p] : bI p = 0 ↔ ¬ p := by unfold bI; split <;> simp_all
theorem bI_1 {p : Prop} [Decidable p] : bI p = 1 ↔ p := by unfold bI; split <;> simp_all
theorem bI_t {p : Prop} [Decidable p] (h : p) : bI p = 1 := by simp [bI, h]
theorem bI_f {p : Prop} [Decidable p] (h : ¬ p) : bI p = 0 := by simp [bI, h]
theorem bI_or {p : Prop} [Decidable p] : bI p = 0 ∨ bI p = 1 := by unfold bI; split <;> simp
theorem bI_congr {p q : Prop} [Decidable p] [Decidable q] (h : p ↔ q) : bI p = bI q := by simp [bI, h]
/-- a loop that counts up to n -/
theorem up {P : Nat → Prop} {n : Nat} (h : ∀ i, i ≤ n → (i < n → P (i + 1)) → P i) : ∀ i, i ≤ n → P i := by
  have key : ∀ d i, i + d = n → P i := by
    intro d
    induction d with
    | zero => intro i hi; exact h i (by omega) (fun h' => absurd h' (by omega))
    | succ d ih => intro i hi; exact h i (by omega) (fun _ => ih (i + 1) (by omega))
  exact fun i hi => key (n - i) i (by omega)
/-- a loop that counts down to 0: P of how many are left -/
theorem dn {P : Nat → Prop} (h : ∀ i, (∀ j, i = j + 1 → P j) → P i) : ∀ i, P i := by
  intro i
  induction i with
  | zero => exact h 0 (fun j hj => by omega)
  | succ i ih => exact h (i + 1) (fun j hj => by have : i = j := by omega
                                                 subst this; exact ih)
theorem s31 : ∀ n, n < 32 → ((nI n &&& 31).toBitVec.smod 32).toNat = n := by decide +kernel
theorem shl1 {i : Nat} (h : i < 31) : (1 : Int32) <<< (nI i &&& 31) = nI (2 ^ i) := by
  have := pk_shlN (n := 1) (nI i &&& 31) i (s31 i (by omega)) (by rw [Nat.one_mul]; exact Nat.pow_lt_pow_right (by omega) (by omega))
  rw [Nat.one_mul] at this
  exact this
theorem shlB {x i : Nat} (hx : x ≤ 1) (h : i < 31) : nI x <<< (nI i &&& 31) = nI (x * 2 ^ i) := by
  refine pk_shlN (n := x) (nI i &&& 31) i (s31 i (by omega)) ?_
  have h2 : 2 ^ i < 2 ^ 31 := Nat.pow_lt_pow_right (by omega) h
  have h3 : x * 2 ^ i ≤ 1 * 2 ^ i := Nat.mul_le_mul_right _ hx
  omega
theorem nI_tb (n : Nat) : (nI n).toBitVec = BitVec.ofNat 32 n := rfl
theorem nI_or (a b : Nat) : nI a ||| nI b = nI (a ||| b) := by
  apply Int32.toBitVec_inj.mp
  rw [Int32.toBitVec_or, nI_tb, nI_tb, nI_tb]
  apply BitVec.eq_of_getLsbD_eq
  intro i hi
  simp [BitVec.getLsbD_ofNat, hi]
theorem nI_and (a b : Nat) : nI a &&& nI b = nI (a &&& b) := by
  apply Int32.toBitVec_inj.mp
  rw [Int32.toBitVec_and, nI_tb, nI_tb, nI_tb]
  apply BitVec.eq_of_getLsbD_eq
  intro i hi
  simp [BitVec.getLsbD_ofNat, hi]
theorem nI_xor (a b : Nat) : nI a ^^^ nI b = nI (a ^^^ b) := by
  apply Int32.toBitVec_inj.mp
  rw [Int32.toBitVec_xor, nI_tb, nI_tb, nI_tb]
  apply BitVec.eq_of_getLsbD_eq
  intro i hi
  simp [BitVec.getLsbD_ofNat, hi]
theorem or_pow {a i : Nat} (h : a < 2 ^ i) : a ||| 2 ^ i = a + 2 ^ i := by
  have h1 := Nat.two_pow_add_eq_or_of_lt h 1
  rw [Nat.mul_one] at h1
  rw [Nat.or_comm, ← h1, Nat.add_comm]
theorem bitAt {v b : Nat} (hv : v < 2 ^ 31) (hb : b < 31) : (nI v >>> (nI b &&& 31)) &&& 1 = nI (if v.testBit b then 1 else 0) := by
  rw [pk_shrN hv (nI b &&& 31) b (s31 b (by omega))]
  rw [show (1 : Int32) = nI 1 from by decide, nI_and]
  congr 1
  rw [Nat.and_one_is_mod]
  have := Nat.testBit_eq_decide_div_mod_eq (x := v) (i := b)
  rw [this]
  have h2 : v / 2 ^ b % 2 < 2 := Nat.mod_lt _ (by omega)
  by_cases h : v / 2 ^ b % 2 = 1
  · simp [h]
  · simp [h]; omega
/-- sums of bits -/
def bs (f : Nat → Bool) : Nat → Nat
  | 0 => 0
  | n + 1 => bs f n + (if f n then 2 ^ n else 0)
theorem bs_lt (f : Nat → Bool) : ∀ n, bs f n < 2 ^ n
  | 0 => by simp [bs]
  | n + 1 => by
    have := bs_lt f n
    simp only [bs, Nat.pow_succ]
    split <;> omega
theorem bs_congr {f g : Nat → Bool} : ∀ {n : Nat}, (∀ i, i < n → f i = g i) → bs f n = bs g n
  | 0, _ => rfl
  | n + 1, h => by rw [bs, bs, bs_congr (fun i hi => h i (by omega)), h n (by omega)]
theorem bs_bit (f : Nat → Bool) : ∀ n i, (bs f n).testBit i = (decide (i < n) && f i)
  | 0, i => by simp [bs]
  | n + 1, i => by
    have hl := bs_lt f n
    rw [bs]
    have e : (bs f n + (if f n then 2 ^ n else 0)) = (bs f n ||| (if f n then 2 ^ n else 0)) := by
      split
      · rw [or_pow hl]
      · simp
    rw [e, Nat.testBit_or, bs_bit f n i]
    by_cases h : i = n
    · subst h
      cases hf : f i <;> simp [hf]
    · by_cases h2 : i < n
      · cases hf : f n <;> simp [h2, show i < n + 1 by omega, hf, Nat.testBit_two_pow, Ne.symm h]
      · cases hf : f n <;> simp [h2, show ¬ i < n + 1 by omega, hf, Nat.testBit_two_pow, Ne.symm h]
theorem bs_eq0 (f : Nat → Bool) (n : Nat) : bs f n = 0 ↔ ∀ i, i < n → f i = false := by
  constructor
  · intro h i hi
    have := bs_bit f n i
    rw [h] at this
    simp [hi] at this
    exact this
  · intro h
    rw [bs_congr h]
    clear h
    induction n with
    | zero => rfl
    | succ n ih => simp [bs, ih]
theorem bs_t {f : Nat → Bool} {i : Nat} (hi : i < 31) (h : f i = true) : nI (bs f i) ||| (1 : Int32) <<< (nI i &&& 31) = nI (bs f (i + 1)) := by
  rw [shl1 hi, nI_or, or_pow (bs_lt f i), bs, h]; rfl
theorem bs_f {f : Nat → Bool} {i : Nat} (h : f i = false) : bs f i = bs f (i + 1) := by rw [bs, h]; rfl
theorem bs_b {f : Nat → Bool} {i x : Nat} (hi : i < 31) (h : x = if f i then 1 else 0) : nI (bs f i) ||| nI x <<< (nI i &&& 31) = nI (bs f (i + 1)) := by
  rw [shlB (by rw [h]; split <;> omega) hi, nI_or]
  cases hf : f i with
  | true => rw [hf] at h; simp at h; rw [h, Nat.one_mul, or_pow (bs_lt f i), bs, hf]; rfl
  | false => rw [hf] at h; simp at h; rw [h, Nat.zero_mul, Nat.or_zero, bs, hf]; rfl
/-- how many of nine bits -/
def on9 (v : Nat) : Nat → Nat
  | 0 => 0
  | n + 1 => on9 v n + (if v.testBit n then 1 else 0)
def ones9 (v : Nat) : Nat := on9 v 9
theorem on9_le (v : Nat) : ∀ n, on9 v n ≤ n
  | 0 => Nat.le_refl _
  | n + 1 => by have := on9_le v n; simp only [on9]; split <;> omega
theorem ones9_le (v : Nat) : ones9 v ≤ 9 := on9_le v 9
theorem one_nI : (1 : Int32) = nI 1 := by decide
theorem zero_nI : (0 : Int32) = nI 0 := by decide
end
section
/-! the JDK's two -/
def il_J6_bitCount_0f7a4 : List (Nat × Instr × Nat) := [(0, .iload_n 0, 1), (1, .iload_n 0, 1), (2, .iconst 1, 1), (3, .iushr, 1), (4, .ldc_w 265, 3), (7, .iand, 1), (8, .isub, 1), (9, .istore_n 0, 1), (10, .iload_n 0, 1), (11, .ldc_w 266, 3), (14, .iand, 1), (15, .iload_n 0, 1), (16, .iconst 2, 1), (17, .iushr, 1), (18, .ldc_w 266, 3), (21, .iand, 1), (22, .iadd, 1), (23, .istore_n 0, 1), (24, .iload_n 0, 1), (25, .iload_n 0, 1), (26, .iconst 4, 1), (27, .iushr, 1), (28, .iadd, 1), (29, .ldc_w 267, 3), (32, .iand, 1), (33, .istore_n 0, 1), (34, .iload_n 0, 1), (35, .iload_n 0, 1), (36, .bipush 8, 2), (38, .iushr, 1), (39, .iadd, 1), (40, .istore_n 0, 1), (41, .iload_n 0, 1), (42, .iload_n 0, 1), (43, .bipush 16, 2), (45, .iushr, 1), (46, .iadd, 1), (47, .istore_n 0, 1), (48, .iload_n 0, 1), (49, .bipush 63, 2), (51, .iand, 1), (52, .ireturn, 1)]
def mt_J6_bitCount_0f7a4 : Mt := (cJ6_bitCount_0f7a4, RJ6, 1, (some .int), ({ frames := 0, cells := 0, slots := 0, locals := 0 } : Room), false, none, none)
set_option maxRecDepth 100000 in
theorem dl_J6_bitCount_0f7a4 : ∀ q ∈ il_J6_bitCount_0f7a4, decode (mt_J6_bitCount_0f7a4).1 q.1 = .ok q.2 := by decide +kernel
def tb_J6_bitCount_0f7a4 : Tb := [(0, x_il 1 0, false),
  (1, x_il 2 0, false),
  (2, x_c 3 (.int 1), false),
  (3, x_ii 4 ushr, false),
  (4, x_c 7 (.int 1431655765), false),
  (7, x_ii 8 (fun x y : Int32 => x &&& y), false),
  (8, x_ii 9 (fun x y : Int32 => x - y), false),
  (9, x_is 10 0, false),
  (10, x_il 11 0, true),
  (11, x_c 14 (.int 858993459), false),
  (14, x_ii 15 (fun x y : Int32 => x &&& y), false),
  (15, x_il 16 0, false),
  (16, x_c 17 (.int 2), false),
  (17, x_ii 18 ushr, false),
  (18, x_c 21 (.int 858993459), false),
  (21, x_ii 22 (fun x y : Int32 => x &&& y), false),
  (22, x_ii 23 (fun x y : Int32 => x + y), false),
  (23, x_is 24 0, false),
  (24, x_il 25 0, true),
  (25, x_il 26 0, false),
  (26, x_c 27 (.int 4), false),
  (27, x_ii 28 ushr, false),
  (28, x_ii 29 (fun x y : Int32 => x + y), false),
  (29, x_c 32 (.int 252645135), false),
  (32, x_ii 33 (fun x y : Int32 => x &&& y), false),
  (33, x_is 34 0, false),
  (34, x_il 35 0, true),
  (35, x_il 36 0, false),
  (36, x_c 38 (.int 8), false),
  (38, x_ii 39 ushr, false),
  (39, x_ii 40 (fun x y : Int32 => x + y), false),
  (40, x_is 41 0, false),
  (41, x_il 42 0, true),
  (42, x_il 43 0, false),
  (43, x_c 45 (.int 16), false),
  (45, x_ii 46 ushr, false),
  (46, x_ii 47 (fun x y : Int32 => x + y), false),
  (47, x_is 48 0, false),
  (48, x_il 49 0, true),
  (49, x_c 51 (.int 63), false),
  (51, x_ii 52 (fun x y : Int32 => x &&& y), false),
  (52, x_rI, false)]
set_option maxRecDepth 100000 in
theorem tk_J6_bitCount_0f7a4 : TbOk (mt_J6_bitCount_0f7a4) (tb_J6_bitCount_0f7a4) :=
  tkc (s_iload_n (at_ dl_J6_bitCount_0f7a4 0 (ins := .iload_n 0) rfl)) (
  tkc (s_iload_n (at_ dl_J6_bitCount_0f7a4 1 (ins := .iload_n 0) rfl)) (
  tkc (s_iconst (at_ dl_J6_bitCount_0f7a4 2 (ins := .iconst 1) rfl) (by first | rfl | decide)) (
  tkc (s_iushr (at_ dl_J6_bitCount_0f7a4 3 (ins := .iushr) rfl)) (
  tkc (s_ldcw (at_ dl_J6_bitCount_0f7a4 4 (ins := .ldc_w 265) rfl) (tg 376 (by decide +kernel) (by decide +kernel))) (
  tkc (s_iand (at_ dl_J6_bitCount_0f7a4 5 (ins := .iand) rfl)) (
  tkc (s_isub (at_ dl_J6_bitCount_0f7a4 6 (ins := .isub) rfl)) (
  tkc (s_istore_n (at_ dl_J6_bitCount_0f7a4 7 (ins := .istore_n 0) rfl) (by decide)) (
  tkc (s_iload_n (at_ dl_J6_bitCount_0f7a4 8 (ins := .iload_n 0) rfl)) (
  tkc (s_ldcw (at_ dl_J6_bitCount_0f7a4 9 (ins := .ldc_w 266) rfl) (tg 377 (by decide +kernel) (by decide +kernel))) (
  tkc (s_iand (at_ dl_J6_bitCount_0f7a4 10 (ins := .iand) rfl)) (
  tkc (s_iload_n (at_ dl_J6_bitCount_0f7a4 11 (ins := .iload_n 0) rfl)) (
  tkc (s_iconst (at_ dl_J6_bitCount_0f7a4 12 (ins := .iconst 2) rfl) (by first | rfl | decide)) (
  tkc (s_iushr (at_ dl_J6_bitCount_0f7a4 13 (ins := .iushr) rfl)) (
  tkc (s_ldcw (at_ dl_J6_bitCount_0f7a4 14 (ins := .ldc_w 266) rfl) (tg 377 (by decide +kernel) (by decide +kernel))) (
  tkc (s_iand (at_ dl_J6_bitCount_0f7a4 15 (ins := .iand) rfl)) (
  tkc (s_iadd (at_ dl_J6_bitCount_0f7a4 16 (ins := .iadd) rfl)) (
  tkc (s_istore_n (at_ dl_J6_bitCount_0f7a4 17 (ins := .istore_n 0) rfl) (by decide)) (
  tkc (s_iload_n (at_ dl_J6_bitCount_0f7a4 18 (ins := .iload_n 0) rfl)) (
  tkc (s_iload_n (at_ dl_J6_bitCount_0f7a4 19 (ins := .iload_n 0) rfl)) (
  tkc (s_iconst (at_ dl_J6_bitCount_0f7a4 20 (ins := .iconst 4) rfl) (by first | rfl | decide)) (
  tkc (s_iushr (at_ dl_J6_bitCount_0f7a4 21 (ins := .iushr) rfl)) (
  tkc (s_iadd (at_ dl_J6_bitCount_0f7a4 22 (ins := .iadd) rfl)) (
  tkc (s_ldcw (at_ dl_J6_bitCount_0f7a4 23 (ins := .ldc_w 267) rfl) (tg 378 (by decide +kernel) (by decide +kernel))) (
  tkc (s_iand (at_ dl_J6_bitCount_0f7a4 24 (ins := .iand) rfl)) (
  tkc (s_istore_n (at_ dl_J6_bitCount_0f7a4 25 (ins := .istore_n 0) rfl) (by decide)) (
  tkc (s_iload_n (at_ dl_J6_bitCount_0f7a4 26 (ins := .iload_n 0) rfl)) (
  tkc (s_iload_n (at_ dl_J6_bitCount_0f7a4 27 (ins := .iload_n 0) rfl)) (
  tkc (s_bipush (at_ dl_J6_bitCount_0f7a4 28 (ins := .bipush 8) rfl) (by first | rfl | decide)) (
  tkc (s_iushr (at_ dl_J6_bitCount_0f7a4 29 (ins := .iushr) rfl)) (
  tkc (s_iadd (at_ dl_J6_bitCount_0f7a4 30 (ins := .iadd) rfl)) (
  tkc (s_istore_n (at_ dl_J6_bitCount_0f7a4 31 (ins := .istore_n 0) rfl) (by decide)) (
  tkc (s_iload_n (at_ dl_J6_bitCount_0f7a4 32 (ins := .iload_n 0) rfl)) (
  tkc (s_iload_n (at_ dl_J6_bitCount_0f7a4 33 (ins := .iload_n 0) rfl)) (
  tkc (s_bipush (at_ dl_J6_bitCount_0f7a4 34 (ins := .bipush 16) rfl) (by first | rfl | decide)) (
  tkc (s_iushr (at_ dl_J6_bitCount_0f7a4 35 (ins := .iushr) rfl)) (
  tkc (s_iadd (at_ dl_J6_bitCount_0f7a4 36 (ins := .iadd) rfl)) (
  tkc (s_istore_n (at_ dl_J6_bitCount_0f7a4 37 (ins := .istore_n 0) rfl) (by decide)) (
  tkc (s_iload_n (at_ dl_J6_bitCount_0f7a4 38 (ins := .iload_n 0) rfl)) (
  tkc (s_bipush (at_ dl_J6_bitCount_0f7a4 39 (ins := .bipush 63) rfl) (by first | rfl | decide)) (
  tkc (s_iand (at_ dl_J6_bitCount_0f7a4 40 (ins := .iand) rfl)) (
  tkc (s_rI (at_ dl_J6_bitCount_0f7a4 41 (ins := .ireturn) rfl) rfl) ( tk0))))))))))))))))))))))))))))))))))))))))))
theorem lf_J6_bitCount_0f7a4 : lk (tb_J6_bitCount_0f7a4) 0 = (x_il 1 0, false) ∧ lk (tb_J6_bitCount_0f7a4) 1 = (x_il 2 0, false) ∧ lk (tb_J6_bitCount_0f7a4) 2 = (x_c 3 (.int 1), false) ∧ lk (tb_J6_bitCount_0f7a4) 3 = (x_ii 4 ushr, false) ∧ lk (tb_J6_bitCount_0f7a4) 4 = (x_c 7 (.int 1431655765), false) ∧ lk (tb_J6_bitCount_0f7a4) 7 = (x_ii 8 (fun x y : Int32 => x &&& y), false) ∧ lk (tb_J6_bitCount_0f7a4) 8 = (x_ii 9 (fun x y : Int32 => x - y), false) ∧ lk (tb_J6_bitCount_0f7a4) 9 = (x_is 10 0, false) ∧ lk (tb_J6_bitCount_0f7a4) 10 = (x_il 11 0, true) ∧ lk (tb_J6_bitCount_0f7a4) 11 = (x_c 14 (.int 858993459), false) ∧ lk (tb_J6_bitCount_0f7a4) 14 = (x_ii 15 (fun x y : Int32 => x &&& y), false) ∧ lk (tb_J6_bitCount_0f7a4) 15 = (x_il 16 0, false) ∧ lk (tb_J6_bitCount_0f7a4) 16 = (x_c 17 (.int 2), false) ∧ lk (tb_J6_bitCount_0f7a4) 17 = (x_ii 18 ushr, false) ∧ lk (tb_J6_bitCount_0f7a4) 18 = (x_c 21 (.int 858993459), false) ∧ lk (tb_J6_bitCount_0f7a4) 21 = (x_ii 22 (fun x y : Int32 => x &&& y), false) ∧ lk (tb_J6_bitCount_0f7a4) 22 = (x_ii 23 (fun x y : Int32 => x + y), false) ∧ lk (tb_J6_bitCount_0f7a4) 23 = (x_is 24 0, false) ∧ lk (tb_J6_bitCount_0f7a4) 24 = (x_il 25 0, true) ∧ lk (tb_J6_bitCount_0f7a4) 25 = (x_il 26 0, false) ∧ lk (tb_J6_bitCount_0f7a4) 26 = (x_c 27 (.int 4), false) ∧ lk (tb_J6_bitCount_0f7a4) 27 = (x_ii 28 ushr, false) ∧ lk (tb_J6_bitCount_0f7a4) 28 = (x_ii 29 (fun x y : Int32 => x + y), false) ∧ lk (tb_J6_bitCount_0f7a4) 29 = (x_c 32 (.int 252645135), false) ∧ lk (tb_J6_bitCount_0f7a4) 32 = (x_ii 33 (fun x y : Int32 => x &&& y), false) ∧ lk (tb_J6_bitCount_0f7a4) 33 = (x_is 34 0, false) ∧ lk (tb_J6_bitCount_0f7a4) 34 = (x_il 35 0, true) ∧ lk (tb_J6_bitCount_0f7a4) 35 = (x_il 36 0, false) ∧ lk (tb_J6_bitCount_0f7a4) 36 = (x_c 38 (.int 8), false) ∧ lk (tb_J6_bitCount_0f7a4) 38 = (x_ii 39 ushr, false) ∧ lk (tb_J6_bitCount_0f7a4) 39 = (x_ii 40 (fun x y : Int32 => x + y), false) ∧ lk (tb_J6_bitCount_0f7a4) 40 = (x_is 41 0, false) ∧ lk (tb_J6_bitCount_0f7a4) 41 = (x_il 42 0, true) ∧ lk (tb_J6_bitCount_0f7a4) 42 = (x_il 43 0, false) ∧ lk (tb_J6_bitCount_0f7a4) 43 = (x_c 45 (.int 16), false) ∧ lk (tb_J6_bitCount_0f7a4) 45 = (x_ii 46 ushr, false) ∧ lk (tb_J6_bitCount_0f7a4) 46 = (x_ii 47 (fun x y : Int32 => x + y), false) ∧ lk (tb_J6_bitCount_0f7a4) 47 = (x_is 48 0, false) ∧ lk (tb_J6_bitCount_0f7a4) 48 = (x_il 49 0, true) ∧ lk (tb_J6_bitCount_0f7a4) 49 = (x_c 51 (.int 63), false) ∧ lk (tb_J6_bitCount_0f7a4) 51 = (x_ii 52 (fun x y : Int32 => x &&& y), false) ∧ lk (tb_J6_bitCount_0f7a4) 52 = (x_rI, false) := ⟨rfl, rfl, rfl, rfl, rfl, rfl, rfl, rfl, rfl, rfl, rfl, rfl, rfl, rfl, rfl, rfl, rfl, rfl, rfl, rfl, rfl, rfl, rfl, rfl, rfl, rfl, rfl, rfl, rfl, rfl, rfl, rfl, rfl, rfl, rfl, rfl, rfl, rfl, rfl, rfl, rfl, rfl⟩
def bc1 (x : Int32) : Int32 := x - (ushr x 1 &&& 1431655765)
def bc2 (x : Int32) : Int32 := (x &&& 858993459) + (ushr x 2 &&& 858993459)
def bc3 (x : Int32) : Int32 := (x + ushr x 4) &&& 252645135
def bc4 (x : Int32) : Int32 := x + ushr x 8
def bc5 (x : Int32) : Int32 := x + ushr x 16
def P_J6_bitCount_0f7a4 : PTT := fun as M R => match as with
  | [.int x] => tn x < 512 ∧ R (some (.int (nI (ones9 (tn x))))) M
  | _ => False
set_option maxRecDepth 100000 in
theorem bc_all : ∀ v, v < 512 → bc5 (bc4 (bc3 (bc2 (bc1 (nI v))))) &&& 63 = nI (ones9 v) := by decide +kernel
theorem ok_J6_bitCount_0f7a4 : Ok yJ6_bitCount_0f7a4 mt_J6_bitCount_0f7a4 P_J6_bitCount_0f7a4 := by
  refine Ok.of (by decide) rfl rfl rfl rfl fun av M R hP => ?_
  unfold P_J6_bitCount_0f7a4 at hP
  split at hP
  next x =>
    refine ⟨by simp [ent, wide, mt_J6_bitCount_0f7a4], ?_⟩
    show J mt_J6_bitCount_0f7a4 R 0 [some (.int x)] [] M
    have hb := bc_all (tn x) hP.1
    rw [nI_tn] at hb
    have hR := hP.2
    rw [← hb] at hR
    refine J.of tk_J6_bitCount_0f7a4 60 fun ρ hρ => ?_
    simp only [hρ, x_c, x_il, x_ll, x_al, x_is, x_as, x_ls, x_inc, x_ii, x_iq, x_i1, x_l2, x_lq, x_lh, x_i2l, x_l2i, x_lcmp, x_dup, x_dup2, x_pop, x_if, x_ifn, x_ic, x_icn, x_go, x_sw, swc, x_l01, x_mx, x_gI, x_gL, x_gR, x_pI, x_pZ, x_pL, x_pR, x_ia, x_za, x_aa, x_ias, x_zas, x_aas, x_fac, x_fa, x_slen, x_sa, x_ac, x_oi, x_new, x_na, x_cS, x_cV, x_cI, x_rI, x_rZ, x_rL, x_r0, pa, short, oc, lg, lset, lset2, wide, cond_true, cond_false, true_and, and_true, ↓reduceIte, Bool.false_eq_true, true_or, or_true, lf_J6_bitCount_0f7a4]
    show J mt_J6_bitCount_0f7a4 R 10 [some (.int (bc1 x))] [] M
    generalize bc1 x = x at hR
    refine J.of tk_J6_bitCount_0f7a4 60 fun ρ hρ => ?_
    simp only [hρ, x_c, x_il, x_ll, x_al, x_is, x_as, x_ls, x_inc, x_ii, x_iq, x_i1, x_l2, x_lq, x_lh, x_i2l, x_l2i, x_lcmp, x_dup, x_dup2, x_pop, x_if, x_ifn, x_ic, x_icn, x_go, x_sw, swc, x_l01, x_mx, x_gI, x_gL, x_gR, x_pI, x_pZ, x_pL, x_pR, x_ia, x_za, x_aa, x_ias, x_zas, x_aas, x_fac, x_fa, x_slen, x_sa, x_ac, x_oi, x_new, x_na, x_cS, x_cV, x_cI, x_rI, x_rZ, x_rL, x_r0, pa, short, oc, lg, lset, lset2, wide, cond_true, cond_false, true_and, and_true, ↓reduceIte, Bool.false_eq_true, true_or, or_true, lf_J6_bitCount_0f7a4]
    show J mt_J6_bitCount_0f7a4 R 24 [some (.int (bc2 x))] [] M
    generalize bc2 x = x at hR
    refine J.of tk_J6_bitCount_0f7a4 60 fun ρ hρ => ?_
    simp only [hρ, x_c, x_il, x_ll, x_al, x_is, x_as, x_ls, x_inc, x_ii, x_iq, x_i1, x_l2, x_lq, x_lh, x_i2l, x_l2i, x_lcmp, x_dup, x_dup2, x_pop, x_if, x_ifn, x_ic, x_icn, x_go, x_sw, swc, x_l01, x_mx, x_gI, x_gL, x_gR, x_pI, x_pZ, x_pL, x_pR, x_ia, x_za, x_aa, x_ias, x_zas, x_aas, x_fac, x_fa, x_slen, x_sa, x_ac, x_oi, x_new, x_na, x_cS, x_cV, x_cI, x_rI, x_rZ, x_rL, x_r0, pa, short, oc, lg, lset, lset2, wide, cond_true, cond_false, true_and, and_true, ↓reduceIte, Bool.false_eq_true, true_or, or_true, lf_J6_bitCount_0f7a4]
    show J mt_J6_bitCount_0f7a4 R 34 [some (.int (bc3 x))] [] M
    generalize bc3 x = x at hR
    refine J.of tk_J6_bitCount_0f7a4 60 fun ρ hρ => ?_
    simp only [hρ, x_c, x_il, x_ll, x_al, x_is, x_as, x_ls, x_inc, x_ii, x_iq, x_i1, x_l2, x_lq, x_lh, x_i2l, x_l2i, x_lcmp, x_dup, x_dup2, x_pop, x_if, x_ifn, x_ic, x_icn, x_go, x_sw, swc, x_l01, x_mx, x_gI, x_gL, x_gR, x_pI, x_pZ, x_pL, x_pR, x_ia, x_za, x_aa, x_ias, x_zas, x_aas, x_fac, x_fa, x_slen, x_sa, x_ac, x_oi, x_new, x_na, x_cS, x_cV, x_cI, x_rI, x_rZ, x_rL, x_r0, pa, short, oc, lg, lset, lset2, wide, cond_true, cond_false, true_and, and_true, ↓reduceIte, Bool.false_eq_true, true_or, or_true, lf_J6_bitCount_0f7a4]
    show J mt_J6_bitCount_0f7a4 R 41 [some (.int (bc4 x))] [] M
    generalize bc4 x = x at hR
    refine J.of tk_J6_bitCount_0f7a4 60 fun ρ hρ => ?_
    simp only [hρ, x_c, x_il, x_ll, x_al, x_is, x_as, x_ls, x_inc, x_ii, x_iq, x_i1, x_l2, x_lq, x_lh, x_i2l, x_l2i, x_lcmp, x_dup, x_dup2, x_pop, x_if, x_ifn, x_ic, x_icn, x_go, x_sw, swc, x_l01, x_mx, x_gI, x_gL, x_gR, x_pI, x_pZ, x_pL, x_pR, x_ia, x_za, x_aa, x_ias, x_zas, x_aas, x_fac, x_fa, x_slen, x_sa, x_ac, x_oi, x_new, x_na, x_cS, x_cV, x_cI, x_rI, x_rZ, x_rL, x_r0, pa, short, oc, lg, lset, lset2, wide, cond_true, cond_false, true_and, and_true, ↓reduceIte, Bool.false_eq_true, true_or, or_true, lf_J6_bitCount_0f7a4]
    show J mt_J6_bitCount_0f7a4 R 48 [some (.int (bc5 x))] [] M
    generalize bc5 x = x at hR
    refine J.of tk_J6_bitCount_0f7a4 60 fun ρ hρ => ?_
    simp only [hρ, x_c, x_il, x_ll, x_al, x_is, x_as, x_ls, x_inc, x_ii, x_iq, x_i1, x_l2, x_lq, x_lh, x_i2l, x_l2i, x_lcmp, x_dup, x_dup2, x_pop, x_if, x_ifn, x_ic, x_icn, x_go, x_sw, swc, x_l01, x_mx, x_gI, x_gL, x_gR, x_pI, x_pZ, x_pL, x_pR, x_ia, x_za, x_aa, x_ias, x_zas, x_aas, x_fac, x_fa, x_slen, x_sa, x_ac, x_oi, x_new, x_na, x_cS, x_cV, x_cI, x_rI, x_rZ, x_rL, x_r0, pa, short, oc, lg, lset, lset2, wide, cond_true, cond_false, true_and, and_true, ↓reduceIte, Bool.false_eq_true, true_or, or_true, lf_J6_bitCount_0f7a4]
    exact hR
  next => exact hP.elim
end
section
/-! STATE: five places from k on: the object, over, level, total, message -/
def IsSt (S : Sh) (k : Nat) : Prop := tO S k 5 ∧ sR S k 0 = k + 1 ∧ sR S k 1 = k + 2 ∧ sR S k 2 = k + 3 ∧ sR S k 3 = k + 4 ∧ tA S (k + 1) 1 ∧ ln S (k + 1) = 6 ∧ tA S (k + 2) 1 ∧ ln S (k + 2) = 9 ∧ tA S (k + 3) 1 ∧ ln S (k + 3) = 9 ∧ tA S (k + 4) 1 ∧ ln S (k + 4) = 54
theorem IsSt.f {S : Sh} {k : Nat} (h : IsSt S k) : tO S k 5 ∧ sR S k 0 = k + 1 ∧ sR S k 1 = k + 2 ∧ sR S k 2 = k + 3 ∧ sR S k 3 = k + 4 ∧ tA S (k + 1) 1 ∧ ln S (k + 1) = 6 ∧ tA S (k + 2) 1 ∧ ln S (k + 2) = 9 ∧ tA S (k + 3) 1 ∧ ln S (k + 3) = 9 ∧ tA S (k + 4) 1 ∧ ln S (k + 4) = 54 := h
abbrev MI : Type := Nat → Nat → Int32
def inR (a : Int) (x : Int32) : Prop := -a ≤ x.toInt ∧ x.toInt ≤ a
/-- what holds of a state in use: n bits, m checks -/
def SV (I : MI) (k n m : Nat) : Prop := (2 ≤ n ∧ n ≤ 9 ∧ m ≤ 6) ∧ (I k 4 = nI n ∧ I k 5 = nI m) ∧ (∀ c, c < m → tn (I (k + 1) c) < 2 ^ n) ∧ (∃ o, o ≤ 9 ∧ I k 6 = nI o) ∧ (∀ b, b < 9 → inR 31 (I (k + 2) b)) ∧ (∀ b, b < 9 → inR 99 (I (k + 3) b)) ∧ (∀ j, j < 54 → inR 31 (I (k + 4) j))
theorem SV.congr {I I' : MI} {k n m : Nat} (h : SV I k n m) (h0 : I' k = I k) (h1 : I' (k + 1) = I (k + 1)) (h2 : I' (k + 2) = I (k + 2)) (h3 : I' (k + 3) = I (k + 3)) (h4 : I' (k + 4) = I (k + 4)) : SV I' k n m := by
  unfold SV at h ⊢
  rw [h0, h1, h2, h3, h4]
  exact h
def wdF (t : Nat → Int32) (n : Nat) : Nat := bs (fun b => decide (t b < 0)) n
def ovS (I : MI) (k c : Nat) : Nat := tn (I (k + 1) c)
def opB (ov : Nat → Nat) (m w : Nat) : Nat := bs (fun c => ones9 (ov c &&& w) % 2 == 1) m
theorem pow9 {n : Nat} (h : n ≤ 9) : 2 ^ n ≤ 512 := by
  have : 2 ^ n ≤ 2 ^ 9 := Nat.pow_le_pow_right (by omega) h
  omega
theorem SV.ov {I : MI} {k n m c : Nat} (h : SV I k n m) (hc : c < m) : ovS I k c < 512 := Nat.lt_of_lt_of_le (h.2.2.1 c hc) (pow9 h.1.2.1)
theorem wdF_lt (t : Nat → Int32) {n : Nat} (h : n ≤ 9) : wdF t n < 512 := Nat.lt_of_lt_of_le (bs_lt _ _) (pow9 h)
def il_X5_hasBit : List (Nat × Instr × Nat) := [(0, .iload_n 1, 1), (1, .ifCond .lt 15, 3), (4, .iload_n 1, 1), (5, .aload_n 0, 1), (6, .getfield 24, 3), (9, .if_icmp .ge 7, 3), (12, .iconst 1, 1), (13, .goto 4, 3), (16, .iconst 0, 1), (17, .ireturn, 1)]
def mt_X5_hasBit : Mt := (cX5_hasBit, RX5, 2, (some .boolean), ({ frames := 0, cells := 0, slots := 0, locals := 0 } : Room), false, none, none)
set_option maxRecDepth 100000 in
theorem dl_X5_hasBit : ∀ q ∈ il_X5_hasBit, decode (mt_X5_hasBit).1 q.1 = .ok q.2 := by decide +kernel
def tb_X5_hasBit : Tb := [(0, x_il 1 1, false),
  (1, x_if 16 4 (fun x : Int32 => x < 0), false),
  (4, x_il 5 1, false),
  (5, x_al 6 0, false),
  (6, x_gI 5 4 9, false),
  (9, x_ic 16 12 (fun x y : Int32 => y ≤ x), false),
  (12, x_c 13 (.int 1), false),
  (13, x_go 17, false),
  (16, x_c 17 (.int 0), false),
  (17, x_rZ, false)]
set_option maxRecDepth 100000 in
theorem tk_X5_hasBit : TbOk (mt_X5_hasBit) (tb_X5_hasBit) :=
  tkc (s_iload_n (at_ dl_X5_hasBit 0 (ins := .iload_n 1) rfl)) (
  tkc (s_if_lt (at_ dl_X5_hasBit 1 (ins := .ifCond .lt 15) rfl) (by decide)) (
  tkc (s_iload_n (at_ dl_X5_hasBit 2 (ins := .iload_n 1) rfl)) (
  tkc (s_aload_n (at_ dl_X5_hasBit 3 (ins := .aload_n 0) rfl)) (
  tkc (s_gI (at_ dl_X5_hasBit 4 (ins := .getfield 24) rfl) (by decide) (by decide) (by decide) (tg 134 (by decide +kernel) (by decide +kernel))) (
  tkc (s_ic_ge (at_ dl_X5_hasBit 5 (ins := .if_icmp .ge 7) rfl) (by decide)) (
  tkc (s_iconst (at_ dl_X5_hasBit 6 (ins := .iconst 1) rfl) (by first | rfl | decide)) (
  tkc (s_goto (at_ dl_X5_hasBit 7 (ins := .goto 4) rfl) (by decide)) (
  tkc (s_iconst (at_ dl_X5_hasBit 8 (ins := .iconst 0) rfl) (by first | rfl | decide)) (
  tkc (s_rZ (at_ dl_X5_hasBit 9 (ins := .ireturn) rfl) rfl) ( tk0))))))))))
theorem lf_X5_hasBit : lk (tb_X5_hasBit) 0 = (x_il 1 1, false) ∧ lk (tb_X5_hasBit) 1 = (x_if 16 4 (fun x : Int32 => x < 0), false) ∧ lk (tb_X5_hasBit) 4 = (x_il 5 1, false) ∧ lk (tb_X5_hasBit) 5 = (x_al 6 0, false) ∧ lk (tb_X5_hasBit) 6 = (x_gI 5 4 9, false) ∧ lk (tb_X5_hasBit) 9 = (x_ic 16 12 (fun x y : Int32 => y ≤ x), false) ∧ lk (tb_X5_hasBit) 12 = (x_c 13 (.int 1), false) ∧ lk (tb_X5_hasBit) 13 = (x_go 17, false) ∧ lk (tb_X5_hasBit) 16 = (x_c 17 (.int 0), false) ∧ lk (tb_X5_hasBit) 17 = (x_rZ, false) := ⟨rfl, rfl, rfl, rfl, rfl, rfl, rfl, rfl, rfl, rfl⟩
def P_X5_hasBit : PTT := fun as M R => match as with
  | [.ref k, .int b] => tO M.1 k 5 ∧ R (some (.int (bI (¬ b < 0 ∧ ¬ M.2.1 k 4 ≤ b)))) M
  | _ => False
set_option maxRecDepth 20000 in
theorem ok_X5_hasBit : Ok yX5_hasBit mt_X5_hasBit P_X5_hasBit := by
  refine Ok.of (by decide) rfl rfl rfl rfl fun av ⟨S, I, L⟩ R hP => ?_
  unfold P_X5_hasBit at hP
  split at hP
  case h_2 => exact hP.elim
  rename_i k b
  obtain ⟨k, rfl⟩ : ∃ q : Nat, q = k := ⟨k, rfl⟩
  refine ⟨by simp [ent, wide, mt_X5_hasBit], ?_⟩
  show J mt_X5_hasBit R 0 [some (.ref k), some (.int b)] [] (S, I, L)
  try dsimp only at hP
  refine J.of tk_X5_hasBit 200 fun ρ hρ => ?_
  simp only [hρ, x_c, x_il, x_ll, x_al, x_is, x_as, x_ls, x_inc, x_ii, x_iq, x_i1, x_l2, x_lq, x_lh, x_i2l, x_l2i, x_lcmp, x_dup, x_dup2, x_pop, x_if, x_ifn, x_ic, x_icn, x_go, x_sw, swc, x_l01, x_mx, x_gI, x_gL, x_gR, x_pI, x_pZ, x_pL, x_pR, x_ia, x_za, x_aa, x_ias, x_zas, x_aas, x_fac, x_fa, x_slen, x_sa, x_ac, x_oi, x_new, x_na, x_cS, x_cV, x_cI, x_rI, x_rZ, x_rL, x_r0, pa, short, oc, lg, lset, lset2, wide, cond_true, cond_false, true_and, and_true, ↓reduceIte, Bool.false_eq_true, true_or, or_true, lf_X5_hasBit, hP.1]
  refine ⟨fun h => ?_, fun h => ⟨fun h2 => ?_, fun h2 => ?_⟩⟩
  · have := hP.2; rwa [bI_f (fun q => q.1 h)] at this
  · have := hP.2; rwa [bI_f (fun q => q.2 h2)] at this
  · have := hP.2; rwa [bI_t ⟨h, h2⟩] at this
def il_X5_hasCheck : List (Nat × Instr × Nat) := [(0, .iload_n 1, 1), (1, .ifCond .lt 15, 3), (4, .iload_n 1, 1), (5, .aload_n 0, 1), (6, .getfield 28, 3), (9, .if_icmp .ge 7, 3), (12, .iconst 1, 1), (13, .goto 4, 3), (16, .iconst 0, 1), (17, .ireturn, 1)]
def mt_X5_hasCheck : Mt := (cX5_hasCheck, RX5, 2, (some .boolean), ({ frames := 0, cells := 0, slots := 0, locals := 0 } : Room), false, none, none)
set_option maxRecDepth 100000 in
theorem dl_X5_hasCheck : ∀ q ∈ il_X5_hasCheck, decode (mt_X5_hasCheck).1 q.1 = .ok q.2 := by decide +kernel
def tb_X5_hasCheck : Tb := [(0, x_il 1 1, false),
  (1, x_if 16 4 (fun x : Int32 => x < 0), false),
  (4, x_il 5 1, false),
  (5, x_al 6 0, false),
  (6, x_gI 5 5 9, false),
  (9, x_ic 16 12 (fun x y : Int32 => y ≤ x), false),
  (12, x_c 13 (.int 1), false),
  (13, x_go 17, false),
  (16, x_c 17 (.int 0), false),
  (17, x_rZ, false)]
set_option maxRecDepth 100000 in
theorem tk_X5_hasCheck : TbOk (mt_X5_hasCheck) (tb_X5_hasCheck) :=
  tkc (s_iload_n (at_ dl_X5_hasCheck 0 (ins := .iload_n 1) rfl)) (
  tkc (s_if_lt (at_ dl_X5_hasCheck 1 (ins := .ifCond .lt 15) rfl) (by decide)) (
  tkc (s_iload_n (at_ dl_X5_hasCheck 2 (ins := .iload_n 1) rfl)) (
  tkc (s_aload_n (at_ dl_X5_hasCheck 3 (ins := .aload_n 0) rfl)) (
  tkc (s_gI (at_ dl_X5_hasCheck 4 (ins := .getfield 28) rfl) (by decide) (by decide) (by decide) (tg 139 (by decide +kernel) (by decide +kernel))) (
  tkc (s_ic_ge (at_ dl_X5_hasCheck 5 (ins := .if_icmp .ge 7) rfl) (by decide)) (
  tkc (s_iconst (at_ dl_X5_hasCheck 6 (ins := .iconst 1) rfl) (by first | rfl | decide)) (
  tkc (s_goto (at_ dl_X5_hasCheck 7 (ins := .goto 4) rfl) (by decide)) (
  tkc (s_iconst (at_ dl_X5_hasCheck 8 (ins := .iconst 0) rfl) (by first | rfl | decide)) (
  tkc (s_rZ (at_ dl_X5_hasCheck 9 (ins := .ireturn) rfl) rfl) ( tk0))))))))))
theorem lf_X5_hasCheck : lk (tb_X5_hasCheck) 0 = (x_il 1 1, false) ∧ lk (tb_X5_hasCheck) 1 = (x_if 16 4 (fun x : Int32 => x < 0), false) ∧ lk (tb_X5_hasCheck) 4 = (x_il 5 1, false) ∧ lk (tb_X5_hasCheck) 5 = (x_al 6 0, false) ∧ lk (tb_X5_hasCheck) 6 = (x_gI 5 5 9, false) ∧ lk (tb_X5_hasCheck) 9 = (x_ic 16 12 (fun x y : Int32 => y ≤ x), false) ∧ lk (tb_X5_hasCheck) 12 = (x_c 13 (.int 1), false) ∧ lk (tb_X5_hasCheck) 13 = (x_go 17, false) ∧ lk (tb_X5_hasCheck) 16 = (x_c 17 (.int 0), false) ∧ lk (tb_X5_hasCheck) 17 = (x_rZ, false) := ⟨rfl, rfl, rfl, rfl, rfl, rfl, rfl, rfl, rfl, rfl⟩
def P_X5_hasCheck : PTT := fun as M R => match as with
  | [.ref k, .int b] => tO M.1 k 5 ∧ R (some (.int (bI (¬ b < 0 ∧ ¬ M.2.1 k 5 ≤ b)))) M
  | _ => False
set_option maxRecDepth 20000 in
theorem ok_X5_hasCheck : Ok yX5_hasCheck mt_X5_hasCheck P_X5_hasCheck := by
  refine Ok.of (by decide) rfl rfl rfl rfl fun av ⟨S, I, L⟩ R hP => ?_
  unfold P_X5_hasCheck at hP
  split at hP
  case h_2 => exact hP.elim
  rename_i k b
  obtain ⟨k, rfl⟩ : ∃ q : Nat, q = k := ⟨k, rfl⟩
  refine ⟨by simp [ent, wide, mt_X5_hasCheck], ?_⟩
  show J mt_X5_hasCheck R 0 [some (.ref k), some (.int b)] [] (S, I, L)
  try dsimp only at hP
  refine J.of tk_X5_hasCheck 200 fun ρ hρ => ?_
  simp only [hρ, x_c, x_il, x_ll, x_al, x_is, x_as, x_ls, x_inc, x_ii, x_iq, x_i1, x_l2, x_lq, x_lh, x_i2l, x_l2i, x_lcmp, x_dup, x_dup2, x_pop, x_if, x_ifn, x_ic, x_icn, x_go, x_sw, swc, x_l01, x_mx, x_gI, x_gL, x_gR, x_pI, x_pZ, x_pL, x_pR, x_ia, x_za, x_aa, x_ias, x_zas, x_aas, x_fac, x_fa, x_slen, x_sa, x_ac, x_oi, x_new, x_na, x_cS, x_cV, x_cI, x_rI, x_rZ, x_rL, x_r0, pa, short, oc, lg, lset, lset2, wide, cond_true, cond_false, true_and, and_true, ↓reduceIte, Bool.false_eq_true, true_or, or_true, lf_X5_hasCheck, hP.1]
  refine ⟨fun h => ?_, fun h => ⟨fun h2 => ?_, fun h2 => ?_⟩⟩
  · have := hP.2; rwa [bI_f (fun q => q.1 h)] at this
  · have := hP.2; rwa [bI_f (fun q => q.2 h2)] at this
  · have := hP.2; rwa [bI_t ⟨h, h2⟩] at this
def il_X5_allChecks : List (Nat × Instr × Nat) := [(0, .iconst 1, 1), (1, .aload_n 0, 1), (2, .getfield 28, 3), (5, .ishl, 1), (6, .iconst 1, 1), (7, .isub, 1), (8, .ireturn, 1)]
def mt_X5_allChecks : Mt := (cX5_allChecks, RX5, 1, (some .int), ({ frames := 0, cells := 0, slots := 0, locals := 0 } : Room), false, none, none)
set_option maxRecDepth 100000 in
theorem dl_X5_allChecks : ∀ q ∈ il_X5_allChecks, decode (mt_X5_allChecks).1 q.1 = .ok q.2 := by decide +kernel
def tb_X5_allChecks : Tb := [(0, x_c 1 (.int 1), false),
  (1, x_al 2 0, false),
  (2, x_gI 5 5 5, false),
  (5, x_ii 6 (fun x y : Int32 => x <<< (y &&& 31)), false),
  (6, x_c 7 (.int 1), false),
  (7, x_ii 8 (fun x y : Int32 => x - y), false),
  (8, x_rI, false)]
set_option maxRecDepth 100000 in
theorem tk_X5_allChecks : TbOk (mt_X5_allChecks) (tb_X5_allChecks) :=
  tkc (s_iconst (at_ dl_X5_allChecks 0 (ins := .iconst 1) rfl) (by first | rfl | decide)) (
  tkc (s_aload_n (at_ dl_X5_allChecks 1 (ins := .aload_n 0) rfl)) (
  tkc (s_gI (at_ dl_X5_allChecks 2 (ins := .getfield 28) rfl) (by decide) (by decide) (by decide) (tg 139 (by decide +kernel) (by decide +kernel))) (
  tkc (s_ishl (at_ dl_X5_allChecks 3 (ins := .ishl) rfl)) (
  tkc (s_iconst (at_ dl_X5_allChecks 4 (ins := .iconst 1) rfl) (by first | rfl | decide)) (
  tkc (s_isub (at_ dl_X5_allChecks 5 (ins := .isub) rfl)) (
  tkc (s_rI (at_ dl_X5_allChecks 6 (ins := .ireturn) rfl) rfl) ( tk0)))))))
theorem lf_X5_allChecks : lk (tb_X5_allChecks) 0 = (x_c 1 (.int 1), false) ∧ lk (tb_X5_allChecks) 1 = (x_al 2 0, false) ∧ lk (tb_X5_allChecks) 2 = (x_gI 5 5 5, false) ∧ lk (tb_X5_allChecks) 5 = (x_ii 6 (fun x y : Int32 => x <<< (y &&& 31)), false) ∧ lk (tb_X5_allChecks) 6 = (x_c 7 (.int 1), false) ∧ lk (tb_X5_allChecks) 7 = (x_ii 8 (fun x y : Int32 => x - y), false) ∧ lk (tb_X5_allChecks) 8 = (x_rI, false) := ⟨rfl, rfl, rfl, rfl, rfl, rfl, rfl⟩
def P_X5_allChecks : PTT := fun as M R => match as with
  | [.ref k] => tO M.1 k 5 ∧ R (some (.int ((1 : Int32) <<< (M.2.1 k 5 &&& 31) - 1))) M
  | _ => False
set_option maxRecDepth 20000 in
theorem ok_X5_allChecks : Ok yX5_allChecks mt_X5_allChecks P_X5_allChecks := by
  refine Ok.of (by decide) rfl rfl rfl rfl fun av ⟨S, I, L⟩ R hP => ?_
  unfold P_X5_allChecks at hP
  split at hP
  case h_2 => exact hP.elim
  rename_i k
  obtain ⟨k, rfl⟩ : ∃ q : Nat, q = k := ⟨k, rfl⟩
  refine ⟨by simp [ent, wide, mt_X5_allChecks], ?_⟩
  show J mt_X5_allChecks R 0 [some (.ref k)] [] (S, I, L)
  try dsimp only at hP
  refine J.of tk_X5_allChecks 200 fun ρ hρ => ?_
  simp only [hρ, x_c, x_il, x_ll, x_al, x_is, x_as, x_ls, x_inc, x_ii, x_iq, x_i1, x_l2, x_lq, x_lh, x_i2l, x_l2i, x_lcmp, x_dup, x_dup2, x_pop, x_if, x_ifn, x_ic, x_icn, x_go, x_sw, swc, x_l01, x_mx, x_gI, x_gL, x_gR, x_pI, x_pZ, x_pL, x_pR, x_ia, x_za, x_aa, x_ias, x_zas, x_aas, x_fac, x_fa, x_slen, x_sa, x_ac, x_oi, x_new, x_na, x_cS, x_cV, x_cI, x_rI, x_rZ, x_rL, x_r0, pa, short, oc, lg, lset, lset2, wide, cond_true, cond_false, true_and, and_true, ↓reduceIte, Bool.false_eq_true, true_or, or_true, lf_X5_allChecks, hP.1]
  exact hP.2
def il_X5_word : List (Nat × Instr × Nat) := [(0, .iconst 0, 1), (1, .istore_n 1, 1), (2, .iconst 0, 1), (3, .istore_n 2, 1), (4, .iload_n 2, 1), (5, .aload_n 0, 1), (6, .getfield 24, 3), (9, .if_icmp .ge 24, 3), (12, .aload_n 0, 1), (13, .getfield 18, 3), (16, .iload_n 2, 1), (17, .iaload, 1), (18, .ifCond .ge 9, 3), (21, .iload_n 1, 1), (22, .iconst 1, 1), (23, .iload_n 2, 1), (24, .ishl, 1), (25, .ior, 1), (26, .istore_n 1, 1), (27, .iinc 2 1, 3), (30, .goto (-26), 3), (33, .iload_n 1, 1), (34, .ireturn, 1)]
def mt_X5_word : Mt := (cX5_word, RX5, 3, (some .int), ({ frames := 0, cells := 0, slots := 0, locals := 0 } : Room), false, none, none)
set_option maxRecDepth 100000 in
theorem dl_X5_word : ∀ q ∈ il_X5_word, decode (mt_X5_word).1 q.1 = .ok q.2 := by decide +kernel
def tb_X5_word : Tb := [(0, x_c 1 (.int 0), false),
  (1, x_is 2 1, false),
  (2, x_c 3 (.int 0), false),
  (3, x_is 4 2, false),
  (4, x_il 5 2, true),
  (5, x_al 6 0, false),
  (6, x_gI 5 4 9, false),
  (9, x_ic 33 12 (fun x y : Int32 => y ≤ x), false),
  (12, x_al 13 0, false),
  (13, x_gR 5 2 16, false),
  (16, x_il 17 2, false),
  (17, x_ia 18, false),
  (18, x_if 27 21 (fun x : Int32 => 0 ≤ x), false),
  (21, x_il 22 1, false),
  (22, x_c 23 (.int 1), false),
  (23, x_il 24 2, false),
  (24, x_ii 25 (fun x y : Int32 => x <<< (y &&& 31)), false),
  (25, x_ii 26 (fun x y : Int32 => x ||| y), false),
  (26, x_is 27 1, false),
  (27, x_inc 30 2 1, false),
  (30, x_go 4, false),
  (33, x_il 34 1, false),
  (34, x_rI, false)]
set_option maxRecDepth 100000 in
theorem tk_X5_word : TbOk (mt_X5_word) (tb_X5_word) :=
  tkc (s_iconst (at_ dl_X5_word 0 (ins := .iconst 0) rfl) (by first | rfl | decide)) (
  tkc (s_istore_n (at_ dl_X5_word 1 (ins := .istore_n 1) rfl) (by decide)) (
  tkc (s_iconst (at_ dl_X5_word 2 (ins := .iconst 0) rfl) (by first | rfl | decide)) (
  tkc (s_istore_n (at_ dl_X5_word 3 (ins := .istore_n 2) rfl) (by decide)) (
  tkc (s_iload_n (at_ dl_X5_word 4 (ins := .iload_n 2) rfl)) (
  tkc (s_aload_n (at_ dl_X5_word 5 (ins := .aload_n 0) rfl)) (
  tkc (s_gI (at_ dl_X5_word 6 (ins := .getfield 24) rfl) (by decide) (by decide) (by decide) (tg 134 (by decide +kernel) (by decide +kernel))) (
  tkc (s_ic_ge (at_ dl_X5_word 7 (ins := .if_icmp .ge 24) rfl) (by decide)) (
  tkc (s_aload_n (at_ dl_X5_word 8 (ins := .aload_n 0) rfl)) (
  tkc (s_gR (at_ dl_X5_word 9 (ins := .getfield 18) rfl) (by decide) (by decide) (by decide) (tg 128 (by decide +kernel) (by decide +kernel))) (
  tkc (s_iload_n (at_ dl_X5_word 10 (ins := .iload_n 2) rfl)) (
  tkc (s_ia (at_ dl_X5_word 11 (ins := .iaload) rfl)) (
  tkc (s_if_ge (at_ dl_X5_word 12 (ins := .ifCond .ge 9) rfl) (by decide)) (
  tkc (s_iload_n (at_ dl_X5_word 13 (ins := .iload_n 1) rfl)) (
  tkc (s_iconst (at_ dl_X5_word 14 (ins := .iconst 1) rfl) (by first | rfl | decide)) (
  tkc (s_iload_n (at_ dl_X5_word 15 (ins := .iload_n 2) rfl)) (
  tkc (s_ishl (at_ dl_X5_word 16 (ins := .ishl) rfl)) (
  tkc (s_ior (at_ dl_X5_word 17 (ins := .ior) rfl)) (
  tkc (s_istore_n (at_ dl_X5_word 18 (ins := .istore_n 1) rfl) (by decide)) (
  tkc (s_iinc (at_ dl_X5_word 19 (ins := .iinc 2 1) rfl) (by decide) (by first | rfl | decide)) (
  tkc (s_goto (at_ dl_X5_word 20 (ins := .goto (-26)) rfl) (by decide)) (
  tkc (s_iload_n (at_ dl_X5_word 21 (ins := .iload_n 1) rfl)) (
  tkc (s_rI (at_ dl_X5_word 22 (ins := .ireturn) rfl) rfl) ( tk0)))))))))))))))))))))))
theorem lf_X5_word : lk (tb_X5_word) 0 = (x_c 1 (.int 0), false) ∧ lk (tb_X5_word) 1 = (x_is 2 1, false) ∧ lk (tb_X5_word) 2 = (x_c 3 (.int 0), false) ∧ lk (tb_X5_word) 3 = (x_is 4 2, false) ∧ lk (tb_X5_word) 4 = (x_il 5 2, true) ∧ lk (tb_X5_word) 5 = (x_al 6 0, false) ∧ lk (tb_X5_word) 6 = (x_gI 5 4 9, false) ∧ lk (tb_X5_word) 9 = (x_ic 33 12 (fun x y : Int32 => y ≤ x), false) ∧ lk (tb_X5_word) 12 = (x_al 13 0, false) ∧ lk (tb_X5_word) 13 = (x_gR 5 2 16, false) ∧ lk (tb_X5_word) 16 = (x_il 17 2, false) ∧ lk (tb_X5_word) 17 = (x_ia 18, false) ∧ lk (tb_X5_word) 18 = (x_if 27 21 (fun x : Int32 => 0 ≤ x), false) ∧ lk (tb_X5_word) 21 = (x_il 22 1, false) ∧ lk (tb_X5_word) 22 = (x_c 23 (.int 1), false) ∧ lk (tb_X5_word) 23 = (x_il 24 2, false) ∧ lk (tb_X5_word) 24 = (x_ii 25 (fun x y : Int32 => x <<< (y &&& 31)), false) ∧ lk (tb_X5_word) 25 = (x_ii 26 (fun x y : Int32 => x ||| y), false) ∧ lk (tb_X5_word) 26 = (x_is 27 1, false) ∧ lk (tb_X5_word) 27 = (x_inc 30 2 1, false) ∧ lk (tb_X5_word) 30 = (x_go 4, false) ∧ lk (tb_X5_word) 33 = (x_il 34 1, false) ∧ lk (tb_X5_word) 34 = (x_rI, false) := ⟨rfl, rfl, rfl, rfl, rfl, rfl, rfl, rfl, rfl, rfl, rfl, rfl, rfl, rfl, rfl, rfl, rfl, rfl, rfl, rfl, rfl, rfl, rfl⟩
def P_X5_word : PTT := fun as M R => match as with
  | [.ref k] => IsSt M.1 k ∧ (∃ n, n ≤ 9 ∧ M.2.1 k 4 = nI n) ∧ R (some (.int (nI (wdF (M.2.1 (k + 3)) (tn (M.2.1 k 4)))))) M
  | _ => False
set_option maxRecDepth 20000 in
theorem ok_X5_word : Ok yX5_word mt_X5_word P_X5_word := by
  refine Ok.of (by decide) rfl rfl rfl rfl fun av ⟨S, I, L⟩ R hP => ?_
  unfold P_X5_word at hP
  split at hP
  case h_2 => exact hP.elim
  rename_i k
  obtain ⟨k, rfl⟩ : ∃ q : Nat, q = k := ⟨k, rfl⟩
  refine ⟨by simp [ent, wide, mt_X5_word], ?_⟩
  show J mt_X5_word R 0 [some (.ref k), none, none] [] (S, I, L)
  try dsimp only at hP
  obtain ⟨hk, ⟨n, h9, hn⟩, hR⟩ := hP

  rw [hn, tn_nI (by omega)] at hR
  refine J.of tk_X5_word 200 fun ρ hρ => ?_
  simp only [hρ, x_c, x_il, x_ll, x_al, x_is, x_as, x_ls, x_inc, x_ii, x_iq, x_i1, x_l2, x_lq, x_lh, x_i2l, x_l2i, x_lcmp, x_dup, x_dup2, x_pop, x_if, x_ifn, x_ic, x_icn, x_go, x_sw, swc, x_l01, x_mx, x_gI, x_gL, x_gR, x_pI, x_pZ, x_pL, x_pR, x_ia, x_za, x_aa, x_ias, x_zas, x_aas, x_fac, x_fa, x_slen, x_sa, x_ac, x_oi, x_new, x_na, x_cS, x_cV, x_cI, x_rI, x_rZ, x_rL, x_r0, pa, short, oc, lg, lset, lset2, wide, cond_true, cond_false, true_and, and_true, ↓reduceIte, Bool.false_eq_true, true_or, or_true, lf_X5_word]
  refine up (P := fun i => J mt_X5_word R 4 [some (.ref k), some (.int (nI (bs (fun b => decide (I (k + 3) b < 0)) i))), some (.int (nI i))] [] (S, I, L)) (n := n) (fun i hi ih => ?_) 0 (Nat.zero_le _)
  refine J.of tk_X5_word 200 fun ρ hρ => ?_
  simp only [hρ, x_c, x_il, x_ll, x_al, x_is, x_as, x_ls, x_inc, x_ii, x_iq, x_i1, x_l2, x_lq, x_lh, x_i2l, x_l2i, x_lcmp, x_dup, x_dup2, x_pop, x_if, x_ifn, x_ic, x_icn, x_go, x_sw, swc, x_l01, x_mx, x_gI, x_gL, x_gR, x_pI, x_pZ, x_pL, x_pR, x_ia, x_za, x_aa, x_ias, x_zas, x_aas, x_fac, x_fa, x_slen, x_sa, x_ac, x_oi, x_new, x_na, x_cS, x_cV, x_cI, x_rI, x_rZ, x_rL, x_r0, pa, short, oc, lg, lset, lset2, wide, cond_true, cond_false, true_and, and_true, ↓reduceIte, Bool.false_eq_true, true_or, or_true, lf_X5_word, hk.f, hn, ncl (show i < 2 ^ 31 by omega), nI_leI (show n < 2 ^ 31 by omega) (show i < 2 ^ 31 by omega), nI_1]
  refine ⟨fun h => ?_, fun h => ⟨vp_in_nI (by omega) (by omega), fun h2 => ?_, fun h2 => ?_⟩⟩
  · have : i = n := by omega
    subst this
    exact hR
  · have := ih (by omega)
    rwa [← bs_f (by simpa using Int32.not_lt.mpr h2)] at this
  · have := ih (by omega)
    rwa [← bs_t (by omega) (by simpa using Int32.not_le.mp h2)] at this
end
section
/-! STATE, the rest -/
theorem in_of {c : Int32} {m N : Nat} (h : ¬ c < 0 ∧ ¬ nI m ≤ c) (hm : m ≤ N) (hN : N < 2 ^ 31) : ∃ j, j < m ∧ c = nI j := by
  rcases pk_ix c (n := m) (by omega) with h1 | h1 | h1
  · exact absurd h1 h.1
  · exact absurd h1 h.2
  · exact h1
def inC (I : MI) (k : Nat) (c : Int32) : Prop := ¬ c < 0 ∧ ¬ I k 5 ≤ c
def inB (I : MI) (k : Nat) (b : Int32) : Prop := ¬ b < 0 ∧ ¬ I k 4 ≤ b
def il_X5_isOver : List (Nat × Instr × Nat) := [(0, .aload_n 0, 1), (1, .iload_n 1, 1), (2, .invokevirtual 52, 3), (5, .ifCond .eq 28, 3), (8, .aload_n 0, 1), (9, .iload_n 2, 1), (10, .invokevirtual 56, 3), (13, .ifCond .eq 20, 3), (16, .aload_n 0, 1), (17, .getfield 9, 3), (20, .iload_n 1, 1), (21, .iaload, 1), (22, .iload_n 2, 1), (23, .ishr, 1), (24, .iconst 1, 1), (25, .iand, 1), (26, .ifCond .eq 7, 3), (29, .iconst 1, 1), (30, .goto 4, 3), (33, .iconst 0, 1), (34, .ireturn, 1)]
def mt_X5_isOver : Mt := (cX5_isOver, RX5, 3, (some .boolean), ({ frames := 1, cells := 0, slots := 0, locals := 21 } : Room), false, none, none)
set_option maxRecDepth 100000 in
theorem dl_X5_isOver : ∀ q ∈ il_X5_isOver, decode (mt_X5_isOver).1 q.1 = .ok q.2 := by decide +kernel
def tb_X5_isOver : Tb := [(0, x_al 1 0, false),
  (1, x_il 2 1, false),
  (2, x_cV 5 1 P_X5_hasCheck 5, false),
  (5, x_if 33 8 (fun x : Int32 => x = 0), false),
  (8, x_al 9 0, false),
  (9, x_il 10 2, false),
  (10, x_cV 5 1 P_X5_hasBit 13, false),
  (13, x_if 33 16 (fun x : Int32 => x = 0), false),
  (16, x_al 17 0, false),
  (17, x_gR 5 0 20, false),
  (20, x_il 21 1, false),
  (21, x_ia 22, false),
  (22, x_il 23 2, false),
  (23, x_ii 24 (fun x y : Int32 => x >>> (y &&& 31)), false),
  (24, x_c 25 (.int 1), false),
  (25, x_ii 26 (fun x y : Int32 => x &&& y), false),
  (26, x_if 33 29 (fun x : Int32 => x = 0), false),
  (29, x_c 30 (.int 1), false),
  (30, x_go 34, false),
  (33, x_c 34 (.int 0), false),
  (34, x_rZ, false)]
set_option maxRecDepth 100000 in
theorem tk_X5_isOver : TbOk (mt_X5_isOver) (tb_X5_isOver) :=
  tkc (s_aload_n (at_ dl_X5_isOver 0 (ins := .aload_n 0) rfl)) (
  tkc (s_iload_n (at_ dl_X5_isOver 1 (ins := .iload_n 1) rfl)) (
  tkc (s_cV ok_X5_hasCheck (at_ dl_X5_isOver 2 (ins := .invokevirtual 52) rfl) (by decide) rfl (tg 391 (by decide +kernel) (by decide +kernel)) (tg 392 (by decide +kernel) (by decide +kernel)) (tg 393 (by decide +kernel) (by decide +kernel)) (tg 45 (by decide +kernel) (by decide +kernel)) (tg 394 (by decide +kernel) (by decide +kernel)) (⟨by decide, by decide, by decide +kernel⟩) (⟨by decide, by decide⟩) rfl rfl) (
  tkc (s_if_eq (at_ dl_X5_isOver 3 (ins := .ifCond .eq 28) rfl) (by decide)) (
  tkc (s_aload_n (at_ dl_X5_isOver 4 (ins := .aload_n 0) rfl)) (
  tkc (s_iload_n (at_ dl_X5_isOver 5 (ins := .iload_n 2) rfl)) (
  tkc (s_cV ok_X5_hasBit (at_ dl_X5_isOver 6 (ins := .invokevirtual 56) rfl) (by decide) rfl (tg 395 (by decide +kernel) (by decide +kernel)) (tg 396 (by decide +kernel) (by decide +kernel)) (tg 397 (by decide +kernel) (by decide +kernel)) (tg 45 (by decide +kernel) (by decide +kernel)) (tg 398 (by decide +kernel) (by decide +kernel)) (⟨by decide, by decide, by decide +kernel⟩) (⟨by decide, by decide⟩) rfl rfl) (
  tkc (s_if_eq (at_ dl_X5_isOver 7 (ins := .ifCond .eq 20) rfl) (by decide)) (
  tkc (s_aload_n (at_ dl_X5_isOver 8 (ins := .aload_n 0) rfl)) (
  tkc (s_gR (at_ dl_X5_isOver 9 (ins := .getfield 9) rfl) (by decide) (by decide) (by decide) (tg 121 (by decide +kernel) (by decide +kernel))) (
  tkc (s_iload_n (at_ dl_X5_isOver 10 (ins := .iload_n 1) rfl)) (
  tkc (s_ia (at_ dl_X5_isOver 11 (ins := .iaload) rfl)) (
  tkc (s_iload_n (at_ dl_X5_isOver 12 (ins := .iload_n 2) rfl)) (
  tkc (s_ishr (at_ dl_X5_isOver 13 (ins := .ishr) rfl)) (
  tkc (s_iconst (at_ dl_X5_isOver 14 (ins := .iconst 1) rfl) (by first | rfl | decide)) (
  tkc (s_iand (at_ dl_X5_isOver 15 (ins := .iand) rfl)) (
  tkc (s_if_eq (at_ dl_X5_isOver 16 (ins := .ifCond .eq 7) rfl) (by decide)) (
  tkc (s_iconst (at_ dl_X5_isOver 17 (ins := .iconst 1) rfl) (by first | rfl | decide)) (
  tkc (s_goto (at_ dl_X5_isOver 18 (ins := .goto 4) rfl) (by decide)) (
  tkc (s_iconst (at_ dl_X5_isOver 19 (ins := .iconst 0) rfl) (by first | rfl | decide)) (
  tkc (s_rZ (at_ dl_X5_isOver 20 (ins := .ireturn) rfl) rfl) ( tk0)))))))))))))))))))))
theorem lf_X5_isOver : lk (tb_X5_isOver) 0 = (x_al 1 0, false) ∧ lk (tb_X5_isOver) 1 = (x_il 2 1, false) ∧ lk (tb_X5_isOver) 2 = (x_cV 5 1 P_X5_hasCheck 5, false) ∧ lk (tb_X5_isOver) 5 = (x_if 33 8 (fun x : Int32 => x = 0), false) ∧ lk (tb_X5_isOver) 8 = (x_al 9 0, false) ∧ lk (tb_X5_isOver) 9 = (x_il 10 2, false) ∧ lk (tb_X5_isOver) 10 = (x_cV 5 1 P_X5_hasBit 13, false) ∧ lk (tb_X5_isOver) 13 = (x_if 33 16 (fun x : Int32 => x = 0), false) ∧ lk (tb_X5_isOver) 16 = (x_al 17 0, false) ∧ lk (tb_X5_isOver) 17 = (x_gR 5 0 20, false) ∧ lk (tb_X5_isOver) 20 = (x_il 21 1, false) ∧ lk (tb_X5_isOver) 21 = (x_ia 22, false) ∧ lk (tb_X5_isOver) 22 = (x_il 23 2, false) ∧ lk (tb_X5_isOver) 23 = (x_ii 24 (fun x y : Int32 => x >>> (y &&& 31)), false) ∧ lk (tb_X5_isOver) 24 = (x_c 25 (.int 1), false) ∧ lk (tb_X5_isOver) 25 = (x_ii 26 (fun x y : Int32 => x &&& y), false) ∧ lk (tb_X5_isOver) 26 = (x_if 33 29 (fun x : Int32 => x = 0), false) ∧ lk (tb_X5_isOver) 29 = (x_c 30 (.int 1), false) ∧ lk (tb_X5_isOver) 30 = (x_go 34, false) ∧ lk (tb_X5_isOver) 33 = (x_c 34 (.int 0), false) ∧ lk (tb_X5_isOver) 34 = (x_rZ, false) := ⟨rfl, rfl, rfl, rfl, rfl, rfl, rfl, rfl, rfl, rfl, rfl, rfl, rfl, rfl, rfl, rfl, rfl, rfl, rfl, rfl, rfl⟩
def P_X5_isOver : PTT := fun as M R => match as with
  | [.ref k, .int c, .int b] => IsSt M.1 k ∧ (∃ m, m ≤ 6 ∧ M.2.1 k 5 = nI m) ∧ R (some (.int (bI ((¬ c < 0 ∧ ¬ M.2.1 k 5 ≤ c) ∧ (¬ b < 0 ∧ ¬ M.2.1 k 4 ≤ b) ∧ ¬ (M.2.1 (k + 1) c.toNatClampNeg >>> (b &&& 31)) &&& 1 = 0)))) M
  | _ => False
set_option maxRecDepth 20000 in
theorem ok_X5_isOver : Ok yX5_isOver mt_X5_isOver P_X5_isOver := by
  refine Ok.of (by decide) rfl rfl rfl rfl fun av ⟨S, I, L⟩ R hP => ?_
  unfold P_X5_isOver at hP
  split at hP
  case h_2 => exact hP.elim
  rename_i k c b
  obtain ⟨k, rfl⟩ : ∃ q : Nat, q = k := ⟨k, rfl⟩
  refine ⟨by simp [ent, wide, mt_X5_isOver], ?_⟩
  show J mt_X5_isOver R 0 [some (.ref k), some (.int c), some (.int b)] [] (S, I, L)
  try dsimp only at hP
  obtain ⟨hk, ⟨m, h6, hm⟩, hR⟩ := hP
  refine J.of tk_X5_isOver 200 fun ρ hρ => ?_
  simp only [hρ, x_c, x_il, x_ll, x_al, x_is, x_as, x_ls, x_inc, x_ii, x_iq, x_i1, x_l2, x_lq, x_lh, x_i2l, x_l2i, x_lcmp, x_dup, x_dup2, x_pop, x_if, x_ifn, x_ic, x_icn, x_go, x_sw, swc, x_l01, x_mx, x_gI, x_gL, x_gR, x_pI, x_pZ, x_pL, x_pR, x_ia, x_za, x_aa, x_ias, x_zas, x_aas, x_fac, x_fa, x_slen, x_sa, x_ac, x_oi, x_new, x_na, x_cS, x_cV, x_cI, x_rI, x_rZ, x_rL, x_r0, pa, short, oc, lg, lset, lset2, wide, cond_true, cond_false, true_and, and_true, ↓reduceIte, Bool.false_eq_true, true_or, or_true, lf_X5_isOver, hk, hk.f, P_X5_hasCheck, P_X5_hasBit, bI_0, Classical.not_not]
  refine ⟨fun h => ?_, fun h => ⟨fun h2 => ?_, fun h2 => ⟨?_, fun h3 => ?_, fun h3 => ?_⟩⟩⟩
  · rwa [bI_f (fun q => h q.1)] at hR
  · rwa [bI_f (fun q => h2 q.2.1)] at hR
  · rw [hm] at h
    obtain ⟨j, hj, rfl⟩ := in_of h h6 (by omega)
    exact vp_in_nI (by omega) (by omega)
  · rwa [bI_f (fun q => q.2.2 h3)] at hR
  · rwa [bI_t ⟨h, h2, h3⟩] at hR
/-- PUT on a state -/
def putI (I : MI) (k : Nat) (c b : Int32) : MI := mS (mS I (k + 1) (upd (I (k + 1)) c.toNatClampNeg (I (k + 1) c.toNatClampNeg ^^^ (1 : Int32) <<< (b &&& 31)))) (k + 4) (upd (I (k + 4)) (c * 9 + b).toNatClampNeg 0)
theorem mS_o1 {I : MI} {k : Nat} {r : Nat → Int32} : mS I (k + 1) r (k + 4) = I (k + 4) := mS_n (by omega)
theorem mS_k1 {I : MI} {k : Nat} {r : Nat → Int32} : mS I (k + 1) r k = I k := mS_n (by omega)
def il_X5_turnOver : List (Nat × Instr × Nat) := [(0, .aload_n 0, 1), (1, .iload_n 1, 1), (2, .invokevirtual 52, 3), (5, .ifCond .eq 35, 3), (8, .aload_n 0, 1), (9, .iload_n 2, 1), (10, .invokevirtual 56, 3), (13, .ifCond .eq 27, 3), (16, .aload_n 0, 1), (17, .getfield 9, 3), (20, .iload_n 1, 1), (21, .dup2, 1), (22, .iaload, 1), (23, .iconst 1, 1), (24, .iload_n 2, 1), (25, .ishl, 1), (26, .ixor, 1), (27, .iastore, 1), (28, .aload_n 0, 1), (29, .getfield 21, 3), (32, .iload_n 1, 1), (33, .bipush 9, 2), (35, .imul, 1), (36, .iload_n 2, 1), (37, .iadd, 1), (38, .iconst 0, 1), (39, .iastore, 1), (40, .return_, 1)]
def mt_X5_turnOver : Mt := (cX5_turnOver, RX5, 3, none, ({ frames := 1, cells := 0, slots := 0, locals := 21 } : Room), false, none, none)
set_option maxRecDepth 100000 in
theorem dl_X5_turnOver : ∀ q ∈ il_X5_turnOver, decode (mt_X5_turnOver).1 q.1 = .ok q.2 := by decide +kernel
def tb_X5_turnOver : Tb := [(0, x_al 1 0, false),
  (1, x_il 2 1, false),
  (2, x_cV 5 1 P_X5_hasCheck 5, false),
  (5, x_if 40 8 (fun x : Int32 => x = 0), false),
  (8, x_al 9 0, false),
  (9, x_il 10 2, false),
  (10, x_cV 5 1 P_X5_hasBit 13, false),
  (13, x_if 40 16 (fun x : Int32 => x = 0), false),
  (16, x_al 17 0, false),
  (17, x_gR 5 0 20, false),
  (20, x_il 21 1, false),
  (21, x_dup2 22, false),
  (22, x_ia 23, false),
  (23, x_c 24 (.int 1), false),
  (24, x_il 25 2, false),
  (25, x_ii 26 (fun x y : Int32 => x <<< (y &&& 31)), false),
  (26, x_ii 27 (fun x y : Int32 => x ^^^ y), false),
  (27, x_ias 28, false),
  (28, x_al 29 0, false),
  (29, x_gR 5 3 32, false),
  (32, x_il 33 1, false),
  (33, x_c 35 (.int 9), false),
  (35, x_ii 36 (fun x y : Int32 => x * y), false),
  (36, x_il 37 2, false),
  (37, x_ii 38 (fun x y : Int32 => x + y), false),
  (38, x_c 39 (.int 0), false),
  (39, x_ias 40, false),
  (40, x_r0, false)]
set_option maxRecDepth 100000 in
theorem tk_X5_turnOver : TbOk (mt_X5_turnOver) (tb_X5_turnOver) :=
  tkc (s_aload_n (at_ dl_X5_turnOver 0 (ins := .aload_n 0) rfl)) (
  tkc (s_iload_n (at_ dl_X5_turnOver 1 (ins := .iload_n 1) rfl)) (
  tkc (s_cV ok_X5_hasCheck (at_ dl_X5_turnOver 2 (ins := .invokevirtual 52) rfl) (by decide) rfl (tg 391 (by decide +kernel) (by decide +kernel)) (tg 392 (by decide +kernel) (by decide +kernel)) (tg 393 (by decide +kernel) (by decide +kernel)) (tg 45 (by decide +kernel) (by decide +kernel)) (tg 394 (by decide +kernel) (by decide +kernel)) (⟨by decide, by decide, by decide +kernel⟩) (⟨by decide, by decide⟩) rfl rfl) (
  tkc (s_if_eq (at_ dl_X5_turnOver 3 (ins := .ifCond .eq 35) rfl) (by decide)) (
  tkc (s_aload_n (at_ dl_X5_turnOver 4 (ins := .aload_n 0) rfl)) (
  tkc (s_iload_n (at_ dl_X5_turnOver 5 (ins := .iload_n 2) rfl)) (
  tkc (s_cV ok_X5_hasBit (at_ dl_X5_turnOver 6 (ins := .invokevirtual 56) rfl) (by decide) rfl (tg 395 (by decide +kernel) (by decide +kernel)) (tg 396 (by decide +kernel) (by decide +kernel)) (tg 397 (by decide +kernel) (by decide +kernel)) (tg 45 (by decide +kernel) (by decide +kernel)) (tg 398 (by decide +kernel) (by decide +kernel)) (⟨by decide, by decide, by decide +kernel⟩) (⟨by decide, by decide⟩) rfl rfl) (
  tkc (s_if_eq (at_ dl_X5_turnOver 7 (ins := .ifCond .eq 27) rfl) (by decide)) (
  tkc (s_aload_n (at_ dl_X5_turnOver 8 (ins := .aload_n 0) rfl)) (
  tkc (s_gR (at_ dl_X5_turnOver 9 (ins := .getfield 9) rfl) (by decide) (by decide) (by decide) (tg 121 (by decide +kernel) (by decide +kernel))) (
  tkc (s_iload_n (at_ dl_X5_turnOver 10 (ins := .iload_n 1) rfl)) (
  tkc (s_dup2 (at_ dl_X5_turnOver 11 (ins := .dup2) rfl)) (
  tkc (s_ia (at_ dl_X5_turnOver 12 (ins := .iaload) rfl)) (
  tkc (s_iconst (at_ dl_X5_turnOver 13 (ins := .iconst 1) rfl) (by first | rfl | decide)) (
  tkc (s_iload_n (at_ dl_X5_turnOver 14 (ins := .iload_n 2) rfl)) (
  tkc (s_ishl (at_ dl_X5_turnOver 15 (ins := .ishl) rfl)) (
  tkc (s_ixor (at_ dl_X5_turnOver 16 (ins := .ixor) rfl)) (
  tkc (s_ias (at_ dl_X5_turnOver 17 (ins := .iastore) rfl)) (
  tkc (s_aload_n (at_ dl_X5_turnOver 18 (ins := .aload_n 0) rfl)) (
  tkc (s_gR (at_ dl_X5_turnOver 19 (ins := .getfield 21) rfl) (by decide) (by decide) (by decide) (tg 131 (by decide +kernel) (by decide +kernel))) (
  tkc (s_iload_n (at_ dl_X5_turnOver 20 (ins := .iload_n 1) rfl)) (
  tkc (s_bipush (at_ dl_X5_turnOver 21 (ins := .bipush 9) rfl) (by first | rfl | decide)) (
  tkc (s_imul (at_ dl_X5_turnOver 22 (ins := .imul) rfl)) (
  tkc (s_iload_n (at_ dl_X5_turnOver 23 (ins := .iload_n 2) rfl)) (
  tkc (s_iadd (at_ dl_X5_turnOver 24 (ins := .iadd) rfl)) (
  tkc (s_iconst (at_ dl_X5_turnOver 25 (ins := .iconst 0) rfl) (by first | rfl | decide)) (
  tkc (s_ias (at_ dl_X5_turnOver 26 (ins := .iastore) rfl)) (
  tkc (s_r0 (at_ dl_X5_turnOver 27 (ins := .return_) rfl) rfl) ( tk0))))))))))))))))))))))))))))
theorem lf_X5_turnOver : lk (tb_X5_turnOver) 0 = (x_al 1 0, false) ∧ lk (tb_X5_turnOver) 1 = (x_il 2 1, false) ∧ lk (tb_X5_turnOver) 2 = (x_cV 5 1 P_X5_hasCheck 5, false) ∧ lk (tb_X5_turnOver) 5 = (x_if 40 8 (fun x : Int32 => x = 0), false) ∧ lk (tb_X5_turnOver) 8 = (x_al 9 0, false) ∧ lk (tb_X5_turnOver) 9 = (x_il 10 2, false) ∧ lk (tb_X5_turnOver) 10 = (x_cV 5 1 P_X5_hasBit 13, false) ∧ lk (tb_X5_turnOver) 13 = (x_if 40 16 (fun x : Int32 => x = 0), false) ∧ lk (tb_X5_turnOver) 16 = (x_al 17 0, false) ∧ lk (tb_X5_turnOver) 17 = (x_gR 5 0 20, false) ∧ lk (tb_X5_turnOver) 20 = (x_il 21 1, false) ∧ lk (tb_X5_turnOver) 21 = (x_dup2 22, false) ∧ lk (tb_X5_turnOver) 22 = (x_ia 23, false) ∧ lk (tb_X5_turnOver) 23 = (x_c 24 (.int 1), false) ∧ lk (tb_X5_turnOver) 24 = (x_il 25 2, false) ∧ lk (tb_X5_turnOver) 25 = (x_ii 26 (fun x y : Int32 => x <<< (y &&& 31)), false) ∧ lk (tb_X5_turnOver) 26 = (x_ii 27 (fun x y : Int32 => x ^^^ y), false) ∧ lk (tb_X5_turnOver) 27 = (x_ias 28, false) ∧ lk (tb_X5_turnOver) 28 = (x_al 29 0, false) ∧ lk (tb_X5_turnOver) 29 = (x_gR 5 3 32, false) ∧ lk (tb_X5_turnOver) 32 = (x_il 33 1, false) ∧ lk (tb_X5_turnOver) 33 = (x_c 35 (.int 9), false) ∧ lk (tb_X5_turnOver) 35 = (x_ii 36 (fun x y : Int32 => x * y), false) ∧ lk (tb_X5_turnOver) 36 = (x_il 37 2, false) ∧ lk (tb_X5_turnOver) 37 = (x_ii 38 (fun x y : Int32 => x + y), false) ∧ lk (tb_X5_turnOver) 38 = (x_c 39 (.int 0), false) ∧ lk (tb_X5_turnOver) 39 = (x_ias 40, false) ∧ lk (tb_X5_turnOver) 40 = (x_r0, false) := ⟨rfl, rfl, rfl, rfl, rfl, rfl, rfl, rfl, rfl, rfl, rfl, rfl, rfl, rfl, rfl, rfl, rfl, rfl, rfl, rfl, rfl, rfl, rfl, rfl, rfl, rfl, rfl, rfl⟩
def P_X5_turnOver : PTT := fun as M R => match as with
  | [.ref k, .int c, .int b] => IsSt M.1 k ∧ (∃ n, n ≤ 9 ∧ M.2.1 k 4 = nI n) ∧ (∃ m, m ≤ 6 ∧ M.2.1 k 5 = nI m) ∧ ((¬ c < 0 ∧ ¬ M.2.1 k 5 ≤ c) ∧ (¬ b < 0 ∧ ¬ M.2.1 k 4 ≤ b) → R none (M.1, putI M.2.1 k c b, M.2.2)) ∧ (¬ ((¬ c < 0 ∧ ¬ M.2.1 k 5 ≤ c) ∧ (¬ b < 0 ∧ ¬ M.2.1 k 4 ≤ b)) → R none M)
  | _ => False
set_option maxRecDepth 20000 in
theorem ok_X5_turnOver : Ok yX5_turnOver mt_X5_turnOver P_X5_turnOver := by
  refine Ok.of (by decide) rfl rfl rfl rfl fun av ⟨S, I, L⟩ R hP => ?_
  unfold P_X5_turnOver at hP
  split at hP
  case h_2 => exact hP.elim
  rename_i k c b
  obtain ⟨k, rfl⟩ : ∃ q : Nat, q = k := ⟨k, rfl⟩
  refine ⟨by simp [ent, wide, mt_X5_turnOver], ?_⟩
  show J mt_X5_turnOver R 0 [some (.ref k), some (.int c), some (.int b)] [] (S, I, L)
  try dsimp only at hP
  obtain ⟨hk, ⟨n, h9, hn⟩, ⟨m, h6, hm⟩, hR1, hR2⟩ := hP
  refine J.of tk_X5_turnOver 200 fun ρ hρ => ?_
  simp only [hρ, x_c, x_il, x_ll, x_al, x_is, x_as, x_ls, x_inc, x_ii, x_iq, x_i1, x_l2, x_lq, x_lh, x_i2l, x_l2i, x_lcmp, x_dup, x_dup2, x_pop, x_if, x_ifn, x_ic, x_icn, x_go, x_sw, swc, x_l01, x_mx, x_gI, x_gL, x_gR, x_pI, x_pZ, x_pL, x_pR, x_ia, x_za, x_aa, x_ias, x_zas, x_aas, x_fac, x_fa, x_slen, x_sa, x_ac, x_oi, x_new, x_na, x_cS, x_cV, x_cI, x_rI, x_rZ, x_rL, x_r0, pa, short, oc, lg, lset, lset2, wide, cond_true, cond_false, true_and, and_true, ↓reduceIte, Bool.false_eq_true, true_or, or_true, lf_X5_turnOver, hk, hk.f, P_X5_hasCheck, P_X5_hasBit, bI_0, Classical.not_not, mS_o1]
  refine ⟨fun h => hR2 (fun q => h q.1), fun h => ⟨fun h2 => hR2 (fun q => h2 q.2), fun h2 => ?_⟩⟩
  have hR := hR1 ⟨h, h2⟩
  rw [hm] at h
  rw [hn] at h2
  obtain ⟨j, hj, rfl⟩ := in_of h h6 (by omega)
  obtain ⟨i, hi, rfl⟩ := in_of h2 h9 (by omega)
  have hv : vp_in (nI j) 6 := vp_in_nI (by omega) (by omega)
  refine ⟨hv, hv, ?_, hR⟩
  rw [show (9 : Int32) = nI 9 by decide, pk_mul, nI_add]
  exact vp_in_nI (by omega) (by omega)
def il_X5_checksOver : List (Nat × Instr × Nat) := [(0, .iconst 0, 1), (1, .istore_n 2, 1), (2, .iconst 0, 1), (3, .istore_n 3, 1), (4, .iload_n 3, 1), (5, .aload_n 0, 1), (6, .getfield 28, 3), (9, .if_icmp .ge 24, 3), (12, .iload_n 2, 1), (13, .aload_n 0, 1), (14, .getfield 9, 3), (17, .iload_n 3, 1), (18, .iaload, 1), (19, .iload_n 1, 1), (20, .ishr, 1), (21, .iconst 1, 1), (22, .iand, 1), (23, .iload_n 3, 1), (24, .ishl, 1), (25, .ior, 1), (26, .istore_n 2, 1), (27, .iinc 3 1, 3), (30, .goto (-26), 3), (33, .iload_n 2, 1), (34, .ireturn, 1)]
def mt_X5_checksOver : Mt := (cX5_checksOver, RX5, 4, (some .int), ({ frames := 0, cells := 0, slots := 0, locals := 0 } : Room), false, none, none)
set_option maxRecDepth 100000 in
theorem dl_X5_checksOver : ∀ q ∈ il_X5_checksOver, decode (mt_X5_checksOver).1 q.1 = .ok q.2 := by decide +kernel
def tb_X5_checksOver : Tb := [(0, x_c 1 (.int 0), false),
  (1, x_is 2 2, false),
  (2, x_c 3 (.int 0), false),
  (3, x_is 4 3, false),
  (4, x_il 5 3, true),
  (5, x_al 6 0, false),
  (6, x_gI 5 5 9, false),
  (9, x_ic 33 12 (fun x y : Int32 => y ≤ x), false),
  (12, x_il 13 2, false),
  (13, x_al 14 0, false),
  (14, x_gR 5 0 17, false),
  (17, x_il 18 3, false),
  (18, x_ia 19, false),
  (19, x_il 20 1, false),
  (20, x_ii 21 (fun x y : Int32 => x >>> (y &&& 31)), false),
  (21, x_c 22 (.int 1), false),
  (22, x_ii 23 (fun x y : Int32 => x &&& y), false),
  (23, x_il 24 3, false),
  (24, x_ii 25 (fun x y : Int32 => x <<< (y &&& 31)), false),
  (25, x_ii 26 (fun x y : Int32 => x ||| y), false),
  (26, x_is 27 2, false),
  (27, x_inc 30 3 1, false),
  (30, x_go 4, false),
  (33, x_il 34 2, false),
  (34, x_rI, false)]
set_option maxRecDepth 100000 in
theorem tk_X5_checksOver : TbOk (mt_X5_checksOver) (tb_X5_checksOver) :=
  tkc (s_iconst (at_ dl_X5_checksOver 0 (ins := .iconst 0) rfl) (by first | rfl | decide)) (
  tkc (s_istore_n (at_ dl_X5_checksOver 1 (ins := .istore_n 2) rfl) (by decide)) (
  tkc (s_iconst (at_ dl_X5_checksOver 2 (ins := .iconst 0) rfl) (by first | rfl | decide)) (
  tkc (s_istore_n (at_ dl_X5_checksOver 3 (ins := .istore_n 3) rfl) (by decide)) (
  tkc (s_iload_n (at_ dl_X5_checksOver 4 (ins := .iload_n 3) rfl)) (
  tkc (s_aload_n (at_ dl_X5_checksOver 5 (ins := .aload_n 0) rfl)) (
  tkc (s_gI (at_ dl_X5_checksOver 6 (ins := .getfield 28) rfl) (by decide) (by decide) (by decide) (tg 139 (by decide +kernel) (by decide +kernel))) (
  tkc (s_ic_ge (at_ dl_X5_checksOver 7 (ins := .if_icmp .ge 24) rfl) (by decide)) (
  tkc (s_iload_n (at_ dl_X5_checksOver 8 (ins := .iload_n 2) rfl)) (
  tkc (s_aload_n (at_ dl_X5_checksOver 9 (ins := .aload_n 0) rfl)) (
  tkc (s_gR (at_ dl_X5_checksOver 10 (ins := .getfield 9) rfl) (by decide) (by decide) (by decide) (tg 121 (by decide +kernel) (by decide +kernel))) (
  tkc (s_iload_n (at_ dl_X5_checksOver 11 (ins := .iload_n 3) rfl)) (
  tkc (s_ia (at_ dl_X5_checksOver 12 (ins := .iaload) rfl)) (
  tkc (s_iload_n (at_ dl_X5_checksOver 13 (ins := .iload_n 1) rfl)) (
  tkc (s_ishr (at_ dl_X5_checksOver 14 (ins := .ishr) rfl)) (
  tkc (s_iconst (at_ dl_X5_checksOver 15 (ins := .iconst 1) rfl) (by first | rfl | decide)) (
  tkc (s_iand (at_ dl_X5_checksOver 16 (ins := .iand) rfl)) (
  tkc (s_iload_n (at_ dl_X5_checksOver 17 (ins := .iload_n 3) rfl)) (
  tkc (s_ishl (at_ dl_X5_checksOver 18 (ins := .ishl) rfl)) (
  tkc (s_ior (at_ dl_X5_checksOver 19 (ins := .ior) rfl)) (
  tkc (s_istore_n (at_ dl_X5_checksOver 20 (ins := .istore_n 2) rfl) (by decide)) (
  tkc (s_iinc (at_ dl_X5_checksOver 21 (ins := .iinc 3 1) rfl) (by decide) (by first | rfl | decide)) (
  tkc (s_goto (at_ dl_X5_checksOver 22 (ins := .goto (-26)) rfl) (by decide)) (
  tkc (s_iload_n (at_ dl_X5_checksOver 23 (ins := .iload_n 2) rfl)) (
  tkc (s_rI (at_ dl_X5_checksOver 24 (ins := .ireturn) rfl) rfl) ( tk0)))))))))))))))))))))))))
theorem lf_X5_checksOver : lk (tb_X5_checksOver) 0 = (x_c 1 (.int 0), false) ∧ lk (tb_X5_checksOver) 1 = (x_is 2 2, false) ∧ lk (tb_X5_checksOver) 2 = (x_c 3 (.int 0), false) ∧ lk (tb_X5_checksOver) 3 = (x_is 4 3, false) ∧ lk (tb_X5_checksOver) 4 = (x_il 5 3, true) ∧ lk (tb_X5_checksOver) 5 = (x_al 6 0, false) ∧ lk (tb_X5_checksOver) 6 = (x_gI 5 5 9, false) ∧ lk (tb_X5_checksOver) 9 = (x_ic 33 12 (fun x y : Int32 => y ≤ x), false) ∧ lk (tb_X5_checksOver) 12 = (x_il 13 2, false) ∧ lk (tb_X5_checksOver) 13 = (x_al 14 0, false) ∧ lk (tb_X5_checksOver) 14 = (x_gR 5 0 17, false) ∧ lk (tb_X5_checksOver) 17 = (x_il 18 3, false) ∧ lk (tb_X5_checksOver) 18 = (x_ia 19, false) ∧ lk (tb_X5_checksOver) 19 = (x_il 20 1, false) ∧ lk (tb_X5_checksOver) 20 = (x_ii 21 (fun x y : Int32 => x >>> (y &&& 31)), false) ∧ lk (tb_X5_checksOver) 21 = (x_c 22 (.int 1), false) ∧ lk (tb_X5_checksOver) 22 = (x_ii 23 (fun x y : Int32 => x &&& y), false) ∧ lk (tb_X5_checksOver) 23 = (x_il 24 3, false) ∧ lk (tb_X5_checksOver) 24 = (x_ii 25 (fun x y : Int32 => x <<< (y &&& 31)), false) ∧ lk (tb_X5_checksOver) 25 = (x_ii 26 (fun x y : Int32 => x ||| y), false) ∧ lk (tb_X5_checksOver) 26 = (x_is 27 2, false) ∧ lk (tb_X5_checksOver) 27 = (x_inc 30 3 1, false) ∧ lk (tb_X5_checksOver) 30 = (x_go 4, false) ∧ lk (tb_X5_checksOver) 33 = (x_il 34 2, false) ∧ lk (tb_X5_checksOver) 34 = (x_rI, false) := ⟨rfl, rfl, rfl, rfl, rfl, rfl, rfl, rfl, rfl, rfl, rfl, rfl, rfl, rfl, rfl, rfl, rfl, rfl, rfl, rfl, rfl, rfl, rfl, rfl, rfl⟩
def coF (ov : Nat → Nat) (m b : Nat) : Nat := bs (fun c => (ov c).testBit b) m
def P_X5_checksOver : PTT := fun as M R => match as with
  | [.ref k, .int b] => IsSt M.1 k ∧ (∃ m, m ≤ 6 ∧ M.2.1 k 5 = nI m ∧ ∀ c, c < m → ovS M.2.1 k c < 512) ∧ (∃ j, j < 31 ∧ b = nI j) ∧ R (some (.int (nI (coF (ovS M.2.1 k) (tn (M.2.1 k 5)) (tn b))))) M
  | _ => False
theorem bit01 {v b : Nat} (hv : v < 2 ^ 31) (hb : b < 31) : (nI v >>> (nI b &&& 31)) &&& 1 = nI (if v.testBit b then 1 else 0) := bitAt hv hb
set_option maxRecDepth 20000 in
theorem ok_X5_checksOver : Ok yX5_checksOver mt_X5_checksOver P_X5_checksOver := by
  refine Ok.of (by decide) rfl rfl rfl rfl fun av ⟨S, I, L⟩ R hP => ?_
  unfold P_X5_checksOver at hP
  split at hP
  case h_2 => exact hP.elim
  rename_i k b
  obtain ⟨k, rfl⟩ : ∃ q : Nat, q = k := ⟨k, rfl⟩
  refine ⟨by simp [ent, wide, mt_X5_checksOver], ?_⟩
  show J mt_X5_checksOver R 0 [some (.ref k), some (.int b), none, none] [] (S, I, L)
  try dsimp only at hP
  obtain ⟨hk, ⟨m, h6, hm, hov⟩, ⟨j, hj, rfl⟩, hR⟩ := hP
  rw [hm, tn_nI (by omega), tn_nI (by omega)] at hR
  refine J.of tk_X5_checksOver 200 fun ρ hρ => ?_
  simp only [hρ, x_c, x_il, x_ll, x_al, x_is, x_as, x_ls, x_inc, x_ii, x_iq, x_i1, x_l2, x_lq, x_lh, x_i2l, x_l2i, x_lcmp, x_dup, x_dup2, x_pop, x_if, x_ifn, x_ic, x_icn, x_go, x_sw, swc, x_l01, x_mx, x_gI, x_gL, x_gR, x_pI, x_pZ, x_pL, x_pR, x_ia, x_za, x_aa, x_ias, x_zas, x_aas, x_fac, x_fa, x_slen, x_sa, x_ac, x_oi, x_new, x_na, x_cS, x_cV, x_cI, x_rI, x_rZ, x_rL, x_r0, pa, short, oc, lg, lset, lset2, wide, cond_true, cond_false, true_and, and_true, ↓reduceIte, Bool.false_eq_true, true_or, or_true, lf_X5_checksOver]
  refine up (P := fun i => J mt_X5_checksOver R 4 [some (.ref k), some (.int (nI j)), some (.int (nI (bs (fun c => (ovS I k c).testBit j) i))), some (.int (nI i))] [] (S, I, L)) (n := m) (fun i hi ih => ?_) 0 (Nat.zero_le _)
  refine J.of tk_X5_checksOver 200 fun ρ hρ => ?_
  simp only [hρ, x_c, x_il, x_ll, x_al, x_is, x_as, x_ls, x_inc, x_ii, x_iq, x_i1, x_l2, x_lq, x_lh, x_i2l, x_l2i, x_lcmp, x_dup, x_dup2, x_pop, x_if, x_ifn, x_ic, x_icn, x_go, x_sw, swc, x_l01, x_mx, x_gI, x_gL, x_gR, x_pI, x_pZ, x_pL, x_pR, x_ia, x_za, x_aa, x_ias, x_zas, x_aas, x_fac, x_fa, x_slen, x_sa, x_ac, x_oi, x_new, x_na, x_cS, x_cV, x_cI, x_rI, x_rZ, x_rL, x_r0, pa, short, oc, lg, lset, lset2, wide, cond_true, cond_false, true_and, and_true, ↓reduceIte, Bool.false_eq_true, true_or, or_true, lf_X5_checksOver, hk, hk.f, hm, ncl (show i < 2 ^ 31 by omega), nI_leI (show m < 2 ^ 31 by omega) (show i < 2 ^ 31 by omega), nI_1]
  refine ⟨fun h => ?_, fun h => ⟨vp_in_nI (by omega) (by omega), ?_⟩⟩
  · have : i = m := by omega
    subst this
    exact hR
  · have hv := hov i (by omega)
    have e : I (k + 1) i = nI (ovS I k i) := (nI_tn _).symm
    rw [e, bit01 (by omega) hj, bs_b (f := fun c => (ovS I k c).testBit j) (by omega) rfl]
    exact ih (by omega)
def il_X5_openBy : List (Nat × Instr × Nat) := [(0, .iconst 0, 1), (1, .istore_n 2, 1), (2, .iconst 0, 1), (3, .istore_n 3, 1), (4, .iload_n 3, 1), (5, .aload_n 0, 1), (6, .getfield 28, 3), (9, .if_icmp .ge 27, 3), (12, .iload_n 2, 1), (13, .aload_n 0, 1), (14, .getfield 9, 3), (17, .iload_n 3, 1), (18, .iaload, 1), (19, .iload_n 1, 1), (20, .iand, 1), (21, .invokestatic 67, 3), (24, .iconst 1, 1), (25, .iand, 1), (26, .iload_n 3, 1), (27, .ishl, 1), (28, .ior, 1), (29, .istore_n 2, 1), (30, .iinc 3 1, 3), (33, .goto (-29), 3), (36, .iload_n 2, 1), (37, .ireturn, 1)]
def mt_X5_openBy : Mt := (cX5_openBy, RX5, 4, (some .int), ({ frames := 1, cells := 0, slots := 0, locals := 20 } : Room), false, none, none)
set_option maxRecDepth 100000 in
theorem dl_X5_openBy : ∀ q ∈ il_X5_openBy, decode (mt_X5_openBy).1 q.1 = .ok q.2 := by decide +kernel
def tb_X5_openBy : Tb := [(0, x_c 1 (.int 0), false),
  (1, x_is 2 2, false),
  (2, x_c 3 (.int 0), false),
  (3, x_is 4 3, false),
  (4, x_il 5 3, true),
  (5, x_al 6 0, false),
  (6, x_gI 5 5 9, false),
  (9, x_ic 36 12 (fun x y : Int32 => y ≤ x), false),
  (12, x_il 13 2, false),
  (13, x_al 14 0, false),
  (14, x_gR 5 0 17, false),
  (17, x_il 18 3, false),
  (18, x_ia 19, false),
  (19, x_il 20 1, false),
  (20, x_ii 21 (fun x y : Int32 => x &&& y), false),
  (21, x_cS 1 P_J6_bitCount_0f7a4 24, false),
  (24, x_c 25 (.int 1), false),
  (25, x_ii 26 (fun x y : Int32 => x &&& y), false),
  (26, x_il 27 3, false),
  (27, x_ii 28 (fun x y : Int32 => x <<< (y &&& 31)), false),
  (28, x_ii 29 (fun x y : Int32 => x ||| y), false),
  (29, x_is 30 2, false),
  (30, x_inc 33 3 1, false),
  (33, x_go 4, false),
  (36, x_il 37 2, false),
  (37, x_rI, false)]
set_option maxRecDepth 100000 in
theorem tk_X5_openBy : TbOk (mt_X5_openBy) (tb_X5_openBy) :=
  tkc (s_iconst (at_ dl_X5_openBy 0 (ins := .iconst 0) rfl) (by first | rfl | decide)) (
  tkc (s_istore_n (at_ dl_X5_openBy 1 (ins := .istore_n 2) rfl) (by decide)) (
  tkc (s_iconst (at_ dl_X5_openBy 2 (ins := .iconst 0) rfl) (by first | rfl | decide)) (
  tkc (s_istore_n (at_ dl_X5_openBy 3 (ins := .istore_n 3) rfl) (by decide)) (
  tkc (s_iload_n (at_ dl_X5_openBy 4 (ins := .iload_n 3) rfl)) (
  tkc (s_aload_n (at_ dl_X5_openBy 5 (ins := .aload_n 0) rfl)) (
  tkc (s_gI (at_ dl_X5_openBy 6 (ins := .getfield 28) rfl) (by decide) (by decide) (by decide) (tg 139 (by decide +kernel) (by decide +kernel))) (
  tkc (s_ic_ge (at_ dl_X5_openBy 7 (ins := .if_icmp .ge 27) rfl) (by decide)) (
  tkc (s_iload_n (at_ dl_X5_openBy 8 (ins := .iload_n 2) rfl)) (
  tkc (s_aload_n (at_ dl_X5_openBy 9 (ins := .aload_n 0) rfl)) (
  tkc (s_gR (at_ dl_X5_openBy 10 (ins := .getfield 9) rfl) (by decide) (by decide) (by decide) (tg 121 (by decide +kernel) (by decide +kernel))) (
  tkc (s_iload_n (at_ dl_X5_openBy 11 (ins := .iload_n 3) rfl)) (
  tkc (s_ia (at_ dl_X5_openBy 12 (ins := .iaload) rfl)) (
  tkc (s_iload_n (at_ dl_X5_openBy 13 (ins := .iload_n 1) rfl)) (
  tkc (s_iand (at_ dl_X5_openBy 14 (ins := .iand) rfl)) (
  tkc (s_cS ok_J6_bitCount_0f7a4 (at_ dl_X5_openBy 15 (ins := .invokestatic 67) rfl) (tg 373 (by decide +kernel) (by decide +kernel)) (tg 374 (by decide +kernel) (by decide +kernel)) (tg 53 (by decide +kernel) (by decide +kernel)) (tg 375 (by decide +kernel) (by decide +kernel)) (⟨by decide, by decide, by decide +kernel⟩) (⟨by decide, by decide⟩) rfl rfl) (
  tkc (s_iconst (at_ dl_X5_openBy 16 (ins := .iconst 1) rfl) (by first | rfl | decide)) (
  tkc (s_iand (at_ dl_X5_openBy 17 (ins := .iand) rfl)) (
  tkc (s_iload_n (at_ dl_X5_openBy 18 (ins := .iload_n 3) rfl)) (
  tkc (s_ishl (at_ dl_X5_openBy 19 (ins := .ishl) rfl)) (
  tkc (s_ior (at_ dl_X5_openBy 20 (ins := .ior) rfl)) (
  tkc (s_istore_n (at_ dl_X5_openBy 21 (ins := .istore_n 2) rfl) (by decide)) (
  tkc (s_iinc (at_ dl_X5_openBy 22 (ins := .iinc 3 1) rfl) (by decide) (by first | rfl | decide)) (
  tkc (s_goto (at_ dl_X5_openBy 23 (ins := .goto (-29)) rfl) (by decide)) (
  tkc (s_iload_n (at_ dl_X5_openBy 24 (ins := .iload_n 2) rfl)) (
  tkc (s_rI (at_ dl_X5_openBy 25 (ins := .ireturn) rfl) rfl) ( tk0))))))))))))))))))))))))))
theorem lf_X5_openBy : lk (tb_X5_openBy) 0 = (x_c 1 (.int 0), false) ∧ lk (tb_X5_openBy) 1 = (x_is 2 2, false) ∧ lk (tb_X5_openBy) 2 = (x_c 3 (.int 0), false) ∧ lk (tb_X5_openBy) 3 = (x_is 4 3, false) ∧ lk (tb_X5_openBy) 4 = (x_il 5 3, true) ∧ lk (tb_X5_openBy) 5 = (x_al 6 0, false) ∧ lk (tb_X5_openBy) 6 = (x_gI 5 5 9, false) ∧ lk (tb_X5_openBy) 9 = (x_ic 36 12 (fun x y : Int32 => y ≤ x), false) ∧ lk (tb_X5_openBy) 12 = (x_il 13 2, false) ∧ lk (tb_X5_openBy) 13 = (x_al 14 0, false) ∧ lk (tb_X5_openBy) 14 = (x_gR 5 0 17, false) ∧ lk (tb_X5_openBy) 17 = (x_il 18 3, false) ∧ lk (tb_X5_openBy) 18 = (x_ia 19, false) ∧ lk (tb_X5_openBy) 19 = (x_il 20 1, false) ∧ lk (tb_X5_openBy) 20 = (x_ii 21 (fun x y : Int32 => x &&& y), false) ∧ lk (tb_X5_openBy) 21 = (x_cS 1 P_J6_bitCount_0f7a4 24, false) ∧ lk (tb_X5_openBy) 24 = (x_c 25 (.int 1), false) ∧ lk (tb_X5_openBy) 25 = (x_ii 26 (fun x y : Int32 => x &&& y), false) ∧ lk (tb_X5_openBy) 26 = (x_il 27 3, false) ∧ lk (tb_X5_openBy) 27 = (x_ii 28 (fun x y : Int32 => x <<< (y &&& 31)), false) ∧ lk (tb_X5_openBy) 28 = (x_ii 29 (fun x y : Int32 => x ||| y), false) ∧ lk (tb_X5_openBy) 29 = (x_is 30 2, false) ∧ lk (tb_X5_openBy) 30 = (x_inc 33 3 1, false) ∧ lk (tb_X5_openBy) 33 = (x_go 4, false) ∧ lk (tb_X5_openBy) 36 = (x_il 37 2, false) ∧ lk (tb_X5_openBy) 37 = (x_rI, false) := ⟨rfl, rfl, rfl, rfl, rfl, rfl, rfl, rfl, rfl, rfl, rfl, rfl, rfl, rfl, rfl, rfl, rfl, rfl, rfl, rfl, rfl, rfl, rfl, rfl, rfl, rfl⟩
def P_X5_openBy : PTT := fun as M R => match as with
  | [.ref k, .int w] => IsSt M.1 k ∧ (∃ m, m ≤ 6 ∧ M.2.1 k 5 = nI m ∧ ∀ c, c < m → ovS M.2.1 k c < 512) ∧ tn w < 512 ∧ R (some (.int (nI (opB (ovS M.2.1 k) (tn (M.2.1 k 5)) (tn w))))) M
  | _ => False
theorem and512 {a b : Nat} (h : a < 512) : a &&& b < 512 := Nat.lt_of_le_of_lt Nat.and_le_left h
theorem par01 (v : Nat) : nI v &&& 1 = nI (if v % 2 == 1 then 1 else 0) := by
  rw [one_nI, nI_and, Nat.and_one_is_mod]
  congr 1
  by_cases h : v % 2 = 1
  · simp [h]
  · simp [h]; omega
set_option maxRecDepth 20000 in
theorem ok_X5_openBy : Ok yX5_openBy mt_X5_openBy P_X5_openBy := by
  refine Ok.of (by decide) rfl rfl rfl rfl fun av ⟨S, I, L⟩ R hP => ?_
  unfold P_X5_openBy at hP
  split at hP
  case h_2 => exact hP.elim
  rename_i k w
  obtain ⟨k, rfl⟩ : ∃ q : Nat, q = k := ⟨k, rfl⟩
  refine ⟨by simp [ent, wide, mt_X5_openBy], ?_⟩
  show J mt_X5_openBy R 0 [some (.ref k), some (.int w), none, none] [] (S, I, L)
  try dsimp only at hP
  obtain ⟨hk, ⟨m, h6, hm, hov⟩, hw, hR⟩ := hP
  rw [hm, tn_nI (by omega)] at hR
  refine J.of tk_X5_openBy 200 fun ρ hρ => ?_
  simp only [hρ, x_c, x_il, x_ll, x_al, x_is, x_as, x_ls, x_inc, x_ii, x_iq, x_i1, x_l2, x_lq, x_lh, x_i2l, x_l2i, x_lcmp, x_dup, x_dup2, x_pop, x_if, x_ifn, x_ic, x_icn, x_go, x_sw, swc, x_l01, x_mx, x_gI, x_gL, x_gR, x_pI, x_pZ, x_pL, x_pR, x_ia, x_za, x_aa, x_ias, x_zas, x_aas, x_fac, x_fa, x_slen, x_sa, x_ac, x_oi, x_new, x_na, x_cS, x_cV, x_cI, x_rI, x_rZ, x_rL, x_r0, pa, short, oc, lg, lset, lset2, wide, cond_true, cond_false, true_and, and_true, ↓reduceIte, Bool.false_eq_true, true_or, or_true, lf_X5_openBy]
  refine up (P := fun i => J mt_X5_openBy R 4 [some (.ref k), some (.int w), some (.int (nI (bs (fun c => ones9 (ovS I k c &&& tn w) % 2 == 1) i))), some (.int (nI i))] [] (S, I, L)) (n := m) (fun i hi ih => ?_) 0 (Nat.zero_le _)
  refine J.of tk_X5_openBy 200 fun ρ hρ => ?_
  simp only [hρ, x_c, x_il, x_ll, x_al, x_is, x_as, x_ls, x_inc, x_ii, x_iq, x_i1, x_l2, x_lq, x_lh, x_i2l, x_l2i, x_lcmp, x_dup, x_dup2, x_pop, x_if, x_ifn, x_ic, x_icn, x_go, x_sw, swc, x_l01, x_mx, x_gI, x_gL, x_gR, x_pI, x_pZ, x_pL, x_pR, x_ia, x_za, x_aa, x_ias, x_zas, x_aas, x_fac, x_fa, x_slen, x_sa, x_ac, x_oi, x_new, x_na, x_cS, x_cV, x_cI, x_rI, x_rZ, x_rL, x_r0, pa, short, oc, lg, lset, lset2, wide, cond_true, cond_false, true_and, and_true, ↓reduceIte, Bool.false_eq_true, true_or, or_true, lf_X5_openBy, hk, hk.f, hm, ncl (show i < 2 ^ 31 by omega), nI_leI (show m < 2 ^ 31 by omega) (show i < 2 ^ 31 by omega), nI_1, P_J6_bitCount_0f7a4]
  refine ⟨fun h => ?_, fun h => ⟨vp_in_nI (by omega) (by omega), ?_, ?_⟩⟩
  · have : i = m := by omega
    subst this
    exact hR
  · rw [tn_and]; exact and512 (hov i (by omega))
  · rw [tn_and, par01, show tn (I (k + 1) i) = ovS I k i from rfl, bs_b (f := fun c => ones9 (ovS I k c &&& tn w) % 2 == 1) (i := i) (by omega) rfl]
    exact ih (by omega)
def il_X5_open : List (Nat × Instr × Nat) := [(0, .aload_n 0, 1), (1, .aload_n 0, 1), (2, .invokevirtual 59, 3), (5, .invokevirtual 63, 3), (8, .ireturn, 1)]
def mt_X5_open : Mt := (cX5_open, RX5, 1, (some .int), ({ frames := 2, cells := 0, slots := 0, locals := 43 } : Room), false, none, none)
set_option maxRecDepth 100000 in
theorem dl_X5_open : ∀ q ∈ il_X5_open, decode (mt_X5_open).1 q.1 = .ok q.2 := by decide +kernel
def tb_X5_open : Tb := [(0, x_al 1 0, false),
  (1, x_al 2 0, false),
  (2, x_cV 5 0 P_X5_word 5, false),
  (5, x_cV 5 1 P_X5_openBy 8, false),
  (8, x_rI, false)]
set_option maxRecDepth 100000 in
theorem tk_X5_open : TbOk (mt_X5_open) (tb_X5_open) :=
  tkc (s_aload_n (at_ dl_X5_open 0 (ins := .aload_n 0) rfl)) (
  tkc (s_aload_n (at_ dl_X5_open 1 (ins := .aload_n 0) rfl)) (
  tkc (s_cV ok_X5_word (at_ dl_X5_open 2 (ins := .invokevirtual 59) rfl) (by decide) rfl (tg 368 (by decide +kernel) (by decide +kernel)) (tg 361 (by decide +kernel) (by decide +kernel)) (tg 362 (by decide +kernel) (by decide +kernel)) (tg 45 (by decide +kernel) (by decide +kernel)) (tg 363 (by decide +kernel) (by decide +kernel)) (⟨by decide, by decide, by decide +kernel⟩) (⟨by decide, by decide⟩) rfl rfl) (
  tkc (s_cV ok_X5_openBy (at_ dl_X5_open 3 (ins := .invokevirtual 63) rfl) (by decide) rfl (tg 369 (by decide +kernel) (by decide +kernel)) (tg 370 (by decide +kernel) (by decide +kernel)) (tg 371 (by decide +kernel) (by decide +kernel)) (tg 45 (by decide +kernel) (by decide +kernel)) (tg 372 (by decide +kernel) (by decide +kernel)) (⟨by decide, by decide, by decide +kernel⟩) (⟨by decide, by decide⟩) rfl rfl) (
  tkc (s_rI (at_ dl_X5_open 4 (ins := .ireturn) rfl) rfl) ( tk0)))))
theorem lf_X5_open : lk (tb_X5_open) 0 = (x_al 1 0, false) ∧ lk (tb_X5_open) 1 = (x_al 2 0, false) ∧ lk (tb_X5_open) 2 = (x_cV 5 0 P_X5_word 5, false) ∧ lk (tb_X5_open) 5 = (x_cV 5 1 P_X5_openBy 8, false) ∧ lk (tb_X5_open) 8 = (x_rI, false) := ⟨rfl, rfl, rfl, rfl, rfl⟩
def opS (I : MI) (k : Nat) : Nat := opB (ovS I k) (tn (I k 5)) (wdF (I (k + 3)) (tn (I k 4)))
def SVq (I : MI) (k : Nat) : Prop := (∃ n, n ≤ 9 ∧ I k 4 = nI n) ∧ (∃ m, m ≤ 6 ∧ I k 5 = nI m ∧ ∀ c, c < m → ovS I k c < 512)
theorem SV.q {I : MI} {k n m : Nat} (h : SV I k n m) : SVq I k := ⟨⟨n, h.1.2.1, h.2.1.1⟩, m, h.1.2.2, h.2.1.2, fun _ hc => h.ov hc⟩
def P_X5_open : PTT := fun as M R => match as with
  | [.ref k] => IsSt M.1 k ∧ SVq M.2.1 k ∧ R (some (.int (nI (opS M.2.1 k)))) M
  | _ => False
theorem wd_tn {I : MI} {k : Nat} (h : SVq I k) : tn (nI (wdF (I (k + 3)) (tn (I k 4)))) = wdF (I (k + 3)) (tn (I k 4)) ∧ wdF (I (k + 3)) (tn (I k 4)) < 512 := by
  obtain ⟨⟨n, h9, hn⟩, -⟩ := h
  rw [hn, tn_nI (n := n) (by omega)]
  have := wdF_lt (I (k + 3)) h9
  exact ⟨tn_nI (by omega), this⟩
set_option maxRecDepth 20000 in
theorem ok_X5_open : Ok yX5_open mt_X5_open P_X5_open := by
  refine Ok.of (by decide) rfl rfl rfl rfl fun av ⟨S, I, L⟩ R hP => ?_
  unfold P_X5_open at hP
  split at hP
  case h_2 => exact hP.elim
  rename_i k
  obtain ⟨k, rfl⟩ : ∃ q : Nat, q = k := ⟨k, rfl⟩
  refine ⟨by simp [ent, wide, mt_X5_open], ?_⟩
  show J mt_X5_open R 0 [some (.ref k)] [] (S, I, L)
  try dsimp only at hP
  obtain ⟨hk, hq, hR⟩ := hP
  refine J.of tk_X5_open 200 fun ρ hρ => ?_
  simp only [hρ, x_c, x_il, x_ll, x_al, x_is, x_as, x_ls, x_inc, x_ii, x_iq, x_i1, x_l2, x_lq, x_lh, x_i2l, x_l2i, x_lcmp, x_dup, x_dup2, x_pop, x_if, x_ifn, x_ic, x_icn, x_go, x_sw, swc, x_l01, x_mx, x_gI, x_gL, x_gR, x_pI, x_pZ, x_pL, x_pR, x_ia, x_za, x_aa, x_ias, x_zas, x_aas, x_fac, x_fa, x_slen, x_sa, x_ac, x_oi, x_new, x_na, x_cS, x_cV, x_cI, x_rI, x_rZ, x_rL, x_r0, pa, short, oc, lg, lset, lset2, wide, cond_true, cond_false, true_and, and_true, ↓reduceIte, Bool.false_eq_true, true_or, or_true, lf_X5_open, hk, hk.f, P_X5_word, P_X5_openBy, eq_true hq.1, eq_true hq.2, wd_tn hq]
  exact hR
def il_X5_solved : List (Nat × Instr × Nat) := [(0, .aload_n 0, 1), (1, .aload_n 0, 1), (2, .invokevirtual 59, 3), (5, .invokevirtual 63, 3), (8, .ifCond .ne 7, 3), (11, .iconst 1, 1), (12, .goto 4, 3), (15, .iconst 0, 1), (16, .ireturn, 1)]
def mt_X5_solved : Mt := (cX5_solved, RX5, 1, (some .boolean), ({ frames := 2, cells := 0, slots := 0, locals := 43 } : Room), false, none, none)
set_option maxRecDepth 100000 in
theorem dl_X5_solved : ∀ q ∈ il_X5_solved, decode (mt_X5_solved).1 q.1 = .ok q.2 := by decide +kernel
def tb_X5_solved : Tb := [(0, x_al 1 0, false),
  (1, x_al 2 0, false),
  (2, x_cV 5 0 P_X5_word 5, false),
  (5, x_cV 5 1 P_X5_openBy 8, false),
  (8, x_ifn 15 11 (fun x : Int32 => x = 0), false),
  (11, x_c 12 (.int 1), false),
  (12, x_go 16, false),
  (15, x_c 16 (.int 0), false),
  (16, x_rZ, false)]
set_option maxRecDepth 100000 in
theorem tk_X5_solved : TbOk (mt_X5_solved) (tb_X5_solved) :=
  tkc (s_aload_n (at_ dl_X5_solved 0 (ins := .aload_n 0) rfl)) (
  tkc (s_aload_n (at_ dl_X5_solved 1 (ins := .aload_n 0) rfl)) (
  tkc (s_cV ok_X5_word (at_ dl_X5_solved 2 (ins := .invokevirtual 59) rfl) (by decide) rfl (tg 368 (by decide +kernel) (by decide +kernel)) (tg 361 (by decide +kernel) (by decide +kernel)) (tg 362 (by decide +kernel) (by decide +kernel)) (tg 45 (by decide +kernel) (by decide +kernel)) (tg 363 (by decide +kernel) (by decide +kernel)) (⟨by decide, by decide, by decide +kernel⟩) (⟨by decide, by decide⟩) rfl rfl) (
  tkc (s_cV ok_X5_openBy (at_ dl_X5_solved 3 (ins := .invokevirtual 63) rfl) (by decide) rfl (tg 369 (by decide +kernel) (by decide +kernel)) (tg 370 (by decide +kernel) (by decide +kernel)) (tg 371 (by decide +kernel) (by decide +kernel)) (tg 45 (by decide +kernel) (by decide +kernel)) (tg 372 (by decide +kernel) (by decide +kernel)) (⟨by decide, by decide, by decide +kernel⟩) (⟨by decide, by decide⟩) rfl rfl) (
  tkc (s_if_ne (at_ dl_X5_solved 4 (ins := .ifCond .ne 7) rfl) (by decide)) (
  tkc (s_iconst (at_ dl_X5_solved 5 (ins := .iconst 1) rfl) (by first | rfl | decide)) (
  tkc (s_goto (at_ dl_X5_solved 6 (ins := .goto 4) rfl) (by decide)) (
  tkc (s_iconst (at_ dl_X5_solved 7 (ins := .iconst 0) rfl) (by first | rfl | decide)) (
  tkc (s_rZ (at_ dl_X5_solved 8 (ins := .ireturn) rfl) rfl) ( tk0)))))))))
theorem lf_X5_solved : lk (tb_X5_solved) 0 = (x_al 1 0, false) ∧ lk (tb_X5_solved) 1 = (x_al 2 0, false) ∧ lk (tb_X5_solved) 2 = (x_cV 5 0 P_X5_word 5, false) ∧ lk (tb_X5_solved) 5 = (x_cV 5 1 P_X5_openBy 8, false) ∧ lk (tb_X5_solved) 8 = (x_ifn 15 11 (fun x : Int32 => x = 0), false) ∧ lk (tb_X5_solved) 11 = (x_c 12 (.int 1), false) ∧ lk (tb_X5_solved) 12 = (x_go 16, false) ∧ lk (tb_X5_solved) 15 = (x_c 16 (.int 0), false) ∧ lk (tb_X5_solved) 16 = (x_rZ, false) := ⟨rfl, rfl, rfl, rfl, rfl, rfl, rfl, rfl, rfl⟩
def P_X5_solved : PTT := fun as M R => match as with
  | [.ref k] => IsSt M.1 k ∧ SVq M.2.1 k ∧ R (some (.int (bI (opS M.2.1 k = 0)))) M
  | _ => False
theorem pow6 {m : Nat} (h : m ≤ 6) : 2 ^ m ≤ 64 := by
  have : 2 ^ m ≤ 2 ^ 6 := Nat.pow_le_pow_right (by omega) h
  omega
theorem opB_lt {ov : Nat → Nat} {m w : Nat} (h : m ≤ 6) : opB ov m w < 64 := Nat.lt_of_lt_of_le (bs_lt _ _) (pow6 h)
theorem opS_lt {I : MI} {k : Nat} (h : SVq I k) : opS I k < 64 := by
  obtain ⟨-, m, h6, hm, -⟩ := h
  unfold opS
  rw [hm, tn_nI (by omega)]
  exact opB_lt h6
theorem nI_z {n : Nat} (h : n < 2 ^ 31) : nI n = 0 ↔ n = 0 := by rw [zero_nI]; exact nI_eq h (by omega)
set_option maxRecDepth 20000 in
theorem ok_X5_solved : Ok yX5_solved mt_X5_solved P_X5_solved := by
  refine Ok.of (by decide) rfl rfl rfl rfl fun av ⟨S, I, L⟩ R hP => ?_
  unfold P_X5_solved at hP
  split at hP
  case h_2 => exact hP.elim
  rename_i k
  obtain ⟨k, rfl⟩ : ∃ q : Nat, q = k := ⟨k, rfl⟩
  refine ⟨by simp [ent, wide, mt_X5_solved], ?_⟩
  show J mt_X5_solved R 0 [some (.ref k)] [] (S, I, L)
  try dsimp only at hP
  obtain ⟨hk, hq, hR⟩ := hP
  refine J.of tk_X5_solved 200 fun ρ hρ => ?_
  simp only [hρ, x_c, x_il, x_ll, x_al, x_is, x_as, x_ls, x_inc, x_ii, x_iq, x_i1, x_l2, x_lq, x_lh, x_i2l, x_l2i, x_lcmp, x_dup, x_dup2, x_pop, x_if, x_ifn, x_ic, x_icn, x_go, x_sw, swc, x_l01, x_mx, x_gI, x_gL, x_gR, x_pI, x_pZ, x_pL, x_pR, x_ia, x_za, x_aa, x_ias, x_zas, x_aas, x_fac, x_fa, x_slen, x_sa, x_ac, x_oi, x_new, x_na, x_cS, x_cV, x_cI, x_rI, x_rZ, x_rL, x_r0, pa, short, oc, lg, lset, lset2, wide, cond_true, cond_false, true_and, and_true, ↓reduceIte, Bool.false_eq_true, true_or, or_true, lf_X5_solved, hk, hk.f, P_X5_word, P_X5_openBy, eq_true hq.1, eq_true hq.2, wd_tn hq]
  have hl := opS_lt hq
  unfold opS at hl hR
  refine ⟨fun h => ?_, fun h => ?_⟩
  · rwa [bI_f (fun q => h (by rw [q]; rfl))] at hR
  · rwa [bI_t ((nI_z (by omega)).mp h)] at hR
end
section
/-! STATE: what is written anew -/
theorem mS_app {α : Type} (I : Nat → α) (k : Nat) (r : α) (q : Nat) : mS I k r q = if q = k then r else I q := rfl
theorem mS_ss {α : Type} (I : Nat → α) (k : Nat) (a b : α) : mS (mS I k a) k b = mS I k b := by
  funext q; simp only [mS]; split <;> rfl
theorem mS_id {α : Type} (I : Nat → α) (k : Nat) : mS I k (I k) = I := by
  funext q; simp only [mS]; split
  · next h => rw [h]
  · rfl
theorem mS_id' {α : Type} {I : Nat → α} {k : Nat} {r : α} (h : r = I k) : mS I k r = I := by rw [h, mS_id]
/-- of five places from k on, which are which -/
theorem kj (k : Nat) : ((k = k + 1) = False) ∧ ((k = k + 2) = False) ∧ ((k = k + 3) = False) ∧ ((k = k + 4) = False) ∧ ((k + 1 = k) = False) ∧ ((k + 2 = k) = False) ∧ ((k + 3 = k) = False) ∧ ((k + 4 = k) = False) ∧ ((k + 1 = k + 2) = False) ∧ ((k + 1 = k + 3) = False) ∧ ((k + 1 = k + 4) = False) ∧ ((k + 2 = k + 1) = False) ∧ ((k + 2 = k + 3) = False) ∧ ((k + 2 = k + 4) = False) ∧ ((k + 3 = k + 1) = False) ∧ ((k + 3 = k + 2) = False) ∧ ((k + 3 = k + 4) = False) ∧ ((k + 4 = k + 1) = False) ∧ ((k + 4 = k + 2) = False) ∧ ((k + 4 = k + 3) = False) := by
  refine ⟨?_, ?_, ?_, ?_, ?_, ?_, ?_, ?_, ?_, ?_, ?_, ?_, ?_, ?_, ?_, ?_, ?_, ?_, ?_, ?_⟩ <;> exact eq_false (by omega)
def apart5 (k o : Nat) : Prop := k + 5 ≤ o ∨ o + 5 ≤ k
/-- two sets of five places apart -/
theorem oj {k o : Nat} (h : k + 5 ≤ o ∨ o + 5 ≤ k) : (((o = k) = False) ∧ ((o = k + 1) = False) ∧ ((o = k + 2) = False) ∧ ((o = k + 3) = False) ∧ ((o = k + 4) = False)) ∧ (((o + 1 = k) = False) ∧ ((o + 1 = k + 1) = False) ∧ ((o + 1 = k + 2) = False) ∧ ((o + 1 = k + 3) = False) ∧ ((o + 1 = k + 4) = False)) ∧ (((o + 2 = k) = False) ∧ ((o + 2 = k + 1) = False) ∧ ((o + 2 = k + 2) = False) ∧ ((o + 2 = k + 3) = False) ∧ ((o + 2 = k + 4) = False)) ∧ (((o + 3 = k) = False) ∧ ((o + 3 = k + 1) = False) ∧ ((o + 3 = k + 2) = False) ∧ ((o + 3 = k + 3) = False) ∧ ((o + 3 = k + 4) = False)) ∧ (((o + 4 = k) = False) ∧ ((o + 4 = k + 1) = False) ∧ ((o + 4 = k + 2) = False) ∧ ((o + 4 = k + 3) = False) ∧ ((o + 4 = k + 4) = False)) := by
  refine ⟨⟨?_, ?_, ?_, ?_, ?_⟩, ⟨?_, ?_, ?_, ?_, ?_⟩, ⟨?_, ?_, ?_, ?_, ?_⟩, ⟨?_, ?_, ?_, ?_, ?_⟩, ⟨?_, ?_, ?_, ?_, ?_⟩⟩ <;> exact eq_false (by omega)
/-- the first n places are 0 -/
def zr (f : Nat → Int32) (n : Nat) : Nat → Int32 := fun j => if j < n then 0 else f j
theorem zr_0 (f : Nat → Int32) : zr f 0 = f := by funext j; simp [zr]
theorem zr_s (f : Nat → Int32) (i : Nat) : upd (zr f i) i 0 = zr f (i + 1) := by
  funext j
  simp only [upd, zr]
  by_cases h : j = i
  · subst h; simp
  · by_cases h2 : j < i
    · simp [h, h2, show j < i + 1 by omega]
    · simp [h, h2, show ¬ j < i + 1 by omega]
def cpy (f g : Nat → Int32) (n : Nat) : Nat → Int32 := va_cpy f g 0 0 n
theorem cpy_in {f g : Nat → Int32} {n j : Nat} (h : j < n) : cpy f g n j = f j := by simp [cpy, va_cpy, h]
theorem cpy_out {f g : Nat → Int32} {n j : Nat} (h : n ≤ j) : cpy f g n j = g j := by simp [cpy, va_cpy, show ¬ j < n by omega]
def il_X5_beginAnew : List (Nat × Instr × Nat) := [(0, .aload_n 0, 1), (1, .getfield 15, 3), (4, .iconst 0, 1), (5, .aload_n 0, 1), (6, .getfield 18, 3), (9, .iconst 0, 1), (10, .bipush 9, 2), (12, .invokestatic 43, 3), (15, .iconst 0, 1), (16, .istore_n 1, 1), (17, .iload_n 1, 1), (18, .bipush 54, 2), (20, .if_icmp .ge 16, 3), (23, .aload_n 0, 1), (24, .getfield 21, 3), (27, .iload_n 1, 1), (28, .iconst 0, 1), (29, .iastore, 1), (30, .iinc 1 1, 3), (33, .goto (-16), 3), (36, .aload_n 0, 1), (37, .iconst 0, 1), (38, .putfield 34, 3), (41, .return_, 1)]
def mt_X5_beginAnew : Mt := (cX5_beginAnew, RX5, 2, none, ({ frames := 1, cells := 0, slots := 0, locals := 18 } : Room), false, none, none)
set_option maxRecDepth 100000 in
theorem dl_X5_beginAnew : ∀ q ∈ il_X5_beginAnew, decode (mt_X5_beginAnew).1 q.1 = .ok q.2 := by decide +kernel
def tb_X5_beginAnew : Tb := [(0, x_al 1 0, false),
  (1, x_gR 5 1 4, false),
  (4, x_c 5 (.int 0), false),
  (5, x_al 6 0, false),
  (6, x_gR 5 2 9, false),
  (9, x_c 10 (.int 0), false),
  (10, x_c 12 (.int 9), false),
  (12, x_ac 15 9, false),
  (15, x_c 16 (.int 0), false),
  (16, x_is 17 1, false),
  (17, x_il 18 1, true),
  (18, x_c 20 (.int 54), false),
  (20, x_ic 36 23 (fun x y : Int32 => y ≤ x), false),
  (23, x_al 24 0, false),
  (24, x_gR 5 3 27, false),
  (27, x_il 28 1, false),
  (28, x_c 29 (.int 0), false),
  (29, x_ias 30, false),
  (30, x_inc 33 1 1, false),
  (33, x_go 17, false),
  (36, x_al 37 0, false),
  (37, x_c 38 (.int 0), false),
  (38, x_pI 5 7 41, false),
  (41, x_r0, false)]
set_option maxRecDepth 100000 in
theorem tk_X5_beginAnew : TbOk (mt_X5_beginAnew) (tb_X5_beginAnew) :=
  tkc (s_aload_n (at_ dl_X5_beginAnew 0 (ins := .aload_n 0) rfl)) (
  tkc (s_gR (at_ dl_X5_beginAnew 1 (ins := .getfield 15) rfl) (by decide) (by decide) (by decide) (tg 126 (by decide +kernel) (by decide +kernel))) (
  tkc (s_iconst (at_ dl_X5_beginAnew 2 (ins := .iconst 0) rfl) (by first | rfl | decide)) (
  tkc (s_aload_n (at_ dl_X5_beginAnew 3 (ins := .aload_n 0) rfl)) (
  tkc (s_gR (at_ dl_X5_beginAnew 4 (ins := .getfield 18) rfl) (by decide) (by decide) (by decide) (tg 128 (by decide +kernel) (by decide +kernel))) (
  tkc (s_iconst (at_ dl_X5_beginAnew 5 (ins := .iconst 0) rfl) (by first | rfl | decide)) (
  tkc (s_bipush (at_ dl_X5_beginAnew 6 (ins := .bipush 9) rfl) (by first | rfl | decide)) (
  tkc (s_ac (at_ dl_X5_beginAnew 7 (ins := .invokestatic 43) rfl) (by decide) (tg 345 (by decide +kernel) (by decide +kernel)) (by decide) (by decide)) (
  tkc (s_iconst (at_ dl_X5_beginAnew 8 (ins := .iconst 0) rfl) (by first | rfl | decide)) (
  tkc (s_istore_n (at_ dl_X5_beginAnew 9 (ins := .istore_n 1) rfl) (by decide)) (
  tkc (s_iload_n (at_ dl_X5_beginAnew 10 (ins := .iload_n 1) rfl)) (
  tkc (s_bipush (at_ dl_X5_beginAnew 11 (ins := .bipush 54) rfl) (by first | rfl | decide)) (
  tkc (s_ic_ge (at_ dl_X5_beginAnew 12 (ins := .if_icmp .ge 16) rfl) (by decide)) (
  tkc (s_aload_n (at_ dl_X5_beginAnew 13 (ins := .aload_n 0) rfl)) (
  tkc (s_gR (at_ dl_X5_beginAnew 14 (ins := .getfield 21) rfl) (by decide) (by decide) (by decide) (tg 131 (by decide +kernel) (by decide +kernel))) (
  tkc (s_iload_n (at_ dl_X5_beginAnew 15 (ins := .iload_n 1) rfl)) (
  tkc (s_iconst (at_ dl_X5_beginAnew 16 (ins := .iconst 0) rfl) (by first | rfl | decide)) (
  tkc (s_ias (at_ dl_X5_beginAnew 17 (ins := .iastore) rfl)) (
  tkc (s_iinc (at_ dl_X5_beginAnew 18 (ins := .iinc 1 1) rfl) (by decide) (by first | rfl | decide)) (
  tkc (s_goto (at_ dl_X5_beginAnew 19 (ins := .goto (-16)) rfl) (by decide)) (
  tkc (s_aload_n (at_ dl_X5_beginAnew 20 (ins := .aload_n 0) rfl)) (
  tkc (s_iconst (at_ dl_X5_beginAnew 21 (ins := .iconst 0) rfl) (by first | rfl | decide)) (
  tkc (s_pI (at_ dl_X5_beginAnew 22 (ins := .putfield 34) rfl) (by decide) (by decide) (by decide) (by decide) (tg 148 (by decide +kernel) (by decide +kernel))) (
  tkc (s_r0 (at_ dl_X5_beginAnew 23 (ins := .return_) rfl) rfl) ( tk0))))))))))))))))))))))))
theorem lf_X5_beginAnew : lk (tb_X5_beginAnew) 0 = (x_al 1 0, false) ∧ lk (tb_X5_beginAnew) 1 = (x_gR 5 1 4, false) ∧ lk (tb_X5_beginAnew) 4 = (x_c 5 (.int 0), false) ∧ lk (tb_X5_beginAnew) 5 = (x_al 6 0, false) ∧ lk (tb_X5_beginAnew) 6 = (x_gR 5 2 9, false) ∧ lk (tb_X5_beginAnew) 9 = (x_c 10 (.int 0), false) ∧ lk (tb_X5_beginAnew) 10 = (x_c 12 (.int 9), false) ∧ lk (tb_X5_beginAnew) 12 = (x_ac 15 9, false) ∧ lk (tb_X5_beginAnew) 15 = (x_c 16 (.int 0), false) ∧ lk (tb_X5_beginAnew) 16 = (x_is 17 1, false) ∧ lk (tb_X5_beginAnew) 17 = (x_il 18 1, true) ∧ lk (tb_X5_beginAnew) 18 = (x_c 20 (.int 54), false) ∧ lk (tb_X5_beginAnew) 20 = (x_ic 36 23 (fun x y : Int32 => y ≤ x), false) ∧ lk (tb_X5_beginAnew) 23 = (x_al 24 0, false) ∧ lk (tb_X5_beginAnew) 24 = (x_gR 5 3 27, false) ∧ lk (tb_X5_beginAnew) 27 = (x_il 28 1, false) ∧ lk (tb_X5_beginAnew) 28 = (x_c 29 (.int 0), false) ∧ lk (tb_X5_beginAnew) 29 = (x_ias 30, false) ∧ lk (tb_X5_beginAnew) 30 = (x_inc 33 1 1, false) ∧ lk (tb_X5_beginAnew) 33 = (x_go 17, false) ∧ lk (tb_X5_beginAnew) 36 = (x_al 37 0, false) ∧ lk (tb_X5_beginAnew) 37 = (x_c 38 (.int 0), false) ∧ lk (tb_X5_beginAnew) 38 = (x_pI 5 7 41, false) ∧ lk (tb_X5_beginAnew) 41 = (x_r0, false) := ⟨rfl, rfl, rfl, rfl, rfl, rfl, rfl, rfl, rfl, rfl, rfl, rfl, rfl, rfl, rfl, rfl, rfl, rfl, rfl, rfl, rfl, rfl, rfl, rfl⟩
def begI (I : MI) (k : Nat) : MI := mS (mS (mS I (k + 3) (cpy (I (k + 2)) (I (k + 3)) 9)) (k + 4) (zr (I (k + 4)) 54)) k (upd (I k) 7 0)
def P_X5_beginAnew : PTT := fun as M R => match as with
  | [.ref k] => IsSt M.1 k ∧ R none (M.1, begI M.2.1 k, M.2.2)
  | _ => False
theorem nI9 : (9 : Int32) = nI 9 := by decide
theorem nI54 : (54 : Int32) = nI 54 := by decide
theorem nI6 : (6 : Int32) = nI 6 := by decide
set_option maxRecDepth 20000 in
theorem ok_X5_beginAnew : Ok yX5_beginAnew mt_X5_beginAnew P_X5_beginAnew := by
  refine Ok.of (by decide) rfl rfl rfl rfl fun av ⟨S, I, L⟩ R hP => ?_
  unfold P_X5_beginAnew at hP
  split at hP
  case h_2 => exact hP.elim
  rename_i k
  obtain ⟨k, rfl⟩ : ∃ q : Nat, q = k := ⟨k, rfl⟩
  refine ⟨by simp [ent, wide, mt_X5_beginAnew], ?_⟩
  show J mt_X5_beginAnew R 0 [some (.ref k), none] [] (S, I, L)
  try dsimp only at hP
  obtain ⟨hk, hR⟩ := hP
  refine J.of tk_X5_beginAnew 200 fun ρ hρ => ?_
  simp only [hρ, x_c, x_il, x_ll, x_al, x_is, x_as, x_ls, x_inc, x_ii, x_iq, x_i1, x_l2, x_lq, x_lh, x_i2l, x_l2i, x_lcmp, x_dup, x_dup2, x_pop, x_if, x_ifn, x_ic, x_icn, x_go, x_sw, swc, x_l01, x_mx, x_gI, x_gL, x_gR, x_pI, x_pZ, x_pL, x_pR, x_ia, x_za, x_aa, x_ias, x_zas, x_aas, x_fac, x_fa, x_slen, x_sa, x_ac, x_oi, x_new, x_na, x_cS, x_cV, x_cI, x_rI, x_rZ, x_rL, x_r0, pa, short, oc, lg, lset, lset2, wide, cond_true, cond_false, true_and, and_true, ↓reduceIte, Bool.false_eq_true, true_or, or_true, lf_X5_beginAnew, hk.f, nI9, Nat.le_refl]
  have key := up (P := fun i => J mt_X5_beginAnew R 17 [some (.ref k), some (.int (nI i))] [] (S, mS (mS I (k + 3) (cpy (I (k + 2)) (I (k + 3)) 9)) (k + 4) (zr (I (k + 4)) i), L)) (n := 54) (fun i hi ih => ?_) 0 (Nat.zero_le _)
  · rw [zr_0, mS_id' (I := mS I (k + 3) (cpy (I (k + 2)) (I (k + 3)) 9)) (k := k + 4) (by simp only [mS_app, kj, if_false])] at key
    exact key
  refine J.of tk_X5_beginAnew 200 fun ρ hρ => ?_
  simp only [hρ, x_c, x_il, x_ll, x_al, x_is, x_as, x_ls, x_inc, x_ii, x_iq, x_i1, x_l2, x_lq, x_lh, x_i2l, x_l2i, x_lcmp, x_dup, x_dup2, x_pop, x_if, x_ifn, x_ic, x_icn, x_go, x_sw, swc, x_l01, x_mx, x_gI, x_gL, x_gR, x_pI, x_pZ, x_pL, x_pR, x_ia, x_za, x_aa, x_ias, x_zas, x_aas, x_fac, x_fa, x_slen, x_sa, x_ac, x_oi, x_new, x_na, x_cS, x_cV, x_cI, x_rI, x_rZ, x_rL, x_r0, pa, short, oc, lg, lset, lset2, wide, cond_true, cond_false, true_and, and_true, ↓reduceIte, Bool.false_eq_true, true_or, or_true, lf_X5_beginAnew, hk.f, nI54, nI_leI (show 54 < 2 ^ 31 by omega) (show i < 2 ^ 31 by omega), ncl (show i < 2 ^ 31 by omega), nI_1, mS_app, kj, mS_ss, zr_s]
  refine ⟨fun h => ?_, fun h => ⟨vp_in_nI (by omega) (by omega), ih (by omega)⟩⟩
  have : i = 54 := by omega
  subst this
  exact hR
def il_X5_becomeLike : List (Nat × Instr × Nat) := [(0, .aload_n 0, 1), (1, .aload_n 1, 1), (2, .getfield 24, 3), (5, .putfield 24, 3), (8, .aload_n 0, 1), (9, .aload_n 1, 1), (10, .getfield 28, 3), (13, .putfield 28, 3), (16, .aload_n 0, 1), (17, .aload_n 1, 1), (18, .getfield 31, 3), (21, .putfield 31, 3), (24, .aload_n 0, 1), (25, .aload_n 1, 1), (26, .getfield 34, 3), (29, .putfield 34, 3), (32, .aload_n 1, 1), (33, .getfield 9, 3), (36, .iconst 0, 1), (37, .aload_n 0, 1), (38, .getfield 9, 3), (41, .iconst 0, 1), (42, .bipush 6, 2), (44, .invokestatic 43, 3), (47, .aload_n 1, 1), (48, .getfield 15, 3), (51, .iconst 0, 1), (52, .aload_n 0, 1), (53, .getfield 15, 3), (56, .iconst 0, 1), (57, .bipush 9, 2), (59, .invokestatic 43, 3), (62, .aload_n 1, 1), (63, .getfield 18, 3), (66, .iconst 0, 1), (67, .aload_n 0, 1), (68, .getfield 18, 3), (71, .iconst 0, 1), (72, .bipush 9, 2), (74, .invokestatic 43, 3), (77, .aload_n 1, 1), (78, .getfield 21, 3), (81, .iconst 0, 1), (82, .aload_n 0, 1), (83, .getfield 21, 3), (86, .iconst 0, 1), (87, .bipush 54, 2), (89, .invokestatic 43, 3), (92, .return_, 1)]
def mt_X5_becomeLike : Mt := (cX5_becomeLike, RX5, 2, none, ({ frames := 1, cells := 0, slots := 0, locals := 18 } : Room), false, none, none)
set_option maxRecDepth 100000 in
theorem dl_X5_becomeLike : ∀ q ∈ il_X5_becomeLike, decode (mt_X5_becomeLike).1 q.1 = .ok q.2 := by decide +kernel
def tb_X5_becomeLike : Tb := [(0, x_al 1 0, false),
  (1, x_al 2 1, false),
  (2, x_gI 5 4 5, false),
  (5, x_pI 5 4 8, false),
  (8, x_al 9 0, false),
  (9, x_al 10 1, false),
  (10, x_gI 5 5 13, false),
  (13, x_pI 5 5 16, false),
  (16, x_al 17 0, false),
  (17, x_al 18 1, false),
  (18, x_gI 5 6 21, false),
  (21, x_pI 5 6 24, false),
  (24, x_al 25 0, false),
  (25, x_al 26 1, false),
  (26, x_gI 5 7 29, false),
  (29, x_pI 5 7 32, false),
  (32, x_al 33 1, false),
  (33, x_gR 5 0 36, false),
  (36, x_c 37 (.int 0), false),
  (37, x_al 38 0, false),
  (38, x_gR 5 0 41, false),
  (41, x_c 42 (.int 0), false),
  (42, x_c 44 (.int 6), false),
  (44, x_ac 47 6, false),
  (47, x_al 48 1, false),
  (48, x_gR 5 1 51, false),
  (51, x_c 52 (.int 0), false),
  (52, x_al 53 0, false),
  (53, x_gR 5 1 56, false),
  (56, x_c 57 (.int 0), false),
  (57, x_c 59 (.int 9), false),
  (59, x_ac 62 9, false),
  (62, x_al 63 1, false),
  (63, x_gR 5 2 66, false),
  (66, x_c 67 (.int 0), false),
  (67, x_al 68 0, false),
  (68, x_gR 5 2 71, false),
  (71, x_c 72 (.int 0), false),
  (72, x_c 74 (.int 9), false),
  (74, x_ac 77 9, false),
  (77, x_al 78 1, false),
  (78, x_gR 5 3 81, false),
  (81, x_c 82 (.int 0), false),
  (82, x_al 83 0, false),
  (83, x_gR 5 3 86, false),
  (86, x_c 87 (.int 0), false),
  (87, x_c 89 (.int 54), false),
  (89, x_ac 92 54, false),
  (92, x_r0, false)]
set_option maxRecDepth 100000 in
theorem tk_X5_becomeLike : TbOk (mt_X5_becomeLike) (tb_X5_becomeLike) :=
  tkc (s_aload_n (at_ dl_X5_becomeLike 0 (ins := .aload_n 0) rfl)) (
  tkc (s_aload_n (at_ dl_X5_becomeLike 1 (ins := .aload_n 1) rfl)) (
  tkc (s_gI (at_ dl_X5_becomeLike 2 (ins := .getfield 24) rfl) (by decide) (by decide) (by decide) (tg 134 (by decide +kernel) (by decide +kernel))) (
  tkc (s_pI (at_ dl_X5_becomeLike 3 (ins := .putfield 24) rfl) (by decide) (by decide) (by decide) (by decide) (tg 134 (by decide +kernel) (by decide +kernel))) (
  tkc (s_aload_n (at_ dl_X5_becomeLike 4 (ins := .aload_n 0) rfl)) (
  tkc (s_aload_n (at_ dl_X5_becomeLike 5 (ins := .aload_n 1) rfl)) (
  tkc (s_gI (at_ dl_X5_becomeLike 6 (ins := .getfield 28) rfl) (by decide) (by decide) (by decide) (tg 139 (by decide +kernel) (by decide +kernel))) (
  tkc (s_pI (at_ dl_X5_becomeLike 7 (ins := .putfield 28) rfl) (by decide) (by decide) (by decide) (by decide) (tg 139 (by decide +kernel) (by decide +kernel))) (
  tkc (s_aload_n (at_ dl_X5_becomeLike 8 (ins := .aload_n 0) rfl)) (
  tkc (s_aload_n (at_ dl_X5_becomeLike 9 (ins := .aload_n 1) rfl)) (
  tkc (s_gI (at_ dl_X5_becomeLike 10 (ins := .getfield 31) rfl) (by decide) (by decide) (by decide) (tg 144 (by decide +kernel) (by decide +kernel))) (
  tkc (s_pI (at_ dl_X5_becomeLike 11 (ins := .putfield 31) rfl) (by decide) (by decide) (by decide) (by decide) (tg 144 (by decide +kernel) (by decide +kernel))) (
  tkc (s_aload_n (at_ dl_X5_becomeLike 12 (ins := .aload_n 0) rfl)) (
  tkc (s_aload_n (at_ dl_X5_becomeLike 13 (ins := .aload_n 1) rfl)) (
  tkc (s_gI (at_ dl_X5_becomeLike 14 (ins := .getfield 34) rfl) (by decide) (by decide) (by decide) (tg 148 (by decide +kernel) (by decide +kernel))) (
  tkc (s_pI (at_ dl_X5_becomeLike 15 (ins := .putfield 34) rfl) (by decide) (by decide) (by decide) (by decide) (tg 148 (by decide +kernel) (by decide +kernel))) (
  tkc (s_aload_n (at_ dl_X5_becomeLike 16 (ins := .aload_n 1) rfl)) (
  tkc (s_gR (at_ dl_X5_becomeLike 17 (ins := .getfield 9) rfl) (by decide) (by decide) (by decide) (tg 121 (by decide +kernel) (by decide +kernel))) (
  tkc (s_iconst (at_ dl_X5_becomeLike 18 (ins := .iconst 0) rfl) (by first | rfl | decide)) (
  tkc (s_aload_n (at_ dl_X5_becomeLike 19 (ins := .aload_n 0) rfl)) (
  tkc (s_gR (at_ dl_X5_becomeLike 20 (ins := .getfield 9) rfl) (by decide) (by decide) (by decide) (tg 121 (by decide +kernel) (by decide +kernel))) (
  tkc (s_iconst (at_ dl_X5_becomeLike 21 (ins := .iconst 0) rfl) (by first | rfl | decide)) (
  tkc (s_bipush (at_ dl_X5_becomeLike 22 (ins := .bipush 6) rfl) (by first | rfl | decide)) (
  tkc (s_ac (at_ dl_X5_becomeLike 23 (ins := .invokestatic 43) rfl) (by decide) (tg 345 (by decide +kernel) (by decide +kernel)) (by decide) (by decide)) (
  tkc (s_aload_n (at_ dl_X5_becomeLike 24 (ins := .aload_n 1) rfl)) (
  tkc (s_gR (at_ dl_X5_becomeLike 25 (ins := .getfield 15) rfl) (by decide) (by decide) (by decide) (tg 126 (by decide +kernel) (by decide +kernel))) (
  tkc (s_iconst (at_ dl_X5_becomeLike 26 (ins := .iconst 0) rfl) (by first | rfl | decide)) (
  tkc (s_aload_n (at_ dl_X5_becomeLike 27 (ins := .aload_n 0) rfl)) (
  tkc (s_gR (at_ dl_X5_becomeLike 28 (ins := .getfield 15) rfl) (by decide) (by decide) (by decide) (tg 126 (by decide +kernel) (by decide +kernel))) (
  tkc (s_iconst (at_ dl_X5_becomeLike 29 (ins := .iconst 0) rfl) (by first | rfl | decide)) (
  tkc (s_bipush (at_ dl_X5_becomeLike 30 (ins := .bipush 9) rfl) (by first | rfl | decide)) (
  tkc (s_ac (at_ dl_X5_becomeLike 31 (ins := .invokestatic 43) rfl) (by decide) (tg 345 (by decide +kernel) (by decide +kernel)) (by decide) (by decide)) (
  tkc (s_aload_n (at_ dl_X5_becomeLike 32 (ins := .aload_n 1) rfl)) (
  tkc (s_gR (at_ dl_X5_becomeLike 33 (ins := .getfield 18) rfl) (by decide) (by decide) (by decide) (tg 128 (by decide +kernel) (by decide +kernel))) (
  tkc (s_iconst (at_ dl_X5_becomeLike 34 (ins := .iconst 0) rfl) (by first | rfl | decide)) (
  tkc (s_aload_n (at_ dl_X5_becomeLike 35 (ins := .aload_n 0) rfl)) (
  tkc (s_gR (at_ dl_X5_becomeLike 36 (ins := .getfield 18) rfl) (by decide) (by decide) (by decide) (tg 128 (by decide +kernel) (by decide +kernel))) (
  tkc (s_iconst (at_ dl_X5_becomeLike 37 (ins := .iconst 0) rfl) (by first | rfl | decide)) (
  tkc (s_bipush (at_ dl_X5_becomeLike 38 (ins := .bipush 9) rfl) (by first | rfl | decide)) (
  tkc (s_ac (at_ dl_X5_becomeLike 39 (ins := .invokestatic 43) rfl) (by decide) (tg 345 (by decide +kernel) (by decide +kernel)) (by decide) (by decide)) (
  tkc (s_aload_n (at_ dl_X5_becomeLike 40 (ins := .aload_n 1) rfl)) (
  tkc (s_gR (at_ dl_X5_becomeLike 41 (ins := .getfield 21) rfl) (by decide) (by decide) (by decide) (tg 131 (by decide +kernel) (by decide +kernel))) (
  tkc (s_iconst (at_ dl_X5_becomeLike 42 (ins := .iconst 0) rfl) (by first | rfl | decide)) (
  tkc (s_aload_n (at_ dl_X5_becomeLike 43 (ins := .aload_n 0) rfl)) (
  tkc (s_gR (at_ dl_X5_becomeLike 44 (ins := .getfield 21) rfl) (by decide) (by decide) (by decide) (tg 131 (by decide +kernel) (by decide +kernel))) (
  tkc (s_iconst (at_ dl_X5_becomeLike 45 (ins := .iconst 0) rfl) (by first | rfl | decide)) (
  tkc (s_bipush (at_ dl_X5_becomeLike 46 (ins := .bipush 54) rfl) (by first | rfl | decide)) (
  tkc (s_ac (at_ dl_X5_becomeLike 47 (ins := .invokestatic 43) rfl) (by decide) (tg 345 (by decide +kernel) (by decide +kernel)) (by decide) (by decide)) (
  tkc (s_r0 (at_ dl_X5_becomeLike 48 (ins := .return_) rfl) rfl) ( tk0)))))))))))))))))))))))))))))))))))))))))))))))))
theorem lf_X5_becomeLike : lk (tb_X5_becomeLike) 0 = (x_al 1 0, false) ∧ lk (tb_X5_becomeLike) 1 = (x_al 2 1, false) ∧ lk (tb_X5_becomeLike) 2 = (x_gI 5 4 5, false) ∧ lk (tb_X5_becomeLike) 5 = (x_pI 5 4 8, false) ∧ lk (tb_X5_becomeLike) 8 = (x_al 9 0, false) ∧ lk (tb_X5_becomeLike) 9 = (x_al 10 1, false) ∧ lk (tb_X5_becomeLike) 10 = (x_gI 5 5 13, false) ∧ lk (tb_X5_becomeLike) 13 = (x_pI 5 5 16, false) ∧ lk (tb_X5_becomeLike) 16 = (x_al 17 0, false) ∧ lk (tb_X5_becomeLike) 17 = (x_al 18 1, false) ∧ lk (tb_X5_becomeLike) 18 = (x_gI 5 6 21, false) ∧ lk (tb_X5_becomeLike) 21 = (x_pI 5 6 24, false) ∧ lk (tb_X5_becomeLike) 24 = (x_al 25 0, false) ∧ lk (tb_X5_becomeLike) 25 = (x_al 26 1, false) ∧ lk (tb_X5_becomeLike) 26 = (x_gI 5 7 29, false) ∧ lk (tb_X5_becomeLike) 29 = (x_pI 5 7 32, false) ∧ lk (tb_X5_becomeLike) 32 = (x_al 33 1, false) ∧ lk (tb_X5_becomeLike) 33 = (x_gR 5 0 36, false) ∧ lk (tb_X5_becomeLike) 36 = (x_c 37 (.int 0), false) ∧ lk (tb_X5_becomeLike) 37 = (x_al 38 0, false) ∧ lk (tb_X5_becomeLike) 38 = (x_gR 5 0 41, false) ∧ lk (tb_X5_becomeLike) 41 = (x_c 42 (.int 0), false) ∧ lk (tb_X5_becomeLike) 42 = (x_c 44 (.int 6), false) ∧ lk (tb_X5_becomeLike) 44 = (x_ac 47 6, false) ∧ lk (tb_X5_becomeLike) 47 = (x_al 48 1, false) ∧ lk (tb_X5_becomeLike) 48 = (x_gR 5 1 51, false) ∧ lk (tb_X5_becomeLike) 51 = (x_c 52 (.int 0), false) ∧ lk (tb_X5_becomeLike) 52 = (x_al 53 0, false) ∧ lk (tb_X5_becomeLike) 53 = (x_gR 5 1 56, false) ∧ lk (tb_X5_becomeLike) 56 = (x_c 57 (.int 0), false) ∧ lk (tb_X5_becomeLike) 57 = (x_c 59 (.int 9), false) ∧ lk (tb_X5_becomeLike) 59 = (x_ac 62 9, false) ∧ lk (tb_X5_becomeLike) 62 = (x_al 63 1, false) ∧ lk (tb_X5_becomeLike) 63 = (x_gR 5 2 66, false) ∧ lk (tb_X5_becomeLike) 66 = (x_c 67 (.int 0), false) ∧ lk (tb_X5_becomeLike) 67 = (x_al 68 0, false) ∧ lk (tb_X5_becomeLike) 68 = (x_gR 5 2 71, false) ∧ lk (tb_X5_becomeLike) 71 = (x_c 72 (.int 0), false) ∧ lk (tb_X5_becomeLike) 72 = (x_c 74 (.int 9), false) ∧ lk (tb_X5_becomeLike) 74 = (x_ac 77 9, false) ∧ lk (tb_X5_becomeLike) 77 = (x_al 78 1, false) ∧ lk (tb_X5_becomeLike) 78 = (x_gR 5 3 81, false) ∧ lk (tb_X5_becomeLike) 81 = (x_c 82 (.int 0), false) ∧ lk (tb_X5_becomeLike) 82 = (x_al 83 0, false) ∧ lk (tb_X5_becomeLike) 83 = (x_gR 5 3 86, false) ∧ lk (tb_X5_becomeLike) 86 = (x_c 87 (.int 0), false) ∧ lk (tb_X5_becomeLike) 87 = (x_c 89 (.int 54), false) ∧ lk (tb_X5_becomeLike) 89 = (x_ac 92 54, false) ∧ lk (tb_X5_becomeLike) 92 = (x_r0, false) := ⟨rfl, rfl, rfl, rfl, rfl, rfl, rfl, rfl, rfl, rfl, rfl, rfl, rfl, rfl, rfl, rfl, rfl, rfl, rfl, rfl, rfl, rfl, rfl, rfl, rfl, rfl, rfl, rfl, rfl, rfl, rfl, rfl, rfl, rfl, rfl, rfl, rfl, rfl, rfl, rfl, rfl, rfl, rfl, rfl, rfl, rfl, rfl, rfl, rfl⟩
def cpI (I : MI) (k o : Nat) : MI := mS (mS (mS (mS (mS I k (upd (upd (upd (upd (I k) 4 (I o 4)) 5 (I o 5)) 6 (I o 6)) 7 (I o 7))) (k + 1) (cpy (I (o + 1)) (I (k + 1)) 6)) (k + 2) (cpy (I (o + 2)) (I (k + 2)) 9)) (k + 3) (cpy (I (o + 3)) (I (k + 3)) 9)) (k + 4) (cpy (I (o + 4)) (I (k + 4)) 54)
def P_X5_becomeLike : PTT := fun as M R => match as with
  | [.ref k, .ref o] => IsSt M.1 k ∧ IsSt M.1 o ∧ apart5 k o ∧ R none (M.1, cpI M.2.1 k o, M.2.2)
  | _ => False
set_option maxRecDepth 20000 in
theorem ok_X5_becomeLike : Ok yX5_becomeLike mt_X5_becomeLike P_X5_becomeLike := by
  refine Ok.of (by decide) rfl rfl rfl rfl fun av ⟨S, I, L⟩ R hP => ?_
  unfold P_X5_becomeLike at hP
  split at hP
  case h_2 => exact hP.elim
  rename_i k o
  obtain ⟨k, rfl⟩ : ∃ q : Nat, q = k := ⟨k, rfl⟩
  obtain ⟨o, rfl⟩ : ∃ q : Nat, q = o := ⟨o, rfl⟩
  refine ⟨by simp [ent, wide, mt_X5_becomeLike], ?_⟩
  show J mt_X5_becomeLike R 0 [some (.ref k), some (.ref o)] [] (S, I, L)
  try dsimp only at hP
  obtain ⟨hk, ho, hd, hR⟩ := hP
  refine J.of tk_X5_becomeLike 200 fun ρ hρ => ?_
  simp only [hρ, x_c, x_il, x_ll, x_al, x_is, x_as, x_ls, x_inc, x_ii, x_iq, x_i1, x_l2, x_lq, x_lh, x_i2l, x_l2i, x_lcmp, x_dup, x_dup2, x_pop, x_if, x_ifn, x_ic, x_icn, x_go, x_sw, swc, x_l01, x_mx, x_gI, x_gL, x_gR, x_pI, x_pZ, x_pL, x_pR, x_ia, x_za, x_aa, x_ias, x_zas, x_aas, x_fac, x_fa, x_slen, x_sa, x_ac, x_oi, x_new, x_na, x_cS, x_cV, x_cI, x_rI, x_rZ, x_rL, x_r0, pa, short, oc, lg, lset, lset2, wide, cond_true, cond_false, true_and, and_true, ↓reduceIte, Bool.false_eq_true, true_or, or_true, lf_X5_becomeLike, hk.f, ho.f, nI9, nI6, nI54, Nat.le_refl, mS_app, kj, oj hd, mS_ss]
  exact hR
def ahead2 (r k : Nat) : Prop := r + 2 ≤ k
/-- READING: two places from r on -/
def IsRd (S : Sh) (r : Nat) : Prop := tO S r 3 ∧ sR S r 0 = r + 1 ∧ tA S (r + 1) 1 ∧ ln S (r + 1) = 6
theorem IsRd.f {S : Sh} {r : Nat} (h : IsRd S r) : tO S r 3 ∧ sR S r 0 = r + 1 ∧ tA S (r + 1) 1 ∧ ln S (r + 1) = 6 := h
theorem rj {k r : Nat} (h : r + 2 ≤ k) : ((r = k) = False) ∧ ((r = k + 1) = False) ∧ ((r = k + 2) = False) ∧ ((r = k + 3) = False) ∧ ((r = k + 4) = False) ∧ ((r + 1 = k) = False) ∧ ((r + 1 = k + 1) = False) ∧ ((r + 1 = k + 2) = False) ∧ ((r + 1 = k + 3) = False) ∧ ((r + 1 = k + 4) = False) := by
  refine ⟨?_, ?_, ?_, ?_, ?_, ?_, ?_, ?_, ?_, ?_⟩ <;> exact eq_false (by omega)
def il_X5_becomeCode : List (Nat × Instr × Nat) := [(0, .aload_n 0, 1), (1, .aload_n 1, 1), (2, .getfield 37, 3), (5, .putfield 24, 3), (8, .aload_n 0, 1), (9, .aload_n 1, 1), (10, .getfield 40, 3), (13, .putfield 28, 3), (16, .aload_n 0, 1), (17, .aload_n 1, 1), (18, .getfield 41, 3), (21, .putfield 31, 3), (24, .aload_n 1, 1), (25, .getfield 42, 3), (28, .iconst 0, 1), (29, .aload_n 0, 1), (30, .getfield 9, 3), (33, .iconst 0, 1), (34, .bipush 6, 2), (36, .invokestatic 43, 3), (39, .iconst 0, 1), (40, .istore_n 2, 1), (41, .iload_n 2, 1), (42, .bipush 9, 2), (44, .if_icmp .ge 16, 3), (47, .aload_n 0, 1), (48, .getfield 15, 3), (51, .iload_n 2, 1), (52, .iconst 0, 1), (53, .iastore, 1), (54, .iinc 2 1, 3), (57, .goto (-16), 3), (60, .aload_n 0, 1), (61, .invokevirtual 49, 3), (64, .return_, 1)]
def mt_X5_becomeCode : Mt := (cX5_becomeCode, RX5, 3, none, ({ frames := 2, cells := 0, slots := 0, locals := 39 } : Room), false, none, none)
set_option maxRecDepth 100000 in
theorem dl_X5_becomeCode : ∀ q ∈ il_X5_becomeCode, decode (mt_X5_becomeCode).1 q.1 = .ok q.2 := by decide +kernel
def tb_X5_becomeCode : Tb := [(0, x_al 1 0, false),
  (1, x_al 2 1, false),
  (2, x_gI 3 2 5, false),
  (5, x_pI 5 4 8, false),
  (8, x_al 9 0, false),
  (9, x_al 10 1, false),
  (10, x_gI 3 4 13, false),
  (13, x_pI 5 5 16, false),
  (16, x_al 17 0, false),
  (17, x_al 18 1, false),
  (18, x_gI 3 3 21, false),
  (21, x_pI 5 6 24, false),
  (24, x_al 25 1, false),
  (25, x_gR 3 0 28, false),
  (28, x_c 29 (.int 0), false),
  (29, x_al 30 0, false),
  (30, x_gR 5 0 33, false),
  (33, x_c 34 (.int 0), false),
  (34, x_c 36 (.int 6), false),
  (36, x_ac 39 6, false),
  (39, x_c 40 (.int 0), false),
  (40, x_is 41 2, false),
  (41, x_il 42 2, true),
  (42, x_c 44 (.int 9), false),
  (44, x_ic 60 47 (fun x y : Int32 => y ≤ x), false),
  (47, x_al 48 0, false),
  (48, x_gR 5 1 51, false),
  (51, x_il 52 2, false),
  (52, x_c 53 (.int 0), false),
  (53, x_ias 54, false),
  (54, x_inc 57 2 1, false),
  (57, x_go 41, false),
  (60, x_al 61 0, false),
  (61, x_cV 5 0 P_X5_beginAnew 64, false),
  (64, x_r0, false)]
set_option maxRecDepth 100000 in
theorem tk_X5_becomeCode : TbOk (mt_X5_becomeCode) (tb_X5_becomeCode) :=
  tkc (s_aload_n (at_ dl_X5_becomeCode 0 (ins := .aload_n 0) rfl)) (
  tkc (s_aload_n (at_ dl_X5_becomeCode 1 (ins := .aload_n 1) rfl)) (
  tkc (s_gI (at_ dl_X5_becomeCode 2 (ins := .getfield 37) rfl) (by decide) (by decide) (by decide) (tg 79 (by decide +kernel) (by decide +kernel))) (
  tkc (s_pI (at_ dl_X5_becomeCode 3 (ins := .putfield 24) rfl) (by decide) (by decide) (by decide) (by decide) (tg 134 (by decide +kernel) (by decide +kernel))) (
  tkc (s_aload_n (at_ dl_X5_becomeCode 4 (ins := .aload_n 0) rfl)) (
  tkc (s_aload_n (at_ dl_X5_becomeCode 5 (ins := .aload_n 1) rfl)) (
  tkc (s_gI (at_ dl_X5_becomeCode 6 (ins := .getfield 40) rfl) (by decide) (by decide) (by decide) (tg 83 (by decide +kernel) (by decide +kernel))) (
  tkc (s_pI (at_ dl_X5_becomeCode 7 (ins := .putfield 28) rfl) (by decide) (by decide) (by decide) (by decide) (tg 139 (by decide +kernel) (by decide +kernel))) (
  tkc (s_aload_n (at_ dl_X5_becomeCode 8 (ins := .aload_n 0) rfl)) (
  tkc (s_aload_n (at_ dl_X5_becomeCode 9 (ins := .aload_n 1) rfl)) (
  tkc (s_gI (at_ dl_X5_becomeCode 10 (ins := .getfield 41) rfl) (by decide) (by decide) (by decide) (tg 82 (by decide +kernel) (by decide +kernel))) (
  tkc (s_pI (at_ dl_X5_becomeCode 11 (ins := .putfield 31) rfl) (by decide) (by decide) (by decide) (by decide) (tg 144 (by decide +kernel) (by decide +kernel))) (
  tkc (s_aload_n (at_ dl_X5_becomeCode 12 (ins := .aload_n 1) rfl)) (
  tkc (s_gR (at_ dl_X5_becomeCode 13 (ins := .getfield 42) rfl) (by decide) (by decide) (by decide) (tg 77 (by decide +kernel) (by decide +kernel))) (
  tkc (s_iconst (at_ dl_X5_becomeCode 14 (ins := .iconst 0) rfl) (by first | rfl | decide)) (
  tkc (s_aload_n (at_ dl_X5_becomeCode 15 (ins := .aload_n 0) rfl)) (
  tkc (s_gR (at_ dl_X5_becomeCode 16 (ins := .getfield 9) rfl) (by decide) (by decide) (by decide) (tg 121 (by decide +kernel) (by decide +kernel))) (
  tkc (s_iconst (at_ dl_X5_becomeCode 17 (ins := .iconst 0) rfl) (by first | rfl | decide)) (
  tkc (s_bipush (at_ dl_X5_becomeCode 18 (ins := .bipush 6) rfl) (by first | rfl | decide)) (
  tkc (s_ac (at_ dl_X5_becomeCode 19 (ins := .invokestatic 43) rfl) (by decide) (tg 345 (by decide +kernel) (by decide +kernel)) (by decide) (by decide)) (
  tkc (s_iconst (at_ dl_X5_becomeCode 20 (ins := .iconst 0) rfl) (by first | rfl | decide)) (
  tkc (s_istore_n (at_ dl_X5_becomeCode 21 (ins := .istore_n 2) rfl) (by decide)) (
  tkc (s_iload_n (at_ dl_X5_becomeCode 22 (ins := .iload_n 2) rfl)) (
  tkc (s_bipush (at_ dl_X5_becomeCode 23 (ins := .bipush 9) rfl) (by first | rfl | decide)) (
  tkc (s_ic_ge (at_ dl_X5_becomeCode 24 (ins := .if_icmp .ge 16) rfl) (by decide)) (
  tkc (s_aload_n (at_ dl_X5_becomeCode 25 (ins := .aload_n 0) rfl)) (
  tkc (s_gR (at_ dl_X5_becomeCode 26 (ins := .getfield 15) rfl) (by decide) (by decide) (by decide) (tg 126 (by decide +kernel) (by decide +kernel))) (
  tkc (s_iload_n (at_ dl_X5_becomeCode 27 (ins := .iload_n 2) rfl)) (
  tkc (s_iconst (at_ dl_X5_becomeCode 28 (ins := .iconst 0) rfl) (by first | rfl | decide)) (
  tkc (s_ias (at_ dl_X5_becomeCode 29 (ins := .iastore) rfl)) (
  tkc (s_iinc (at_ dl_X5_becomeCode 30 (ins := .iinc 2 1) rfl) (by decide) (by first | rfl | decide)) (
  tkc (s_goto (at_ dl_X5_becomeCode 31 (ins := .goto (-16)) rfl) (by decide)) (
  tkc (s_aload_n (at_ dl_X5_becomeCode 32 (ins := .aload_n 0) rfl)) (
  tkc (s_cV ok_X5_beginAnew (at_ dl_X5_becomeCode 33 (ins := .invokevirtual 49) rfl) (by decide) rfl (tg 348 (by decide +kernel) (by decide +kernel)) (tg 349 (by decide +kernel) (by decide +kernel)) (tg 350 (by decide +kernel) (by decide +kernel)) (tg 45 (by decide +kernel) (by decide +kernel)) (tg 351 (by decide +kernel) (by decide +kernel)) (⟨by decide, by decide, by decide +kernel⟩) (⟨by decide, by decide⟩) rfl rfl) (
  tkc (s_r0 (at_ dl_X5_becomeCode 34 (ins := .return_) rfl) rfl) ( tk0)))))))))))))))))))))))))))))))))))
theorem lf_X5_becomeCode : lk (tb_X5_becomeCode) 0 = (x_al 1 0, false) ∧ lk (tb_X5_becomeCode) 1 = (x_al 2 1, false) ∧ lk (tb_X5_becomeCode) 2 = (x_gI 3 2 5, false) ∧ lk (tb_X5_becomeCode) 5 = (x_pI 5 4 8, false) ∧ lk (tb_X5_becomeCode) 8 = (x_al 9 0, false) ∧ lk (tb_X5_becomeCode) 9 = (x_al 10 1, false) ∧ lk (tb_X5_becomeCode) 10 = (x_gI 3 4 13, false) ∧ lk (tb_X5_becomeCode) 13 = (x_pI 5 5 16, false) ∧ lk (tb_X5_becomeCode) 16 = (x_al 17 0, false) ∧ lk (tb_X5_becomeCode) 17 = (x_al 18 1, false) ∧ lk (tb_X5_becomeCode) 18 = (x_gI 3 3 21, false) ∧ lk (tb_X5_becomeCode) 21 = (x_pI 5 6 24, false) ∧ lk (tb_X5_becomeCode) 24 = (x_al 25 1, false) ∧ lk (tb_X5_becomeCode) 25 = (x_gR 3 0 28, false) ∧ lk (tb_X5_becomeCode) 28 = (x_c 29 (.int 0), false) ∧ lk (tb_X5_becomeCode) 29 = (x_al 30 0, false) ∧ lk (tb_X5_becomeCode) 30 = (x_gR 5 0 33, false) ∧ lk (tb_X5_becomeCode) 33 = (x_c 34 (.int 0), false) ∧ lk (tb_X5_becomeCode) 34 = (x_c 36 (.int 6), false) ∧ lk (tb_X5_becomeCode) 36 = (x_ac 39 6, false) ∧ lk (tb_X5_becomeCode) 39 = (x_c 40 (.int 0), false) ∧ lk (tb_X5_becomeCode) 40 = (x_is 41 2, false) ∧ lk (tb_X5_becomeCode) 41 = (x_il 42 2, true) ∧ lk (tb_X5_becomeCode) 42 = (x_c 44 (.int 9), false) ∧ lk (tb_X5_becomeCode) 44 = (x_ic 60 47 (fun x y : Int32 => y ≤ x), false) ∧ lk (tb_X5_becomeCode) 47 = (x_al 48 0, false) ∧ lk (tb_X5_becomeCode) 48 = (x_gR 5 1 51, false) ∧ lk (tb_X5_becomeCode) 51 = (x_il 52 2, false) ∧ lk (tb_X5_becomeCode) 52 = (x_c 53 (.int 0), false) ∧ lk (tb_X5_becomeCode) 53 = (x_ias 54, false) ∧ lk (tb_X5_becomeCode) 54 = (x_inc 57 2 1, false) ∧ lk (tb_X5_becomeCode) 57 = (x_go 41, false) ∧ lk (tb_X5_becomeCode) 60 = (x_al 61 0, false) ∧ lk (tb_X5_becomeCode) 61 = (x_cV 5 0 P_X5_beginAnew 64, false) ∧ lk (tb_X5_becomeCode) 64 = (x_r0, false) := ⟨rfl, rfl, rfl, rfl, rfl, rfl, rfl, rfl, rfl, rfl, rfl, rfl, rfl, rfl, rfl, rfl, rfl, rfl, rfl, rfl, rfl, rfl, rfl, rfl, rfl, rfl, rfl, rfl, rfl, rfl, rfl, rfl, rfl, rfl, rfl⟩
def cd1 (I : MI) (k r : Nat) : MI := mS (mS I k (upd (upd (upd (I k) 4 (I r 2)) 5 (I r 4)) 6 (I r 3))) (k + 1) (cpy (I (r + 1)) (I (k + 1)) 6)
def cdI (I : MI) (k r : Nat) : MI := begI (mS (cd1 I k r) (k + 2) (zr (I (k + 2)) 9)) k
def P_X5_becomeCode : PTT := fun as M R => match as with
  | [.ref k, .ref r] => IsSt M.1 k ∧ IsRd M.1 r ∧ ahead2 r k ∧ R none (M.1, cdI M.2.1 k r, M.2.2)
  | _ => False
set_option maxRecDepth 20000 in
theorem ok_X5_becomeCode : Ok yX5_becomeCode mt_X5_becomeCode P_X5_becomeCode := by
  refine Ok.of (by decide) rfl rfl rfl rfl fun av ⟨S, I, L⟩ R hP => ?_
  unfold P_X5_becomeCode at hP
  split at hP
  case h_2 => exact hP.elim
  rename_i k r
  obtain ⟨k, rfl⟩ : ∃ q : Nat, q = k := ⟨k, rfl⟩
  obtain ⟨r, rfl⟩ : ∃ q : Nat, q = r := ⟨r, rfl⟩
  refine ⟨by simp [ent, wide, mt_X5_becomeCode], ?_⟩
  show J mt_X5_becomeCode R 0 [some (.ref k), some (.ref r), none] [] (S, I, L)
  try dsimp only at hP
  obtain ⟨hk, hr, hd, hR⟩ := hP
  refine J.of tk_X5_becomeCode 200 fun ρ hρ => ?_
  simp only [hρ, x_c, x_il, x_ll, x_al, x_is, x_as, x_ls, x_inc, x_ii, x_iq, x_i1, x_l2, x_lq, x_lh, x_i2l, x_l2i, x_lcmp, x_dup, x_dup2, x_pop, x_if, x_ifn, x_ic, x_icn, x_go, x_sw, swc, x_l01, x_mx, x_gI, x_gL, x_gR, x_pI, x_pZ, x_pL, x_pR, x_ia, x_za, x_aa, x_ias, x_zas, x_aas, x_fac, x_fa, x_slen, x_sa, x_ac, x_oi, x_new, x_na, x_cS, x_cV, x_cI, x_rI, x_rZ, x_rL, x_r0, pa, short, oc, lg, lset, lset2, wide, cond_true, cond_false, true_and, and_true, ↓reduceIte, Bool.false_eq_true, true_or, or_true, lf_X5_becomeCode, hk.f, hr.f, nI9, nI6, Nat.le_refl, mS_app, kj, rj hd, mS_ss]
  have key := up (P := fun i => J mt_X5_becomeCode R 41 [some (.ref k), some (.ref r), some (.int (nI i))] [] (S, mS (cd1 I k r) (k + 2) (zr (I (k + 2)) i), L)) (n := 9) (fun i hi ih => ?_) 0 (Nat.zero_le _)
  · rw [zr_0, mS_id' (I := cd1 I k r) (k := k + 2) (by simp only [cd1, mS_app, kj, if_false])] at key
    exact key
  refine J.of tk_X5_becomeCode 200 fun ρ hρ => ?_
  simp only [hρ, x_c, x_il, x_ll, x_al, x_is, x_as, x_ls, x_inc, x_ii, x_iq, x_i1, x_l2, x_lq, x_lh, x_i2l, x_l2i, x_lcmp, x_dup, x_dup2, x_pop, x_if, x_ifn, x_ic, x_icn, x_go, x_sw, swc, x_l01, x_mx, x_gI, x_gL, x_gR, x_pI, x_pZ, x_pL, x_pR, x_ia, x_za, x_aa, x_ias, x_zas, x_aas, x_fac, x_fa, x_slen, x_sa, x_ac, x_oi, x_new, x_na, x_cS, x_cV, x_cI, x_rI, x_rZ, x_rL, x_r0, pa, short, oc, lg, lset, lset2, wide, cond_true, cond_false, true_and, and_true, ↓reduceIte, Bool.false_eq_true, true_or, or_true, lf_X5_becomeCode, hk, hk.f, nI9, nI_leI (show 9 < 2 ^ 31 by omega) (show i < 2 ^ 31 by omega), ncl (show i < 2 ^ 31 by omega), nI_1, mS_s, mS_ss, zr_s, P_X5_beginAnew]
  refine ⟨fun h => ?_, fun h => ⟨vp_in_nI (by omega) (by omega), ih (by omega)⟩⟩
  have : i = 9 := by omega
  subst this
  exact hR
end
section
/-! READING, at 3 and 4 -/
theorem fg {a : Nat} (h : a < 256) : (nI a - 48).toInt = (a : Int) - 48 := by
  have := pk_sub_toInt (a := a) (b := 48) (by omega) (by omega)
  exact this
theorem fg_lt {a c : Nat} (h : a < 256) (hc : c < 1000) : nI a - 48 < nI c ↔ a < 48 + c := by
  rw [Int32.lt_iff_toInt_lt, fg h, nI_toInt (by omega)]; omega
theorem fg_gt {a c : Nat} (h : a < 256) (hc : c < 1000) : nI c < nI a - 48 ↔ 48 + c < a := by
  rw [Int32.lt_iff_toInt_lt, fg h, nI_toInt (by omega)]; omega
theorem fg_ge {a c : Nat} (h : a < 256) (hc : c < 1000) : nI c ≤ nI a - 48 ↔ 48 + c ≤ a := by
  rw [Int32.le_iff_toInt_le, fg h, nI_toInt (by omega)]; omega
theorem fg_sub {a : Nat} (h : 48 ≤ a) : nI a - 48 = nI (a - 48) := by
  rw [show (48 : Int32) = nI 48 by decide]; exact pk_sub h
def il_X3_startAnew : List (Nat × Instr × Nat) := [(0, .aload_n 0, 1), (1, .iconst 0, 1), (2, .putfield 15, 3), (5, .aload_n 0, 1), (6, .iconst 0, 1), (7, .putfield 19, 3), (10, .aload_n 0, 1), (11, .iconst 0, 1), (12, .putfield 22, 3), (15, .aload_n 0, 1), (16, .iconst 0, 1), (17, .putfield 25, 3), (20, .aload_n 0, 1), (21, .iconst 0, 1), (22, .putfield 28, 3), (25, .aload_n 0, 1), (26, .iconst 0, 1), (27, .putfield 31, 3), (30, .return_, 1)]
def mt_X3_startAnew : Mt := (cX3_startAnew, RX3, 1, none, ({ frames := 0, cells := 0, slots := 0, locals := 0 } : Room), false, none, none)
set_option maxRecDepth 100000 in
theorem dl_X3_startAnew : ∀ q ∈ il_X3_startAnew, decode (mt_X3_startAnew).1 q.1 = .ok q.2 := by decide +kernel
def tb_X3_startAnew : Tb := [(0, x_al 1 0, false),
  (1, x_c 2 (.int 0), false),
  (2, x_pI 3 1 5, false),
  (5, x_al 6 0, false),
  (6, x_c 7 (.int 0), false),
  (7, x_pI 3 2 10, false),
  (10, x_al 11 0, false),
  (11, x_c 12 (.int 0), false),
  (12, x_pI 3 3 15, false),
  (15, x_al 16 0, false),
  (16, x_c 17 (.int 0), false),
  (17, x_pI 3 4 20, false),
  (20, x_al 21 0, false),
  (21, x_c 22 (.int 0), false),
  (22, x_pI 3 5 25, false),
  (25, x_al 26 0, false),
  (26, x_c 27 (.int 0), false),
  (27, x_pZ 3 6 30, false),
  (30, x_r0, false)]
set_option maxRecDepth 100000 in
theorem tk_X3_startAnew : TbOk (mt_X3_startAnew) (tb_X3_startAnew) :=
  tkc (s_aload_n (at_ dl_X3_startAnew 0 (ins := .aload_n 0) rfl)) (
  tkc (s_iconst (at_ dl_X3_startAnew 1 (ins := .iconst 0) rfl) (by first | rfl | decide)) (
  tkc (s_pI (at_ dl_X3_startAnew 2 (ins := .putfield 15) rfl) (by decide) (by decide) (by decide) (by decide) (tg 78 (by decide +kernel) (by decide +kernel))) (
  tkc (s_aload_n (at_ dl_X3_startAnew 3 (ins := .aload_n 0) rfl)) (
  tkc (s_iconst (at_ dl_X3_startAnew 4 (ins := .iconst 0) rfl) (by first | rfl | decide)) (
  tkc (s_pI (at_ dl_X3_startAnew 5 (ins := .putfield 19) rfl) (by decide) (by decide) (by decide) (by decide) (tg 80 (by decide +kernel) (by decide +kernel))) (
  tkc (s_aload_n (at_ dl_X3_startAnew 6 (ins := .aload_n 0) rfl)) (
  tkc (s_iconst (at_ dl_X3_startAnew 7 (ins := .iconst 0) rfl) (by first | rfl | decide)) (
  tkc (s_pI (at_ dl_X3_startAnew 8 (ins := .putfield 22) rfl) (by decide) (by decide) (by decide) (by decide) (tg 81 (by decide +kernel) (by decide +kernel))) (
  tkc (s_aload_n (at_ dl_X3_startAnew 9 (ins := .aload_n 0) rfl)) (
  tkc (s_iconst (at_ dl_X3_startAnew 10 (ins := .iconst 0) rfl) (by first | rfl | decide)) (
  tkc (s_pI (at_ dl_X3_startAnew 11 (ins := .putfield 25) rfl) (by decide) (by decide) (by decide) (by decide) (tg 84 (by decide +kernel) (by decide +kernel))) (
  tkc (s_aload_n (at_ dl_X3_startAnew 12 (ins := .aload_n 0) rfl)) (
  tkc (s_iconst (at_ dl_X3_startAnew 13 (ins := .iconst 0) rfl) (by first | rfl | decide)) (
  tkc (s_pI (at_ dl_X3_startAnew 14 (ins := .putfield 28) rfl) (by decide) (by decide) (by decide) (by decide) (tg 85 (by decide +kernel) (by decide +kernel))) (
  tkc (s_aload_n (at_ dl_X3_startAnew 15 (ins := .aload_n 0) rfl)) (
  tkc (s_iconst (at_ dl_X3_startAnew 16 (ins := .iconst 0) rfl) (by first | rfl | decide)) (
  tkc (s_pZ (at_ dl_X3_startAnew 17 (ins := .putfield 31) rfl) (by decide) (by decide) (by decide) (by decide) (tg 86 (by decide +kernel) (by decide +kernel))) (
  tkc (s_r0 (at_ dl_X3_startAnew 18 (ins := .return_) rfl) rfl) ( tk0)))))))))))))))))))
theorem lf_X3_startAnew : lk (tb_X3_startAnew) 0 = (x_al 1 0, false) ∧ lk (tb_X3_startAnew) 1 = (x_c 2 (.int 0), false) ∧ lk (tb_X3_startAnew) 2 = (x_pI 3 1 5, false) ∧ lk (tb_X3_startAnew) 5 = (x_al 6 0, false) ∧ lk (tb_X3_startAnew) 6 = (x_c 7 (.int 0), false) ∧ lk (tb_X3_startAnew) 7 = (x_pI 3 2 10, false) ∧ lk (tb_X3_startAnew) 10 = (x_al 11 0, false) ∧ lk (tb_X3_startAnew) 11 = (x_c 12 (.int 0), false) ∧ lk (tb_X3_startAnew) 12 = (x_pI 3 3 15, false) ∧ lk (tb_X3_startAnew) 15 = (x_al 16 0, false) ∧ lk (tb_X3_startAnew) 16 = (x_c 17 (.int 0), false) ∧ lk (tb_X3_startAnew) 17 = (x_pI 3 4 20, false) ∧ lk (tb_X3_startAnew) 20 = (x_al 21 0, false) ∧ lk (tb_X3_startAnew) 21 = (x_c 22 (.int 0), false) ∧ lk (tb_X3_startAnew) 22 = (x_pI 3 5 25, false) ∧ lk (tb_X3_startAnew) 25 = (x_al 26 0, false) ∧ lk (tb_X3_startAnew) 26 = (x_c 27 (.int 0), false) ∧ lk (tb_X3_startAnew) 27 = (x_pZ 3 6 30, false) ∧ lk (tb_X3_startAnew) 30 = (x_r0, false) := ⟨rfl, rfl, rfl, rfl, rfl, rfl, rfl, rfl, rfl, rfl, rfl, rfl, rfl, rfl, rfl, rfl, rfl, rfl, rfl⟩
def P_X3_startAnew : PTT := fun as M R => match as with
  | [.ref k] => k = 3 ∧ IsRd M.1 3 ∧ R none (M.1, mS M.2.1 3 (upd (upd (upd (upd (upd (upd (M.2.1 3) 1 0) 2 0) 3 0) 4 0) 5 0) 6 0), M.2.2)
  | _ => False
set_option maxRecDepth 20000 in
theorem ok_X3_startAnew : Ok yX3_startAnew mt_X3_startAnew P_X3_startAnew := by
  refine Ok.of (by decide) rfl rfl rfl rfl fun av ⟨S, I, L⟩ R hP => ?_
  unfold P_X3_startAnew at hP
  split at hP
  case h_2 => exact hP.elim
  rename_i k
  obtain ⟨k, rfl⟩ : ∃ q : Nat, q = k := ⟨k, rfl⟩
  refine ⟨by simp [ent, wide, mt_X3_startAnew], ?_⟩
  show J mt_X3_startAnew R 0 [some (.ref k)] [] (S, I, L)
  try dsimp only at hP
  obtain ⟨rfl, hk, hR⟩ := hP
  refine J.of tk_X3_startAnew 200 fun ρ hρ => ?_
  simp only [hρ, x_c, x_il, x_ll, x_al, x_is, x_as, x_ls, x_inc, x_ii, x_iq, x_i1, x_l2, x_lq, x_lh, x_i2l, x_l2i, x_lcmp, x_dup, x_dup2, x_pop, x_if, x_ifn, x_ic, x_icn, x_go, x_sw, swc, x_l01, x_mx, x_gI, x_gL, x_gR, x_pI, x_pZ, x_pL, x_pR, x_ia, x_za, x_aa, x_ias, x_zas, x_aas, x_fac, x_fa, x_slen, x_sa, x_ac, x_oi, x_new, x_na, x_cS, x_cV, x_cI, x_rI, x_rZ, x_rL, x_r0, pa, short, oc, lg, lset, lset2, wide, cond_true, cond_false, true_and, and_true, ↓reduceIte, Bool.false_eq_true, true_or, or_true, lf_X3_startAnew, hk.f, mS_s, mS_ss]
  exact hR
def il_X3_mayEnd : List (Nat × Instr × Nat) := [(0, .aload_n 0, 1), (1, .getfield 15, 3), (4, .iconst 2, 1), (5, .if_icmp .le 14, 3), (8, .aload_n 0, 1), (9, .getfield 31, 3), (12, .ifCond .ne 7, 3), (15, .iconst 1, 1), (16, .goto 4, 3), (19, .iconst 0, 1), (20, .ireturn, 1)]
def mt_X3_mayEnd : Mt := (cX3_mayEnd, RX3, 1, (some .boolean), ({ frames := 0, cells := 0, slots := 0, locals := 0 } : Room), false, none, none)
set_option maxRecDepth 100000 in
theorem dl_X3_mayEnd : ∀ q ∈ il_X3_mayEnd, decode (mt_X3_mayEnd).1 q.1 = .ok q.2 := by decide +kernel
def tb_X3_mayEnd : Tb := [(0, x_al 1 0, false),
  (1, x_gI 3 1 4, false),
  (4, x_c 5 (.int 2), false),
  (5, x_ic 19 8 (fun x y : Int32 => x ≤ y), false),
  (8, x_al 9 0, false),
  (9, x_gI 3 6 12, false),
  (12, x_ifn 19 15 (fun x : Int32 => x = 0), false),
  (15, x_c 16 (.int 1), false),
  (16, x_go 20, false),
  (19, x_c 20 (.int 0), false),
  (20, x_rZ, false)]
set_option maxRecDepth 100000 in
theorem tk_X3_mayEnd : TbOk (mt_X3_mayEnd) (tb_X3_mayEnd) :=
  tkc (s_aload_n (at_ dl_X3_mayEnd 0 (ins := .aload_n 0) rfl)) (
  tkc (s_gI (at_ dl_X3_mayEnd 1 (ins := .getfield 15) rfl) (by decide) (by decide) (by decide) (tg 78 (by decide +kernel) (by decide +kernel))) (
  tkc (s_iconst (at_ dl_X3_mayEnd 2 (ins := .iconst 2) rfl) (by first | rfl | decide)) (
  tkc (s_ic_le (at_ dl_X3_mayEnd 3 (ins := .if_icmp .le 14) rfl) (by decide)) (
  tkc (s_aload_n (at_ dl_X3_mayEnd 4 (ins := .aload_n 0) rfl)) (
  tkc (s_gI (at_ dl_X3_mayEnd 5 (ins := .getfield 31) rfl) (by decide) (by decide) (by decide) (tg 86 (by decide +kernel) (by decide +kernel))) (
  tkc (s_if_ne (at_ dl_X3_mayEnd 6 (ins := .ifCond .ne 7) rfl) (by decide)) (
  tkc (s_iconst (at_ dl_X3_mayEnd 7 (ins := .iconst 1) rfl) (by first | rfl | decide)) (
  tkc (s_goto (at_ dl_X3_mayEnd 8 (ins := .goto 4) rfl) (by decide)) (
  tkc (s_iconst (at_ dl_X3_mayEnd 9 (ins := .iconst 0) rfl) (by first | rfl | decide)) (
  tkc (s_rZ (at_ dl_X3_mayEnd 10 (ins := .ireturn) rfl) rfl) ( tk0)))))))))))
theorem lf_X3_mayEnd : lk (tb_X3_mayEnd) 0 = (x_al 1 0, false) ∧ lk (tb_X3_mayEnd) 1 = (x_gI 3 1 4, false) ∧ lk (tb_X3_mayEnd) 4 = (x_c 5 (.int 2), false) ∧ lk (tb_X3_mayEnd) 5 = (x_ic 19 8 (fun x y : Int32 => x ≤ y), false) ∧ lk (tb_X3_mayEnd) 8 = (x_al 9 0, false) ∧ lk (tb_X3_mayEnd) 9 = (x_gI 3 6 12, false) ∧ lk (tb_X3_mayEnd) 12 = (x_ifn 19 15 (fun x : Int32 => x = 0), false) ∧ lk (tb_X3_mayEnd) 15 = (x_c 16 (.int 1), false) ∧ lk (tb_X3_mayEnd) 16 = (x_go 20, false) ∧ lk (tb_X3_mayEnd) 19 = (x_c 20 (.int 0), false) ∧ lk (tb_X3_mayEnd) 20 = (x_rZ, false) := ⟨rfl, rfl, rfl, rfl, rfl, rfl, rfl, rfl, rfl, rfl, rfl⟩
def P_X3_mayEnd : PTT := fun as M R => match as with
  | [.ref k] => k = 3 ∧ IsRd M.1 3 ∧ R (some (.int (bI (¬ M.2.1 3 1 ≤ 2 ∧ M.2.1 3 6 = 0)))) M
  | _ => False
set_option maxRecDepth 20000 in
theorem ok_X3_mayEnd : Ok yX3_mayEnd mt_X3_mayEnd P_X3_mayEnd := by
  refine Ok.of (by decide) rfl rfl rfl rfl fun av ⟨S, I, L⟩ R hP => ?_
  unfold P_X3_mayEnd at hP
  split at hP
  case h_2 => exact hP.elim
  rename_i k
  obtain ⟨k, rfl⟩ : ∃ q : Nat, q = k := ⟨k, rfl⟩
  refine ⟨by simp [ent, wide, mt_X3_mayEnd], ?_⟩
  show J mt_X3_mayEnd R 0 [some (.ref k)] [] (S, I, L)
  try dsimp only at hP
  obtain ⟨rfl, hk, hR⟩ := hP
  refine J.of tk_X3_mayEnd 200 fun ρ hρ => ?_
  simp only [hρ, x_c, x_il, x_ll, x_al, x_is, x_as, x_ls, x_inc, x_ii, x_iq, x_i1, x_l2, x_lq, x_lh, x_i2l, x_l2i, x_lcmp, x_dup, x_dup2, x_pop, x_if, x_ifn, x_ic, x_icn, x_go, x_sw, swc, x_l01, x_mx, x_gI, x_gL, x_gR, x_pI, x_pZ, x_pL, x_pR, x_ia, x_za, x_aa, x_ias, x_zas, x_aas, x_fac, x_fa, x_slen, x_sa, x_ac, x_oi, x_new, x_na, x_cS, x_cV, x_cI, x_rI, x_rZ, x_rL, x_r0, pa, short, oc, lg, lset, lset2, wide, cond_true, cond_false, true_and, and_true, ↓reduceIte, Bool.false_eq_true, true_or, or_true, lf_X3_mayEnd, hk.f]
  refine ⟨fun h => ?_, fun h => ⟨fun h2 => ?_, fun h2 => ?_⟩⟩
  · rwa [bI_f (fun q => q.1 h)] at hR
  · rwa [bI_f (fun q => h2 q.2)] at hR
  · rwa [bI_t ⟨h, h2⟩] at hR
def il_X3_takesBits : List (Nat × Instr × Nat) := [(0, .aload_n 0, 1), (1, .iload_n 1, 1), (2, .bipush 48, 2), (4, .isub, 1), (5, .putfield 19, 3), (8, .aload_n 0, 1), (9, .getfield 19, 3), (12, .iconst 2, 1), (13, .if_icmp .lt 16, 3), (16, .aload_n 0, 1), (17, .getfield 19, 3), (20, .bipush 9, 2), (22, .if_icmp .gt 7, 3), (25, .iconst 1, 1), (26, .goto 4, 3), (29, .iconst 0, 1), (30, .ireturn, 1)]
def mt_X3_takesBits : Mt := (cX3_takesBits, RX3, 2, (some .boolean), ({ frames := 0, cells := 0, slots := 0, locals := 0 } : Room), false, none, none)
set_option maxRecDepth 100000 in
theorem dl_X3_takesBits : ∀ q ∈ il_X3_takesBits, decode (mt_X3_takesBits).1 q.1 = .ok q.2 := by decide +kernel
def tb_X3_takesBits : Tb := [(0, x_al 1 0, false),
  (1, x_il 2 1, false),
  (2, x_c 4 (.int 48), false),
  (4, x_ii 5 (fun x y : Int32 => x - y), false),
  (5, x_pI 3 2 8, false),
  (8, x_al 9 0, false),
  (9, x_gI 3 2 12, false),
  (12, x_c 13 (.int 2), false),
  (13, x_ic 29 16 (fun x y : Int32 => x < y), false),
  (16, x_al 17 0, false),
  (17, x_gI 3 2 20, false),
  (20, x_c 22 (.int 9), false),
  (22, x_ic 29 25 (fun x y : Int32 => y < x), false),
  (25, x_c 26 (.int 1), false),
  (26, x_go 30, false),
  (29, x_c 30 (.int 0), false),
  (30, x_rZ, false)]
set_option maxRecDepth 100000 in
theorem tk_X3_takesBits : TbOk (mt_X3_takesBits) (tb_X3_takesBits) :=
  tkc (s_aload_n (at_ dl_X3_takesBits 0 (ins := .aload_n 0) rfl)) (
  tkc (s_iload_n (at_ dl_X3_takesBits 1 (ins := .iload_n 1) rfl)) (
  tkc (s_bipush (at_ dl_X3_takesBits 2 (ins := .bipush 48) rfl) (by first | rfl | decide)) (
  tkc (s_isub (at_ dl_X3_takesBits 3 (ins := .isub) rfl)) (
  tkc (s_pI (at_ dl_X3_takesBits 4 (ins := .putfield 19) rfl) (by decide) (by decide) (by decide) (by decide) (tg 80 (by decide +kernel) (by decide +kernel))) (
  tkc (s_aload_n (at_ dl_X3_takesBits 5 (ins := .aload_n 0) rfl)) (
  tkc (s_gI (at_ dl_X3_takesBits 6 (ins := .getfield 19) rfl) (by decide) (by decide) (by decide) (tg 80 (by decide +kernel) (by decide +kernel))) (
  tkc (s_iconst (at_ dl_X3_takesBits 7 (ins := .iconst 2) rfl) (by first | rfl | decide)) (
  tkc (s_ic_lt (at_ dl_X3_takesBits 8 (ins := .if_icmp .lt 16) rfl) (by decide)) (
  tkc (s_aload_n (at_ dl_X3_takesBits 9 (ins := .aload_n 0) rfl)) (
  tkc (s_gI (at_ dl_X3_takesBits 10 (ins := .getfield 19) rfl) (by decide) (by decide) (by decide) (tg 80 (by decide +kernel) (by decide +kernel))) (
  tkc (s_bipush (at_ dl_X3_takesBits 11 (ins := .bipush 9) rfl) (by first | rfl | decide)) (
  tkc (s_ic_gt (at_ dl_X3_takesBits 12 (ins := .if_icmp .gt 7) rfl) (by decide)) (
  tkc (s_iconst (at_ dl_X3_takesBits 13 (ins := .iconst 1) rfl) (by first | rfl | decide)) (
  tkc (s_goto (at_ dl_X3_takesBits 14 (ins := .goto 4) rfl) (by decide)) (
  tkc (s_iconst (at_ dl_X3_takesBits 15 (ins := .iconst 0) rfl) (by first | rfl | decide)) (
  tkc (s_rZ (at_ dl_X3_takesBits 16 (ins := .ireturn) rfl) rfl) ( tk0)))))))))))))))))
theorem lf_X3_takesBits : lk (tb_X3_takesBits) 0 = (x_al 1 0, false) ∧ lk (tb_X3_takesBits) 1 = (x_il 2 1, false) ∧ lk (tb_X3_takesBits) 2 = (x_c 4 (.int 48), false) ∧ lk (tb_X3_takesBits) 4 = (x_ii 5 (fun x y : Int32 => x - y), false) ∧ lk (tb_X3_takesBits) 5 = (x_pI 3 2 8, false) ∧ lk (tb_X3_takesBits) 8 = (x_al 9 0, false) ∧ lk (tb_X3_takesBits) 9 = (x_gI 3 2 12, false) ∧ lk (tb_X3_takesBits) 12 = (x_c 13 (.int 2), false) ∧ lk (tb_X3_takesBits) 13 = (x_ic 29 16 (fun x y : Int32 => x < y), false) ∧ lk (tb_X3_takesBits) 16 = (x_al 17 0, false) ∧ lk (tb_X3_takesBits) 17 = (x_gI 3 2 20, false) ∧ lk (tb_X3_takesBits) 20 = (x_c 22 (.int 9), false) ∧ lk (tb_X3_takesBits) 22 = (x_ic 29 25 (fun x y : Int32 => y < x), false) ∧ lk (tb_X3_takesBits) 25 = (x_c 26 (.int 1), false) ∧ lk (tb_X3_takesBits) 26 = (x_go 30, false) ∧ lk (tb_X3_takesBits) 29 = (x_c 30 (.int 0), false) ∧ lk (tb_X3_takesBits) 30 = (x_rZ, false) := ⟨rfl, rfl, rfl, rfl, rfl, rfl, rfl, rfl, rfl, rfl, rfl, rfl, rfl, rfl, rfl, rfl, rfl⟩
def P_X3_takesBits : PTT := fun as M R => match as with
  | [.ref k, .int x] => k = 3 ∧ IsRd M.1 3 ∧ R (some (.int (bI (¬ x - 48 < 2 ∧ ¬ 9 < x - 48)))) (M.1, mS M.2.1 3 (upd (M.2.1 3) 2 (x - 48)), M.2.2)
  | _ => False
theorem upd_s {f : Nat → Int32} {k : Nat} {x : Int32} : upd f k x k = x := pk_us
set_option maxRecDepth 20000 in
theorem ok_X3_takesBits : Ok yX3_takesBits mt_X3_takesBits P_X3_takesBits := by
  refine Ok.of (by decide) rfl rfl rfl rfl fun av ⟨S, I, L⟩ R hP => ?_
  unfold P_X3_takesBits at hP
  split at hP
  case h_2 => exact hP.elim
  rename_i k x
  obtain ⟨k, rfl⟩ : ∃ q : Nat, q = k := ⟨k, rfl⟩
  refine ⟨by simp [ent, wide, mt_X3_takesBits], ?_⟩
  show J mt_X3_takesBits R 0 [some (.ref k), some (.int x)] [] (S, I, L)
  try dsimp only at hP
  obtain ⟨rfl, hk, hR⟩ := hP
  refine J.of tk_X3_takesBits 200 fun ρ hρ => ?_
  simp only [hρ, x_c, x_il, x_ll, x_al, x_is, x_as, x_ls, x_inc, x_ii, x_iq, x_i1, x_l2, x_lq, x_lh, x_i2l, x_l2i, x_lcmp, x_dup, x_dup2, x_pop, x_if, x_ifn, x_ic, x_icn, x_go, x_sw, swc, x_l01, x_mx, x_gI, x_gL, x_gR, x_pI, x_pZ, x_pL, x_pR, x_ia, x_za, x_aa, x_ias, x_zas, x_aas, x_fac, x_fa, x_slen, x_sa, x_ac, x_oi, x_new, x_na, x_cS, x_cV, x_cI, x_rI, x_rZ, x_rL, x_r0, pa, short, oc, lg, lset, lset2, wide, cond_true, cond_false, true_and, and_true, ↓reduceIte, Bool.false_eq_true, true_or, or_true, lf_X3_takesBits, hk.f, mS_s, upd_s]
  refine ⟨fun h => ?_, fun h => ⟨fun h2 => ?_, fun h2 => ?_⟩⟩
  · rwa [bI_f (fun q => q.1 h)] at hR
  · rwa [bI_f (fun q => q.2 h2)] at hR
  · rwa [bI_t ⟨h, h2⟩] at hR
def il_X3_takesOffset : List (Nat × Instr × Nat) := [(0, .aload_n 0, 1), (1, .iload_n 1, 1), (2, .bipush 48, 2), (4, .isub, 1), (5, .putfield 22, 3), (8, .aload_n 0, 1), (9, .getfield 22, 3), (12, .ifCond .lt 16, 3), (15, .aload_n 0, 1), (16, .getfield 22, 3), (19, .bipush 9, 2), (21, .if_icmp .gt 7, 3), (24, .iconst 1, 1), (25, .goto 4, 3), (28, .iconst 0, 1), (29, .ireturn, 1)]
def mt_X3_takesOffset : Mt := (cX3_takesOffset, RX3, 2, (some .boolean), ({ frames := 0, cells := 0, slots := 0, locals := 0 } : Room), false, none, none)
set_option maxRecDepth 100000 in
theorem dl_X3_takesOffset : ∀ q ∈ il_X3_takesOffset, decode (mt_X3_takesOffset).1 q.1 = .ok q.2 := by decide +kernel
def tb_X3_takesOffset : Tb := [(0, x_al 1 0, false),
  (1, x_il 2 1, false),
  (2, x_c 4 (.int 48), false),
  (4, x_ii 5 (fun x y : Int32 => x - y), false),
  (5, x_pI 3 3 8, false),
  (8, x_al 9 0, false),
  (9, x_gI 3 3 12, false),
  (12, x_if 28 15 (fun x : Int32 => x < 0), false),
  (15, x_al 16 0, false),
  (16, x_gI 3 3 19, false),
  (19, x_c 21 (.int 9), false),
  (21, x_ic 28 24 (fun x y : Int32 => y < x), false),
  (24, x_c 25 (.int 1), false),
  (25, x_go 29, false),
  (28, x_c 29 (.int 0), false),
  (29, x_rZ, false)]
set_option maxRecDepth 100000 in
theorem tk_X3_takesOffset : TbOk (mt_X3_takesOffset) (tb_X3_takesOffset) :=
  tkc (s_aload_n (at_ dl_X3_takesOffset 0 (ins := .aload_n 0) rfl)) (
  tkc (s_iload_n (at_ dl_X3_takesOffset 1 (ins := .iload_n 1) rfl)) (
  tkc (s_bipush (at_ dl_X3_takesOffset 2 (ins := .bipush 48) rfl) (by first | rfl | decide)) (
  tkc (s_isub (at_ dl_X3_takesOffset 3 (ins := .isub) rfl)) (
  tkc (s_pI (at_ dl_X3_takesOffset 4 (ins := .putfield 22) rfl) (by decide) (by decide) (by decide) (by decide) (tg 81 (by decide +kernel) (by decide +kernel))) (
  tkc (s_aload_n (at_ dl_X3_takesOffset 5 (ins := .aload_n 0) rfl)) (
  tkc (s_gI (at_ dl_X3_takesOffset 6 (ins := .getfield 22) rfl) (by decide) (by decide) (by decide) (tg 81 (by decide +kernel) (by decide +kernel))) (
  tkc (s_if_lt (at_ dl_X3_takesOffset 7 (ins := .ifCond .lt 16) rfl) (by decide)) (
  tkc (s_aload_n (at_ dl_X3_takesOffset 8 (ins := .aload_n 0) rfl)) (
  tkc (s_gI (at_ dl_X3_takesOffset 9 (ins := .getfield 22) rfl) (by decide) (by decide) (by decide) (tg 81 (by decide +kernel) (by decide +kernel))) (
  tkc (s_bipush (at_ dl_X3_takesOffset 10 (ins := .bipush 9) rfl) (by first | rfl | decide)) (
  tkc (s_ic_gt (at_ dl_X3_takesOffset 11 (ins := .if_icmp .gt 7) rfl) (by decide)) (
  tkc (s_iconst (at_ dl_X3_takesOffset 12 (ins := .iconst 1) rfl) (by first | rfl | decide)) (
  tkc (s_goto (at_ dl_X3_takesOffset 13 (ins := .goto 4) rfl) (by decide)) (
  tkc (s_iconst (at_ dl_X3_takesOffset 14 (ins := .iconst 0) rfl) (by first | rfl | decide)) (
  tkc (s_rZ (at_ dl_X3_takesOffset 15 (ins := .ireturn) rfl) rfl) ( tk0))))))))))))))))
theorem lf_X3_takesOffset : lk (tb_X3_takesOffset) 0 = (x_al 1 0, false) ∧ lk (tb_X3_takesOffset) 1 = (x_il 2 1, false) ∧ lk (tb_X3_takesOffset) 2 = (x_c 4 (.int 48), false) ∧ lk (tb_X3_takesOffset) 4 = (x_ii 5 (fun x y : Int32 => x - y), false) ∧ lk (tb_X3_takesOffset) 5 = (x_pI 3 3 8, false) ∧ lk (tb_X3_takesOffset) 8 = (x_al 9 0, false) ∧ lk (tb_X3_takesOffset) 9 = (x_gI 3 3 12, false) ∧ lk (tb_X3_takesOffset) 12 = (x_if 28 15 (fun x : Int32 => x < 0), false) ∧ lk (tb_X3_takesOffset) 15 = (x_al 16 0, false) ∧ lk (tb_X3_takesOffset) 16 = (x_gI 3 3 19, false) ∧ lk (tb_X3_takesOffset) 19 = (x_c 21 (.int 9), false) ∧ lk (tb_X3_takesOffset) 21 = (x_ic 28 24 (fun x y : Int32 => y < x), false) ∧ lk (tb_X3_takesOffset) 24 = (x_c 25 (.int 1), false) ∧ lk (tb_X3_takesOffset) 25 = (x_go 29, false) ∧ lk (tb_X3_takesOffset) 28 = (x_c 29 (.int 0), false) ∧ lk (tb_X3_takesOffset) 29 = (x_rZ, false) := ⟨rfl, rfl, rfl, rfl, rfl, rfl, rfl, rfl, rfl, rfl, rfl, rfl, rfl, rfl, rfl, rfl⟩
def P_X3_takesOffset : PTT := fun as M R => match as with
  | [.ref k, .int x] => k = 3 ∧ IsRd M.1 3 ∧ R (some (.int (bI (¬ x - 48 < 0 ∧ ¬ 9 < x - 48)))) (M.1, mS M.2.1 3 (upd (M.2.1 3) 3 (x - 48)), M.2.2)
  | _ => False
set_option maxRecDepth 20000 in
theorem ok_X3_takesOffset : Ok yX3_takesOffset mt_X3_takesOffset P_X3_takesOffset := by
  refine Ok.of (by decide) rfl rfl rfl rfl fun av ⟨S, I, L⟩ R hP => ?_
  unfold P_X3_takesOffset at hP
  split at hP
  case h_2 => exact hP.elim
  rename_i k x
  obtain ⟨k, rfl⟩ : ∃ q : Nat, q = k := ⟨k, rfl⟩
  refine ⟨by simp [ent, wide, mt_X3_takesOffset], ?_⟩
  show J mt_X3_takesOffset R 0 [some (.ref k), some (.int x)] [] (S, I, L)
  try dsimp only at hP
  obtain ⟨rfl, hk, hR⟩ := hP
  refine J.of tk_X3_takesOffset 200 fun ρ hρ => ?_
  simp only [hρ, x_c, x_il, x_ll, x_al, x_is, x_as, x_ls, x_inc, x_ii, x_iq, x_i1, x_l2, x_lq, x_lh, x_i2l, x_l2i, x_lcmp, x_dup, x_dup2, x_pop, x_if, x_ifn, x_ic, x_icn, x_go, x_sw, swc, x_l01, x_mx, x_gI, x_gL, x_gR, x_pI, x_pZ, x_pL, x_pR, x_ia, x_za, x_aa, x_ias, x_zas, x_aas, x_fac, x_fa, x_slen, x_sa, x_ac, x_oi, x_new, x_na, x_cS, x_cV, x_cI, x_rI, x_rZ, x_rL, x_r0, pa, short, oc, lg, lset, lset2, wide, cond_true, cond_false, true_and, and_true, ↓reduceIte, Bool.false_eq_true, true_or, or_true, lf_X3_takesOffset, hk.f, mS_s, upd_s]
  refine ⟨fun h => ?_, fun h => ⟨fun h2 => ?_, fun h2 => ?_⟩⟩
  · rwa [bI_f (fun q => q.1 h)] at hR
  · rwa [bI_f (fun q => q.2 h2)] at hR
  · rwa [bI_t ⟨h, h2⟩] at hR
def il_X3_takesCheck : List (Nat × Instr × Nat) := [(0, .iload_n 1, 1), (1, .bipush 99, 2), (3, .if_icmp .ne 12, 3), (6, .aload_n 0, 1), (7, .getfield 25, 3), (10, .bipush 6, 2), (12, .if_icmp .lt 5, 3), (15, .iconst 0, 1), (16, .ireturn, 1), (17, .aload_n 0, 1), (18, .getfield 9, 3), (21, .aload_n 0, 1), (22, .getfield 25, 3), (25, .iconst 0, 1), (26, .iastore, 1), (27, .aload_n 0, 1), (28, .dup, 1), (29, .getfield 25, 3), (32, .iconst 1, 1), (33, .iadd, 1), (34, .putfield 25, 3), (37, .aload_n 0, 1), (38, .iconst 0, 1), (39, .putfield 28, 3), (42, .aload_n 0, 1), (43, .iconst 1, 1), (44, .putfield 31, 3), (47, .iconst 1, 1), (48, .ireturn, 1)]
def mt_X3_takesCheck : Mt := (cX3_takesCheck, RX3, 2, (some .boolean), ({ frames := 0, cells := 0, slots := 0, locals := 0 } : Room), false, none, none)
set_option maxRecDepth 100000 in
theorem dl_X3_takesCheck : ∀ q ∈ il_X3_takesCheck, decode (mt_X3_takesCheck).1 q.1 = .ok q.2 := by decide +kernel
def tb_X3_takesCheck : Tb := [(0, x_il 1 1, false),
  (1, x_c 3 (.int 99), false),
  (3, x_icn 15 6 (fun x y : Int32 => x = y), false),
  (6, x_al 7 0, false),
  (7, x_gI 3 4 10, false),
  (10, x_c 12 (.int 6), false),
  (12, x_ic 17 15 (fun x y : Int32 => x < y), false),
  (15, x_c 16 (.int 0), false),
  (16, x_rZ, false),
  (17, x_al 18 0, false),
  (18, x_gR 3 0 21, false),
  (21, x_al 22 0, false),
  (22, x_gI 3 4 25, false),
  (25, x_c 26 (.int 0), false),
  (26, x_ias 27, false),
  (27, x_al 28 0, false),
  (28, x_dup 29, false),
  (29, x_gI 3 4 32, false),
  (32, x_c 33 (.int 1), false),
  (33, x_ii 34 (fun x y : Int32 => x + y), false),
  (34, x_pI 3 4 37, false),
  (37, x_al 38 0, false),
  (38, x_c 39 (.int 0), false),
  (39, x_pI 3 5 42, false),
  (42, x_al 43 0, false),
  (43, x_c 44 (.int 1), false),
  (44, x_pZ 3 6 47, false),
  (47, x_c 48 (.int 1), false),
  (48, x_rZ, false)]
set_option maxRecDepth 100000 in
theorem tk_X3_takesCheck : TbOk (mt_X3_takesCheck) (tb_X3_takesCheck) :=
  tkc (s_iload_n (at_ dl_X3_takesCheck 0 (ins := .iload_n 1) rfl)) (
  tkc (s_bipush (at_ dl_X3_takesCheck 1 (ins := .bipush 99) rfl) (by first | rfl | decide)) (
  tkc (s_ic_ne (at_ dl_X3_takesCheck 2 (ins := .if_icmp .ne 12) rfl) (by decide)) (
  tkc (s_aload_n (at_ dl_X3_takesCheck 3 (ins := .aload_n 0) rfl)) (
  tkc (s_gI (at_ dl_X3_takesCheck 4 (ins := .getfield 25) rfl) (by decide) (by decide) (by decide) (tg 84 (by decide +kernel) (by decide +kernel))) (
  tkc (s_bipush (at_ dl_X3_takesCheck 5 (ins := .bipush 6) rfl) (by first | rfl | decide)) (
  tkc (s_ic_lt (at_ dl_X3_takesCheck 6 (ins := .if_icmp .lt 5) rfl) (by decide)) (
  tkc (s_iconst (at_ dl_X3_takesCheck 7 (ins := .iconst 0) rfl) (by first | rfl | decide)) (
  tkc (s_rZ (at_ dl_X3_takesCheck 8 (ins := .ireturn) rfl) rfl) (
  tkc (s_aload_n (at_ dl_X3_takesCheck 9 (ins := .aload_n 0) rfl)) (
  tkc (s_gR (at_ dl_X3_takesCheck 10 (ins := .getfield 9) rfl) (by decide) (by decide) (by decide) (tg 76 (by decide +kernel) (by decide +kernel))) (
  tkc (s_aload_n (at_ dl_X3_takesCheck 11 (ins := .aload_n 0) rfl)) (
  tkc (s_gI (at_ dl_X3_takesCheck 12 (ins := .getfield 25) rfl) (by decide) (by decide) (by decide) (tg 84 (by decide +kernel) (by decide +kernel))) (
  tkc (s_iconst (at_ dl_X3_takesCheck 13 (ins := .iconst 0) rfl) (by first | rfl | decide)) (
  tkc (s_ias (at_ dl_X3_takesCheck 14 (ins := .iastore) rfl)) (
  tkc (s_aload_n (at_ dl_X3_takesCheck 15 (ins := .aload_n 0) rfl)) (
  tkc (s_dup (at_ dl_X3_takesCheck 16 (ins := .dup) rfl)) (
  tkc (s_gI (at_ dl_X3_takesCheck 17 (ins := .getfield 25) rfl) (by decide) (by decide) (by decide) (tg 84 (by decide +kernel) (by decide +kernel))) (
  tkc (s_iconst (at_ dl_X3_takesCheck 18 (ins := .iconst 1) rfl) (by first | rfl | decide)) (
  tkc (s_iadd (at_ dl_X3_takesCheck 19 (ins := .iadd) rfl)) (
  tkc (s_pI (at_ dl_X3_takesCheck 20 (ins := .putfield 25) rfl) (by decide) (by decide) (by decide) (by decide) (tg 84 (by decide +kernel) (by decide +kernel))) (
  tkc (s_aload_n (at_ dl_X3_takesCheck 21 (ins := .aload_n 0) rfl)) (
  tkc (s_iconst (at_ dl_X3_takesCheck 22 (ins := .iconst 0) rfl) (by first | rfl | decide)) (
  tkc (s_pI (at_ dl_X3_takesCheck 23 (ins := .putfield 28) rfl) (by decide) (by decide) (by decide) (by decide) (tg 85 (by decide +kernel) (by decide +kernel))) (
  tkc (s_aload_n (at_ dl_X3_takesCheck 24 (ins := .aload_n 0) rfl)) (
  tkc (s_iconst (at_ dl_X3_takesCheck 25 (ins := .iconst 1) rfl) (by first | rfl | decide)) (
  tkc (s_pZ (at_ dl_X3_takesCheck 26 (ins := .putfield 31) rfl) (by decide) (by decide) (by decide) (by decide) (tg 86 (by decide +kernel) (by decide +kernel))) (
  tkc (s_iconst (at_ dl_X3_takesCheck 27 (ins := .iconst 1) rfl) (by first | rfl | decide)) (
  tkc (s_rZ (at_ dl_X3_takesCheck 28 (ins := .ireturn) rfl) rfl) ( tk0)))))))))))))))))))))))))))))
theorem lf_X3_takesCheck : lk (tb_X3_takesCheck) 0 = (x_il 1 1, false) ∧ lk (tb_X3_takesCheck) 1 = (x_c 3 (.int 99), false) ∧ lk (tb_X3_takesCheck) 3 = (x_icn 15 6 (fun x y : Int32 => x = y), false) ∧ lk (tb_X3_takesCheck) 6 = (x_al 7 0, false) ∧ lk (tb_X3_takesCheck) 7 = (x_gI 3 4 10, false) ∧ lk (tb_X3_takesCheck) 10 = (x_c 12 (.int 6), false) ∧ lk (tb_X3_takesCheck) 12 = (x_ic 17 15 (fun x y : Int32 => x < y), false) ∧ lk (tb_X3_takesCheck) 15 = (x_c 16 (.int 0), false) ∧ lk (tb_X3_takesCheck) 16 = (x_rZ, false) ∧ lk (tb_X3_takesCheck) 17 = (x_al 18 0, false) ∧ lk (tb_X3_takesCheck) 18 = (x_gR 3 0 21, false) ∧ lk (tb_X3_takesCheck) 21 = (x_al 22 0, false) ∧ lk (tb_X3_takesCheck) 22 = (x_gI 3 4 25, false) ∧ lk (tb_X3_takesCheck) 25 = (x_c 26 (.int 0), false) ∧ lk (tb_X3_takesCheck) 26 = (x_ias 27, false) ∧ lk (tb_X3_takesCheck) 27 = (x_al 28 0, false) ∧ lk (tb_X3_takesCheck) 28 = (x_dup 29, false) ∧ lk (tb_X3_takesCheck) 29 = (x_gI 3 4 32, false) ∧ lk (tb_X3_takesCheck) 32 = (x_c 33 (.int 1), false) ∧ lk (tb_X3_takesCheck) 33 = (x_ii 34 (fun x y : Int32 => x + y), false) ∧ lk (tb_X3_takesCheck) 34 = (x_pI 3 4 37, false) ∧ lk (tb_X3_takesCheck) 37 = (x_al 38 0, false) ∧ lk (tb_X3_takesCheck) 38 = (x_c 39 (.int 0), false) ∧ lk (tb_X3_takesCheck) 39 = (x_pI 3 5 42, false) ∧ lk (tb_X3_takesCheck) 42 = (x_al 43 0, false) ∧ lk (tb_X3_takesCheck) 43 = (x_c 44 (.int 1), false) ∧ lk (tb_X3_takesCheck) 44 = (x_pZ 3 6 47, false) ∧ lk (tb_X3_takesCheck) 47 = (x_c 48 (.int 1), false) ∧ lk (tb_X3_takesCheck) 48 = (x_rZ, false) := ⟨rfl, rfl, rfl, rfl, rfl, rfl, rfl, rfl, rfl, rfl, rfl, rfl, rfl, rfl, rfl, rfl, rfl, rfl, rfl, rfl, rfl, rfl, rfl, rfl, rfl, rfl, rfl, rfl, rfl⟩
def P_X3_takesCheck : PTT := fun as M R => match as with
  | [.ref k, .int x] => k = 3 ∧ IsRd M.1 3 ∧ ((x = 99 ∧ M.2.1 3 4 < 6) → vp_in (M.2.1 3 4) 6 ∧ R (some (.int 1)) (M.1, mS (mS M.2.1 4 (upd (M.2.1 4) (M.2.1 3 4).toNatClampNeg 0)) 3 (upd (upd (upd (M.2.1 3) 4 (M.2.1 3 4 + 1)) 5 0) 6 1), M.2.2)) ∧ (¬ (x = 99 ∧ M.2.1 3 4 < 6) → R (some (.int 0)) M)
  | _ => False
theorem mS_34 {I : MI} {r : Nat → Int32} : mS I 4 r 3 = I 3 := rfl
set_option maxRecDepth 20000 in
theorem ok_X3_takesCheck : Ok yX3_takesCheck mt_X3_takesCheck P_X3_takesCheck := by
  refine Ok.of (by decide) rfl rfl rfl rfl fun av ⟨S, I, L⟩ R hP => ?_
  unfold P_X3_takesCheck at hP
  split at hP
  case h_2 => exact hP.elim
  rename_i k x
  obtain ⟨k, rfl⟩ : ∃ q : Nat, q = k := ⟨k, rfl⟩
  refine ⟨by simp [ent, wide, mt_X3_takesCheck], ?_⟩
  show J mt_X3_takesCheck R 0 [some (.ref k), some (.int x)] [] (S, I, L)
  try dsimp only at hP
  obtain ⟨rfl, hk, h1, h2⟩ := hP
  refine J.of tk_X3_takesCheck 200 fun ρ hρ => ?_
  simp only [hρ, x_c, x_il, x_ll, x_al, x_is, x_as, x_ls, x_inc, x_ii, x_iq, x_i1, x_l2, x_lq, x_lh, x_i2l, x_l2i, x_lcmp, x_dup, x_dup2, x_pop, x_if, x_ifn, x_ic, x_icn, x_go, x_sw, swc, x_l01, x_mx, x_gI, x_gL, x_gR, x_pI, x_pZ, x_pL, x_pR, x_ia, x_za, x_aa, x_ias, x_zas, x_aas, x_fac, x_fa, x_slen, x_sa, x_ac, x_oi, x_new, x_na, x_cS, x_cV, x_cI, x_rI, x_rZ, x_rL, x_r0, pa, short, oc, lg, lset, lset2, wide, cond_true, cond_false, true_and, and_true, ↓reduceIte, Bool.false_eq_true, true_or, or_true, lf_X3_takesCheck, hk.f, mS_s, mS_34, mS_ss]
  refine ⟨fun h => h2 (fun q => h q.1), fun h => ⟨fun h3 => ?_, fun h3 => h2 (fun q => h3 q.2)⟩⟩
  exact h1 ⟨h, h3⟩
def il_X3_takesInCheck : List (Nat × Instr × Nat) := [(0, .iload_n 1, 1), (1, .bipush 46, 2), (3, .if_icmp .ne 10, 3), (6, .aload_n 0, 1), (7, .iconst 0, 1), (8, .putfield 31, 3), (11, .iconst 1, 1), (12, .ireturn, 1), (13, .iload_n 1, 1), (14, .bipush 48, 2), (16, .isub, 1), (17, .istore_n 2, 1), (18, .iload_n 2, 1), (19, .aload_n 0, 1), (20, .getfield 28, 3), (23, .if_icmp .lt 19, 3), (26, .iload_n 2, 1), (27, .aload_n 0, 1), (28, .getfield 19, 3), (31, .if_icmp .ge 11, 3), (34, .aload_n 0, 1), (35, .getfield 25, 3), (38, .iconst 1, 1), (39, .if_icmp .ge 5, 3), (42, .iconst 0, 1), (43, .ireturn, 1), (44, .aload_n 0, 1), (45, .getfield 9, 3), (48, .aload_n 0, 1), (49, .getfield 25, 3), (52, .iconst 1, 1), (53, .isub, 1), (54, .dup2, 1), (55, .iaload, 1), (56, .iconst 1, 1), (57, .iload_n 2, 1), (58, .ishl, 1), (59, .ior, 1), (60, .iastore, 1), (61, .aload_n 0, 1), (62, .iload_n 2, 1), (63, .iconst 1, 1), (64, .iadd, 1), (65, .putfield 28, 3), (68, .iconst 1, 1), (69, .ireturn, 1)]
def mt_X3_takesInCheck : Mt := (cX3_takesInCheck, RX3, 3, (some .boolean), ({ frames := 0, cells := 0, slots := 0, locals := 0 } : Room), false, none, none)
set_option maxRecDepth 100000 in
theorem dl_X3_takesInCheck : ∀ q ∈ il_X3_takesInCheck, decode (mt_X3_takesInCheck).1 q.1 = .ok q.2 := by decide +kernel
def tb_X3_takesInCheck : Tb := [(0, x_il 1 1, false),
  (1, x_c 3 (.int 46), false),
  (3, x_icn 13 6 (fun x y : Int32 => x = y), false),
  (6, x_al 7 0, false),
  (7, x_c 8 (.int 0), false),
  (8, x_pZ 3 6 11, false),
  (11, x_c 12 (.int 1), false),
  (12, x_rZ, false),
  (13, x_il 14 1, false),
  (14, x_c 16 (.int 48), false),
  (16, x_ii 17 (fun x y : Int32 => x - y), false),
  (17, x_is 18 2, false),
  (18, x_il 19 2, false),
  (19, x_al 20 0, false),
  (20, x_gI 3 5 23, false),
  (23, x_ic 42 26 (fun x y : Int32 => x < y), false),
  (26, x_il 27 2, false),
  (27, x_al 28 0, false),
  (28, x_gI 3 2 31, false),
  (31, x_ic 42 34 (fun x y : Int32 => y ≤ x), false),
  (34, x_al 35 0, false),
  (35, x_gI 3 4 38, false),
  (38, x_c 39 (.int 1), false),
  (39, x_ic 44 42 (fun x y : Int32 => y ≤ x), false),
  (42, x_c 43 (.int 0), false),
  (43, x_rZ, false),
  (44, x_al 45 0, false),
  (45, x_gR 3 0 48, false),
  (48, x_al 49 0, false),
  (49, x_gI 3 4 52, false),
  (52, x_c 53 (.int 1), false),
  (53, x_ii 54 (fun x y : Int32 => x - y), false),
  (54, x_dup2 55, false),
  (55, x_ia 56, false),
  (56, x_c 57 (.int 1), false),
  (57, x_il 58 2, false),
  (58, x_ii 59 (fun x y : Int32 => x <<< (y &&& 31)), false),
  (59, x_ii 60 (fun x y : Int32 => x ||| y), false),
  (60, x_ias 61, false),
  (61, x_al 62 0, false),
  (62, x_il 63 2, false),
  (63, x_c 64 (.int 1), false),
  (64, x_ii 65 (fun x y : Int32 => x + y), false),
  (65, x_pI 3 5 68, false),
  (68, x_c 69 (.int 1), false),
  (69, x_rZ, false)]
set_option maxRecDepth 100000 in
theorem tk_X3_takesInCheck : TbOk (mt_X3_takesInCheck) (tb_X3_takesInCheck) :=
  tkc (s_iload_n (at_ dl_X3_takesInCheck 0 (ins := .iload_n 1) rfl)) (
  tkc (s_bipush (at_ dl_X3_takesInCheck 1 (ins := .bipush 46) rfl) (by first | rfl | decide)) (
  tkc (s_ic_ne (at_ dl_X3_takesInCheck 2 (ins := .if_icmp .ne 10) rfl) (by decide)) (
  tkc (s_aload_n (at_ dl_X3_takesInCheck 3 (ins := .aload_n 0) rfl)) (
  tkc (s_iconst (at_ dl_X3_takesInCheck 4 (ins := .iconst 0) rfl) (by first | rfl | decide)) (
  tkc (s_pZ (at_ dl_X3_takesInCheck 5 (ins := .putfield 31) rfl) (by decide) (by decide) (by decide) (by decide) (tg 86 (by decide +kernel) (by decide +kernel))) (
  tkc (s_iconst (at_ dl_X3_takesInCheck 6 (ins := .iconst 1) rfl) (by first | rfl | decide)) (
  tkc (s_rZ (at_ dl_X3_takesInCheck 7 (ins := .ireturn) rfl) rfl) (
  tkc (s_iload_n (at_ dl_X3_takesInCheck 8 (ins := .iload_n 1) rfl)) (
  tkc (s_bipush (at_ dl_X3_takesInCheck 9 (ins := .bipush 48) rfl) (by first | rfl | decide)) (
  tkc (s_isub (at_ dl_X3_takesInCheck 10 (ins := .isub) rfl)) (
  tkc (s_istore_n (at_ dl_X3_takesInCheck 11 (ins := .istore_n 2) rfl) (by decide)) (
  tkc (s_iload_n (at_ dl_X3_takesInCheck 12 (ins := .iload_n 2) rfl)) (
  tkc (s_aload_n (at_ dl_X3_takesInCheck 13 (ins := .aload_n 0) rfl)) (
  tkc (s_gI (at_ dl_X3_takesInCheck 14 (ins := .getfield 28) rfl) (by decide) (by decide) (by decide) (tg 85 (by decide +kernel) (by decide +kernel))) (
  tkc (s_ic_lt (at_ dl_X3_takesInCheck 15 (ins := .if_icmp .lt 19) rfl) (by decide)) (
  tkc (s_iload_n (at_ dl_X3_takesInCheck 16 (ins := .iload_n 2) rfl)) (
  tkc (s_aload_n (at_ dl_X3_takesInCheck 17 (ins := .aload_n 0) rfl)) (
  tkc (s_gI (at_ dl_X3_takesInCheck 18 (ins := .getfield 19) rfl) (by decide) (by decide) (by decide) (tg 80 (by decide +kernel) (by decide +kernel))) (
  tkc (s_ic_ge (at_ dl_X3_takesInCheck 19 (ins := .if_icmp .ge 11) rfl) (by decide)) (
  tkc (s_aload_n (at_ dl_X3_takesInCheck 20 (ins := .aload_n 0) rfl)) (
  tkc (s_gI (at_ dl_X3_takesInCheck 21 (ins := .getfield 25) rfl) (by decide) (by decide) (by decide) (tg 84 (by decide +kernel) (by decide +kernel))) (
  tkc (s_iconst (at_ dl_X3_takesInCheck 22 (ins := .iconst 1) rfl) (by first | rfl | decide)) (
  tkc (s_ic_ge (at_ dl_X3_takesInCheck 23 (ins := .if_icmp .ge 5) rfl) (by decide)) (
  tkc (s_iconst (at_ dl_X3_takesInCheck 24 (ins := .iconst 0) rfl) (by first | rfl | decide)) (
  tkc (s_rZ (at_ dl_X3_takesInCheck 25 (ins := .ireturn) rfl) rfl) (
  tkc (s_aload_n (at_ dl_X3_takesInCheck 26 (ins := .aload_n 0) rfl)) (
  tkc (s_gR (at_ dl_X3_takesInCheck 27 (ins := .getfield 9) rfl) (by decide) (by decide) (by decide) (tg 76 (by decide +kernel) (by decide +kernel))) (
  tkc (s_aload_n (at_ dl_X3_takesInCheck 28 (ins := .aload_n 0) rfl)) (
  tkc (s_gI (at_ dl_X3_takesInCheck 29 (ins := .getfield 25) rfl) (by decide) (by decide) (by decide) (tg 84 (by decide +kernel) (by decide +kernel))) (
  tkc (s_iconst (at_ dl_X3_takesInCheck 30 (ins := .iconst 1) rfl) (by first | rfl | decide)) (
  tkc (s_isub (at_ dl_X3_takesInCheck 31 (ins := .isub) rfl)) (
  tkc (s_dup2 (at_ dl_X3_takesInCheck 32 (ins := .dup2) rfl)) (
  tkc (s_ia (at_ dl_X3_takesInCheck 33 (ins := .iaload) rfl)) (
  tkc (s_iconst (at_ dl_X3_takesInCheck 34 (ins := .iconst 1) rfl) (by first | rfl | decide)) (
  tkc (s_iload_n (at_ dl_X3_takesInCheck 35 (ins := .iload_n 2) rfl)) (
  tkc (s_ishl (at_ dl_X3_takesInCheck 36 (ins := .ishl) rfl)) (
  tkc (s_ior (at_ dl_X3_takesInCheck 37 (ins := .ior) rfl)) (
  tkc (s_ias (at_ dl_X3_takesInCheck 38 (ins := .iastore) rfl)) (
  tkc (s_aload_n (at_ dl_X3_takesInCheck 39 (ins := .aload_n 0) rfl)) (
  tkc (s_iload_n (at_ dl_X3_takesInCheck 40 (ins := .iload_n 2) rfl)) (
  tkc (s_iconst (at_ dl_X3_takesInCheck 41 (ins := .iconst 1) rfl) (by first | rfl | decide)) (
  tkc (s_iadd (at_ dl_X3_takesInCheck 42 (ins := .iadd) rfl)) (
  tkc (s_pI (at_ dl_X3_takesInCheck 43 (ins := .putfield 28) rfl) (by decide) (by decide) (by decide) (by decide) (tg 85 (by decide +kernel) (by decide +kernel))) (
  tkc (s_iconst (at_ dl_X3_takesInCheck 44 (ins := .iconst 1) rfl) (by first | rfl | decide)) (
  tkc (s_rZ (at_ dl_X3_takesInCheck 45 (ins := .ireturn) rfl) rfl) ( tk0))))))))))))))))))))))))))))))))))))))))))))))
theorem lf_X3_takesInCheck : lk (tb_X3_takesInCheck) 0 = (x_il 1 1, false) ∧ lk (tb_X3_takesInCheck) 1 = (x_c 3 (.int 46), false) ∧ lk (tb_X3_takesInCheck) 3 = (x_icn 13 6 (fun x y : Int32 => x = y), false) ∧ lk (tb_X3_takesInCheck) 6 = (x_al 7 0, false) ∧ lk (tb_X3_takesInCheck) 7 = (x_c 8 (.int 0), false) ∧ lk (tb_X3_takesInCheck) 8 = (x_pZ 3 6 11, false) ∧ lk (tb_X3_takesInCheck) 11 = (x_c 12 (.int 1), false) ∧ lk (tb_X3_takesInCheck) 12 = (x_rZ, false) ∧ lk (tb_X3_takesInCheck) 13 = (x_il 14 1, false) ∧ lk (tb_X3_takesInCheck) 14 = (x_c 16 (.int 48), false) ∧ lk (tb_X3_takesInCheck) 16 = (x_ii 17 (fun x y : Int32 => x - y), false) ∧ lk (tb_X3_takesInCheck) 17 = (x_is 18 2, false) ∧ lk (tb_X3_takesInCheck) 18 = (x_il 19 2, false) ∧ lk (tb_X3_takesInCheck) 19 = (x_al 20 0, false) ∧ lk (tb_X3_takesInCheck) 20 = (x_gI 3 5 23, false) ∧ lk (tb_X3_takesInCheck) 23 = (x_ic 42 26 (fun x y : Int32 => x < y), false) ∧ lk (tb_X3_takesInCheck) 26 = (x_il 27 2, false) ∧ lk (tb_X3_takesInCheck) 27 = (x_al 28 0, false) ∧ lk (tb_X3_takesInCheck) 28 = (x_gI 3 2 31, false) ∧ lk (tb_X3_takesInCheck) 31 = (x_ic 42 34 (fun x y : Int32 => y ≤ x), false) ∧ lk (tb_X3_takesInCheck) 34 = (x_al 35 0, false) ∧ lk (tb_X3_takesInCheck) 35 = (x_gI 3 4 38, false) ∧ lk (tb_X3_takesInCheck) 38 = (x_c 39 (.int 1), false) ∧ lk (tb_X3_takesInCheck) 39 = (x_ic 44 42 (fun x y : Int32 => y ≤ x), false) ∧ lk (tb_X3_takesInCheck) 42 = (x_c 43 (.int 0), false) ∧ lk (tb_X3_takesInCheck) 43 = (x_rZ, false) ∧ lk (tb_X3_takesInCheck) 44 = (x_al 45 0, false) ∧ lk (tb_X3_takesInCheck) 45 = (x_gR 3 0 48, false) ∧ lk (tb_X3_takesInCheck) 48 = (x_al 49 0, false) ∧ lk (tb_X3_takesInCheck) 49 = (x_gI 3 4 52, false) ∧ lk (tb_X3_takesInCheck) 52 = (x_c 53 (.int 1), false) ∧ lk (tb_X3_takesInCheck) 53 = (x_ii 54 (fun x y : Int32 => x - y), false) ∧ lk (tb_X3_takesInCheck) 54 = (x_dup2 55, false) ∧ lk (tb_X3_takesInCheck) 55 = (x_ia 56, false) ∧ lk (tb_X3_takesInCheck) 56 = (x_c 57 (.int 1), false) ∧ lk (tb_X3_takesInCheck) 57 = (x_il 58 2, false) ∧ lk (tb_X3_takesInCheck) 58 = (x_ii 59 (fun x y : Int32 => x <<< (y &&& 31)), false) ∧ lk (tb_X3_takesInCheck) 59 = (x_ii 60 (fun x y : Int32 => x ||| y), false) ∧ lk (tb_X3_takesInCheck) 60 = (x_ias 61, false) ∧ lk (tb_X3_takesInCheck) 61 = (x_al 62 0, false) ∧ lk (tb_X3_takesInCheck) 62 = (x_il 63 2, false) ∧ lk (tb_X3_takesInCheck) 63 = (x_c 64 (.int 1), false) ∧ lk (tb_X3_takesInCheck) 64 = (x_ii 65 (fun x y : Int32 => x + y), false) ∧ lk (tb_X3_takesInCheck) 65 = (x_pI 3 5 68, false) ∧ lk (tb_X3_takesInCheck) 68 = (x_c 69 (.int 1), false) ∧ lk (tb_X3_takesInCheck) 69 = (x_rZ, false) := ⟨rfl, rfl, rfl, rfl, rfl, rfl, rfl, rfl, rfl, rfl, rfl, rfl, rfl, rfl, rfl, rfl, rfl, rfl, rfl, rfl, rfl, rfl, rfl, rfl, rfl, rfl, rfl, rfl, rfl, rfl, rfl, rfl, rfl, rfl, rfl, rfl, rfl, rfl, rfl, rfl, rfl, rfl, rfl, rfl, rfl, rfl⟩
def P_X3_takesInCheck : PTT := fun as M R => match as with
  | [.ref k, .int x] => k = 3 ∧ IsRd M.1 3 ∧ (x = 46 → R (some (.int 1)) (M.1, mS M.2.1 3 (upd (M.2.1 3) 6 0), M.2.2)) ∧ (¬ x = 46 → ¬ (¬ x - 48 < M.2.1 3 5 ∧ ¬ M.2.1 3 2 ≤ x - 48 ∧ 1 ≤ M.2.1 3 4) → R (some (.int 0)) M) ∧
    (¬ x = 46 → (¬ x - 48 < M.2.1 3 5 ∧ ¬ M.2.1 3 2 ≤ x - 48 ∧ 1 ≤ M.2.1 3 4) → vp_in (M.2.1 3 4 - 1) 6 ∧ R (some (.int 1)) (M.1, mS (mS M.2.1 4 (upd (M.2.1 4) (M.2.1 3 4 - 1).toNatClampNeg (M.2.1 4 (M.2.1 3 4 - 1).toNatClampNeg ||| (1 : Int32) <<< ((x - 48) &&& 31)))) 3 (upd (M.2.1 3) 5 (x - 48 + 1)), M.2.2))
  | _ => False
set_option maxRecDepth 20000 in
theorem ok_X3_takesInCheck : Ok yX3_takesInCheck mt_X3_takesInCheck P_X3_takesInCheck := by
  refine Ok.of (by decide) rfl rfl rfl rfl fun av ⟨S, I, L⟩ R hP => ?_
  unfold P_X3_takesInCheck at hP
  split at hP
  case h_2 => exact hP.elim
  rename_i k x
  obtain ⟨k, rfl⟩ : ∃ q : Nat, q = k := ⟨k, rfl⟩
  refine ⟨by simp [ent, wide, mt_X3_takesInCheck], ?_⟩
  show J mt_X3_takesInCheck R 0 [some (.ref k), some (.int x), none] [] (S, I, L)
  try dsimp only at hP
  obtain ⟨rfl, hk, h1, h2, h3⟩ := hP
  refine J.of tk_X3_takesInCheck 200 fun ρ hρ => ?_
  simp only [hρ, x_c, x_il, x_ll, x_al, x_is, x_as, x_ls, x_inc, x_ii, x_iq, x_i1, x_l2, x_lq, x_lh, x_i2l, x_l2i, x_lcmp, x_dup, x_dup2, x_pop, x_if, x_ifn, x_ic, x_icn, x_go, x_sw, swc, x_l01, x_mx, x_gI, x_gL, x_gR, x_pI, x_pZ, x_pL, x_pR, x_ia, x_za, x_aa, x_ias, x_zas, x_aas, x_fac, x_fa, x_slen, x_sa, x_ac, x_oi, x_new, x_na, x_cS, x_cV, x_cI, x_rI, x_rZ, x_rL, x_r0, pa, short, oc, lg, lset, lset2, wide, cond_true, cond_false, true_and, and_true, ↓reduceIte, Bool.false_eq_true, true_or, or_true, lf_X3_takesInCheck, hk.f, mS_s, mS_34, mS_ss]
  refine ⟨fun h => ⟨fun q => h2 h (fun z => z.1 q), fun q => ⟨fun q2 => h2 h (fun z => z.2.1 q2), fun q2 => ⟨fun q3 => ?_, fun q3 => h2 h (fun z => q3 z.2.2)⟩⟩⟩, fun h => h1 h⟩
  have := h3 h ⟨q, q2, q3⟩
  exact ⟨this.1, this.1, this.2⟩
/-! the text's letters, one by one: where, bits, offset, checks that are whole, the least next bit, the sets -/
abbrev TS : Type := Nat × Nat × Nat × Nat × Nat × (Nat → Nat)
def stpT (s : TS) (a : Nat) : Option TS :=
  if s.1 = 0 then (if a = 67 then some (1, s.2) else none)
  else if s.1 = 1 then (if 50 ≤ a ∧ a ≤ 57 then some (2, a - 48, s.2.2) else none)
  else if s.1 = 2 then (if 48 ≤ a ∧ a ≤ 57 then some (3, s.2.1, a - 48, s.2.2.2) else none)
  else if s.1 = 3 then (if a = 99 ∧ s.2.2.2.1 < 6 then some (4, s.2.1, s.2.2.1, s.2.2.2.1, 0, va_up s.2.2.2.2.2 s.2.2.2.1 0) else none)
  else if a = 46 then some (3, s.2.1, s.2.2.1, s.2.2.2.1 + 1, s.2.2.2.2)
  else if 48 + s.2.2.2.2.1 ≤ a ∧ a < 48 + s.2.1 then some (4, s.2.1, s.2.2.1, s.2.2.2.1, a - 48 + 1, va_up s.2.2.2.2.2 s.2.2.2.1 (s.2.2.2.2.2 s.2.2.2.1 ||| 2 ^ (a - 48))) else none
def TS0 : TS := (0, 0, 0, 0, 0, fun _ => 0)
/-- what is true of every text that goes on -/
def TSok (s : TS) : Prop := s.1 ≤ 4 ∧ (2 ≤ s.1 → 2 ≤ s.2.1 ∧ s.2.1 ≤ 9) ∧ (3 ≤ s.1 → s.2.2.1 ≤ 9) ∧ s.2.2.2.1 ≤ 6 ∧ (s.1 < 3 → s.2.2.2.1 = 0) ∧ (s.1 = 4 → s.2.2.2.1 < 6 ∧ s.2.2.2.2.1 ≤ 9) ∧ (∀ c, c < s.2.2.2.1 + (if s.1 = 4 then 1 else 0) → s.2.2.2.2.2 c < 2 ^ s.2.1)
theorem TSok_0 : TSok TS0 := by simp [TSok, TS0]
theorem TSok_s {s s' : TS} {a : Nat} (h : TSok s) (e : stpT s a = some s') : TSok s' := by
  obtain ⟨ph, n, o, m, lb, ov⟩ := s
  obtain ⟨h0, h1, h2, h3, h4, h5, h6⟩ := h
  simp only at h0 h1 h2 h3 h4 h5 h6
  unfold stpT at e
  simp only at e
  split at e
  · split at e
    · cases e
      refine ⟨by simp only; omega, fun q => absurd q (by simp only; omega), fun q => absurd q (by simp only; omega), h3, fun _ => h4 (by omega), by simp only; omega, fun c hc => ?_⟩
      have := h4 (by omega)
      simp at hc
      omega
    · cases e
  split at e
  · split at e
    · next hh =>
      cases e
      refine ⟨by simp only; omega, fun _ => by simp only; omega, fun q => absurd q (by simp only; omega), h3, fun _ => h4 (by omega), by simp only; omega, fun c hc => ?_⟩
      have := h4 (by omega)
      simp at hc
      omega
    · cases e
  split at e
  · split at e
    · next hh =>
      cases e
      refine ⟨by simp only; omega, fun _ => h1 (by omega), fun _ => by simp only; omega, h3, by simp only; omega, by simp only; omega, fun c hc => ?_⟩
      have := h4 (by omega)
      simp at hc
      omega
    · cases e
  split at e
  · split at e
    · next hh =>
      cases e
      refine ⟨by simp only; omega, fun _ => h1 (by omega), fun _ => h2 (by omega), by simp only; omega, by simp only; omega, by simp only; omega, fun c hc => ?_⟩
      simp only [if_true] at hc
      simp only [va_up]
      split
      · exact Nat.two_pow_pos n
      · exact h6 c (by omega)
    · cases e
  split at e
  · cases e
    have h7 : ph = 4 := by omega
    refine ⟨by simp only; omega, fun _ => h1 (by omega), fun _ => h2 (by omega), by simp only; omega, by simp only; omega, by simp only; omega, fun c hc => ?_⟩
    simp only at hc
    exact h6 c (by rw [if_pos h7]; simpa using hc)
  split at e
  · next hh =>
    cases e
    have h7 : ph = 4 := by omega
    have hn := h1 (by omega)
    refine ⟨by simp only; omega, fun _ => hn, fun _ => h2 (by omega), by simp only; omega, by simp only; omega, by simp only; omega, fun c hc => ?_⟩
    simp only [if_true] at hc
    rw [if_pos h7] at h6
    simp only [va_up]
    split
    · exact Nat.or_lt_two_pow (h6 m (by omega)) (Nat.pow_lt_pow_right (by omega) (by omega))
    · exact h6 c hc
  · cases e
theorem stp_0 {n o m lb a : Nat} {ov : Nat → Nat} (h : a = 67) : stpT (0, n, o, m, lb, ov) a = some (1, n, o, m, lb, ov) := by simp [stpT, h]
theorem stp_1 {n o m lb a : Nat} {ov : Nat → Nat} (h : 50 ≤ a ∧ a ≤ 57) : stpT (1, n, o, m, lb, ov) a = some (2, a - 48, o, m, lb, ov) := by simp [stpT, h]
theorem stp_2 {n o m lb a : Nat} {ov : Nat → Nat} (h : 48 ≤ a ∧ a ≤ 57) : stpT (2, n, o, m, lb, ov) a = some (3, n, a - 48, m, lb, ov) := by simp [stpT, h]
theorem stp_3 {n o m lb a : Nat} {ov : Nat → Nat} (h : a = 99 ∧ m < 6) : stpT (3, n, o, m, lb, ov) a = some (4, n, o, m, 0, va_up ov m 0) := by simp [stpT, h]
theorem stp_4 {n o m lb a : Nat} {ov : Nat → Nat} (h : a = 46) : stpT (4, n, o, m, lb, ov) a = some (3, n, o, m + 1, lb, ov) := by simp [stpT, h]
theorem stp_5 {n o m lb a : Nat} {ov : Nat → Nat} (h0 : ¬ a = 46) (h : 48 + lb ≤ a ∧ a < 48 + n) : stpT (4, n, o, m, lb, ov) a = some (4, n, o, m, a - 48 + 1, va_up ov m (ov m ||| 2 ^ (a - 48))) := by simp [stpT, h, h0]
theorem stn_0 {n o m lb a : Nat} {ov : Nat → Nat} (h : ¬ a = 67) : stpT (0, n, o, m, lb, ov) a = none := by simp [stpT, h]
theorem stn_1 {n o m lb a : Nat} {ov : Nat → Nat} (h : ¬ (50 ≤ a ∧ a ≤ 57)) : stpT (1, n, o, m, lb, ov) a = none := by simp only [stpT]; rw [if_neg (by omega), if_pos trivial, if_neg h]
theorem stn_2 {n o m lb a : Nat} {ov : Nat → Nat} (h : ¬ (48 ≤ a ∧ a ≤ 57)) : stpT (2, n, o, m, lb, ov) a = none := by simp only [stpT]; rw [if_neg (by omega), if_neg (by omega), if_pos trivial, if_neg h]
theorem stn_3 {n o m lb a : Nat} {ov : Nat → Nat} (h : ¬ (a = 99 ∧ m < 6)) : stpT (3, n, o, m, lb, ov) a = none := by simp only [stpT]; rw [if_neg (by omega), if_neg (by omega), if_neg (by omega), if_pos trivial, if_neg h]
theorem stn_5 {n o m lb a : Nat} {ov : Nat → Nat} (h0 : ¬ a = 46) (h : ¬ (48 + lb ≤ a ∧ a < 48 + n)) : stpT (4, n, o, m, lb, ov) a = none := by simp only [stpT]; rw [if_neg (by omega), if_neg (by omega), if_neg (by omega), if_neg (by omega), if_neg h0, if_neg h]
/-- the reading at 3 holds what was read of i letters -/
def RdR (I : MI) (i : Nat) (s : TS) : Prop := I 3 1 = nI i ∧ (s.1 < 3 → i = s.1) ∧ (3 ≤ s.1 → 3 ≤ i) ∧ (2 ≤ s.1 → I 3 2 = nI s.2.1) ∧ (3 ≤ s.1 → I 3 3 = nI s.2.2.1) ∧ (s.1 = 4 → I 3 5 = nI s.2.2.2.2.1) ∧ I 3 4 = nI (s.2.2.2.1 + (if s.1 = 4 then 1 else 0)) ∧ I 3 6 = (if s.1 = 4 then 1 else 0) ∧ (∀ c, c < s.2.2.2.1 + (if s.1 = 4 then 1 else 0) → I 4 c = nI (s.2.2.2.2.2 c))
def il_X3_takes : List (Nat × Instr × Nat) := [(0, .aload_n 0, 1), (1, .getfield 15, 3), (4, .istore_n 2, 1), (5, .aload_n 0, 1), (6, .dup, 1), (7, .getfield 15, 3), (10, .iconst 1, 1), (11, .iadd, 1), (12, .putfield 15, 3), (15, .iload_n 2, 1), (16, .tableswitch 52 0 2 #[28, 40, 46], 28), (44, .iload_n 1, 1), (45, .bipush 67, 2), (47, .if_icmp .ne 7, 3), (50, .iconst 1, 1), (51, .goto 4, 3), (54, .iconst 0, 1), (55, .ireturn, 1), (56, .aload_n 0, 1), (57, .iload_n 1, 1), (58, .invokevirtual 35, 3), (61, .ireturn, 1), (62, .aload_n 0, 1), (63, .iload_n 1, 1), (64, .invokevirtual 39, 3), (67, .ireturn, 1), (68, .aload_n 0, 1), (69, .getfield 31, 3), (72, .ifCond .eq 11, 3), (75, .aload_n 0, 1), (76, .iload_n 1, 1), (77, .invokevirtual 42, 3), (80, .goto 8, 3), (83, .aload_n 0, 1), (84, .iload_n 1, 1), (85, .invokevirtual 45, 3), (88, .ireturn, 1)]
def mt_X3_takes : Mt := (cX3_takes, RX3, 3, (some .boolean), ({ frames := 1, cells := 0, slots := 0, locals := 22 } : Room), false, none, none)
set_option maxRecDepth 100000 in
theorem dl_X3_takes : ∀ q ∈ il_X3_takes, decode (mt_X3_takes).1 q.1 = .ok q.2 := by decide +kernel
def tb_X3_takes : Tb := [(0, x_al 1 0, false),
  (1, x_gI 3 1 4, false),
  (4, x_is 5 2, false),
  (5, x_al 6 0, false),
  (6, x_dup 7, false),
  (7, x_gI 3 1 10, false),
  (10, x_c 11 (.int 1), false),
  (11, x_ii 12 (fun x y : Int32 => x + y), false),
  (12, x_pI 3 1 15, false),
  (15, x_il 16 2, false),
  (16, x_sw 0 2 [44, 56, 62] 68, false),
  (44, x_il 45 1, false),
  (45, x_c 47 (.int 67), false),
  (47, x_icn 54 50 (fun x y : Int32 => x = y), false),
  (50, x_c 51 (.int 1), false),
  (51, x_go 55, false),
  (54, x_c 55 (.int 0), false),
  (55, x_rZ, false),
  (56, x_al 57 0, false),
  (57, x_il 58 1, false),
  (58, x_cV 3 1 P_X3_takesBits 61, false),
  (61, x_rZ, false),
  (62, x_al 63 0, false),
  (63, x_il 64 1, false),
  (64, x_cV 3 1 P_X3_takesOffset 67, false),
  (67, x_rZ, false),
  (68, x_al 69 0, false),
  (69, x_gI 3 6 72, false),
  (72, x_if 83 75 (fun x : Int32 => x = 0), false),
  (75, x_al 76 0, false),
  (76, x_il 77 1, false),
  (77, x_cV 3 1 P_X3_takesInCheck 80, false),
  (80, x_go 88, false),
  (83, x_al 84 0, false),
  (84, x_il 85 1, false),
  (85, x_cV 3 1 P_X3_takesCheck 88, false),
  (88, x_rZ, false)]
set_option maxRecDepth 100000 in
theorem tk_X3_takes : TbOk (mt_X3_takes) (tb_X3_takes) :=
  tkc (s_aload_n (at_ dl_X3_takes 0 (ins := .aload_n 0) rfl)) (
  tkc (s_gI (at_ dl_X3_takes 1 (ins := .getfield 15) rfl) (by decide) (by decide) (by decide) (tg 78 (by decide +kernel) (by decide +kernel))) (
  tkc (s_istore_n (at_ dl_X3_takes 2 (ins := .istore_n 2) rfl) (by decide)) (
  tkc (s_aload_n (at_ dl_X3_takes 3 (ins := .aload_n 0) rfl)) (
  tkc (s_dup (at_ dl_X3_takes 4 (ins := .dup) rfl)) (
  tkc (s_gI (at_ dl_X3_takes 5 (ins := .getfield 15) rfl) (by decide) (by decide) (by decide) (tg 78 (by decide +kernel) (by decide +kernel))) (
  tkc (s_iconst (at_ dl_X3_takes 6 (ins := .iconst 1) rfl) (by first | rfl | decide)) (
  tkc (s_iadd (at_ dl_X3_takes 7 (ins := .iadd) rfl)) (
  tkc (s_pI (at_ dl_X3_takes 8 (ins := .putfield 15) rfl) (by decide) (by decide) (by decide) (by decide) (tg 78 (by decide +kernel) (by decide +kernel))) (
  tkc (s_iload_n (at_ dl_X3_takes 9 (ins := .iload_n 2) rfl)) (
  tkc (s_sw (at_ dl_X3_takes 10 (ins := .tableswitch 52 0 2 #[28, 40, 46]) rfl) rfl (tsw [44, 56, 62] (by decide +kernel)) (by decide)) (
  tkc (s_iload_n (at_ dl_X3_takes 11 (ins := .iload_n 1) rfl)) (
  tkc (s_bipush (at_ dl_X3_takes 12 (ins := .bipush 67) rfl) (by first | rfl | decide)) (
  tkc (s_ic_ne (at_ dl_X3_takes 13 (ins := .if_icmp .ne 7) rfl) (by decide)) (
  tkc (s_iconst (at_ dl_X3_takes 14 (ins := .iconst 1) rfl) (by first | rfl | decide)) (
  tkc (s_goto (at_ dl_X3_takes 15 (ins := .goto 4) rfl) (by decide)) (
  tkc (s_iconst (at_ dl_X3_takes 16 (ins := .iconst 0) rfl) (by first | rfl | decide)) (
  tkc (s_rZ (at_ dl_X3_takes 17 (ins := .ireturn) rfl) rfl) (
  tkc (s_aload_n (at_ dl_X3_takes 18 (ins := .aload_n 0) rfl)) (
  tkc (s_iload_n (at_ dl_X3_takes 19 (ins := .iload_n 1) rfl)) (
  tkc (s_cV ok_X3_takesBits (at_ dl_X3_takes 20 (ins := .invokevirtual 35) rfl) (by decide) rfl (tg 317 (by decide +kernel) (by decide +kernel)) (tg 319 (by decide +kernel) (by decide +kernel)) (tg 0 (by decide +kernel) (by decide +kernel)) (tg 44 (by decide +kernel) (by decide +kernel)) (tg 320 (by decide +kernel) (by decide +kernel)) (⟨by decide, by decide, by decide +kernel⟩) (⟨by decide, by decide⟩) rfl rfl) (
  tkc (s_rZ (at_ dl_X3_takes 21 (ins := .ireturn) rfl) rfl) (
  tkc (s_aload_n (at_ dl_X3_takes 22 (ins := .aload_n 0) rfl)) (
  tkc (s_iload_n (at_ dl_X3_takes 23 (ins := .iload_n 1) rfl)) (
  tkc (s_cV ok_X3_takesOffset (at_ dl_X3_takes 24 (ins := .invokevirtual 39) rfl) (by decide) rfl (tg 321 (by decide +kernel) (by decide +kernel)) (tg 323 (by decide +kernel) (by decide +kernel)) (tg 1 (by decide +kernel) (by decide +kernel)) (tg 44 (by decide +kernel) (by decide +kernel)) (tg 324 (by decide +kernel) (by decide +kernel)) (⟨by decide, by decide, by decide +kernel⟩) (⟨by decide, by decide⟩) rfl rfl) (
  tkc (s_rZ (at_ dl_X3_takes 25 (ins := .ireturn) rfl) rfl) (
  tkc (s_aload_n (at_ dl_X3_takes 26 (ins := .aload_n 0) rfl)) (
  tkc (s_gI (at_ dl_X3_takes 27 (ins := .getfield 31) rfl) (by decide) (by decide) (by decide) (tg 86 (by decide +kernel) (by decide +kernel))) (
  tkc (s_if_eq (at_ dl_X3_takes 28 (ins := .ifCond .eq 11) rfl) (by decide)) (
  tkc (s_aload_n (at_ dl_X3_takes 29 (ins := .aload_n 0) rfl)) (
  tkc (s_iload_n (at_ dl_X3_takes 30 (ins := .iload_n 1) rfl)) (
  tkc (s_cV ok_X3_takesInCheck (at_ dl_X3_takes 31 (ins := .invokevirtual 42) rfl) (by decide) rfl (tg 325 (by decide +kernel) (by decide +kernel)) (tg 327 (by decide +kernel) (by decide +kernel)) (tg 2 (by decide +kernel) (by decide +kernel)) (tg 44 (by decide +kernel) (by decide +kernel)) (tg 328 (by decide +kernel) (by decide +kernel)) (⟨by decide, by decide, by decide +kernel⟩) (⟨by decide, by decide⟩) rfl rfl) (
  tkc (s_goto (at_ dl_X3_takes 32 (ins := .goto 8) rfl) (by decide)) (
  tkc (s_aload_n (at_ dl_X3_takes 33 (ins := .aload_n 0) rfl)) (
  tkc (s_iload_n (at_ dl_X3_takes 34 (ins := .iload_n 1) rfl)) (
  tkc (s_cV ok_X3_takesCheck (at_ dl_X3_takes 35 (ins := .invokevirtual 45) rfl) (by decide) rfl (tg 329 (by decide +kernel) (by decide +kernel)) (tg 331 (by decide +kernel) (by decide +kernel)) (tg 3 (by decide +kernel) (by decide +kernel)) (tg 44 (by decide +kernel) (by decide +kernel)) (tg 332 (by decide +kernel) (by decide +kernel)) (⟨by decide, by decide, by decide +kernel⟩) (⟨by decide, by decide⟩) rfl rfl) (
  tkc (s_rZ (at_ dl_X3_takes 36 (ins := .ireturn) rfl) rfl) ( tk0)))))))))))))))))))))))))))))))))))))
theorem lf_X3_takes : lk (tb_X3_takes) 0 = (x_al 1 0, false) ∧ lk (tb_X3_takes) 1 = (x_gI 3 1 4, false) ∧ lk (tb_X3_takes) 4 = (x_is 5 2, false) ∧ lk (tb_X3_takes) 5 = (x_al 6 0, false) ∧ lk (tb_X3_takes) 6 = (x_dup 7, false) ∧ lk (tb_X3_takes) 7 = (x_gI 3 1 10, false) ∧ lk (tb_X3_takes) 10 = (x_c 11 (.int 1), false) ∧ lk (tb_X3_takes) 11 = (x_ii 12 (fun x y : Int32 => x + y), false) ∧ lk (tb_X3_takes) 12 = (x_pI 3 1 15, false) ∧ lk (tb_X3_takes) 15 = (x_il 16 2, false) ∧ lk (tb_X3_takes) 16 = (x_sw 0 2 [44, 56, 62] 68, false) ∧ lk (tb_X3_takes) 44 = (x_il 45 1, false) ∧ lk (tb_X3_takes) 45 = (x_c 47 (.int 67), false) ∧ lk (tb_X3_takes) 47 = (x_icn 54 50 (fun x y : Int32 => x = y), false) ∧ lk (tb_X3_takes) 50 = (x_c 51 (.int 1), false) ∧ lk (tb_X3_takes) 51 = (x_go 55, false) ∧ lk (tb_X3_takes) 54 = (x_c 55 (.int 0), false) ∧ lk (tb_X3_takes) 55 = (x_rZ, false) ∧ lk (tb_X3_takes) 56 = (x_al 57 0, false) ∧ lk (tb_X3_takes) 57 = (x_il 58 1, false) ∧ lk (tb_X3_takes) 58 = (x_cV 3 1 P_X3_takesBits 61, false) ∧ lk (tb_X3_takes) 61 = (x_rZ, false) ∧ lk (tb_X3_takes) 62 = (x_al 63 0, false) ∧ lk (tb_X3_takes) 63 = (x_il 64 1, false) ∧ lk (tb_X3_takes) 64 = (x_cV 3 1 P_X3_takesOffset 67, false) ∧ lk (tb_X3_takes) 67 = (x_rZ, false) ∧ lk (tb_X3_takes) 68 = (x_al 69 0, false) ∧ lk (tb_X3_takes) 69 = (x_gI 3 6 72, false) ∧ lk (tb_X3_takes) 72 = (x_if 83 75 (fun x : Int32 => x = 0), false) ∧ lk (tb_X3_takes) 75 = (x_al 76 0, false) ∧ lk (tb_X3_takes) 76 = (x_il 77 1, false) ∧ lk (tb_X3_takes) 77 = (x_cV 3 1 P_X3_takesInCheck 80, false) ∧ lk (tb_X3_takes) 80 = (x_go 88, false) ∧ lk (tb_X3_takes) 83 = (x_al 84 0, false) ∧ lk (tb_X3_takes) 84 = (x_il 85 1, false) ∧ lk (tb_X3_takes) 85 = (x_cV 3 1 P_X3_takesCheck 88, false) ∧ lk (tb_X3_takes) 88 = (x_rZ, false) := ⟨rfl, rfl, rfl, rfl, rfl, rfl, rfl, rfl, rfl, rfl, rfl, rfl, rfl, rfl, rfl, rfl, rfl, rfl, rfl, rfl, rfl, rfl, rfl, rfl, rfl, rfl, rfl, rfl, rfl, rfl, rfl, rfl, rfl, rfl, rfl, rfl, rfl⟩
def P_X3_takes : PTT := fun as M R => match as with
  | [.ref k, .int x] => k = 3 ∧ IsRd M.1 3 ∧ ∃ i s a, RdR M.2.1 i s ∧ TSok s ∧ i < 1000 ∧ x = nI a ∧ a < 256 ∧
      (stpT s a = none → ∀ I', (∀ q, q ≠ 3 → q ≠ 4 → I' q = M.2.1 q) → R (some (.int 0)) (M.1, I', M.2.2)) ∧ (∀ s', stpT s a = some s' → ∀ I', (∀ q, q ≠ 3 → q ≠ 4 → I' q = M.2.1 q) → RdR I' (i + 1) s' → R (some (.int 1)) (M.1, I', M.2.2))
  | _ => False
theorem upd_app (f : Nat → Int32) (k : Nat) (x : Int32) (j : Nat) : upd f k x j = if j = k then x else f j := rfl
theorem mS_43 {I : MI} {r : Nat → Int32} : mS I 3 r 4 = I 4 := rfl
theorem fr3 {I : MI} {r : Nat → Int32} : ∀ q, q ≠ 3 → q ≠ 4 → mS I 3 r q = I q := fun q h _ => mS_n h
theorem fr34 {I : MI} {r r' : Nat → Int32} : ∀ q, q ≠ 3 → q ≠ 4 → mS (mS I 4 r') 3 r q = I q := fun q h h4 => by rw [mS_n h, mS_n h4]
theorem upd_n {f : Nat → Int32} {k j : Nat} {x : Int32} (h : j ≠ k) : upd f k x j = f j := pk_un h
set_option maxRecDepth 20000 in
theorem ok_X3_takes : Ok yX3_takes mt_X3_takes P_X3_takes := by
  refine Ok.of (by decide) rfl rfl rfl rfl fun av ⟨S, I, L⟩ R hP => ?_
  unfold P_X3_takes at hP
  split at hP
  case h_2 => exact hP.elim
  rename_i k x
  obtain ⟨k, rfl⟩ : ∃ q : Nat, q = k := ⟨k, rfl⟩
  refine ⟨by simp [ent, wide, mt_X3_takes], ?_⟩
  show J mt_X3_takes R 0 [some (.ref k), some (.int x), none] [] (S, I, L)
  try dsimp only at hP
  obtain ⟨rfl, hk, i, ⟨ph, n, o, m, lb, ov⟩, a, hr, hok, hi, rfl, ha, hN, hS⟩ := hP
  obtain ⟨h0, h1, h2, h3, h4, h5, h6⟩ := hok
  obtain ⟨r0, r1, r2, r3, r4, r5, r6, r7, r8⟩ := hr
  simp only at h0 h1 h2 h3 h4 h5 h6 r0 r1 r2 r3 r4 r5 r6 r7 r8
  have hT : (nI i).toInt = (i : Int) := nI_toInt (by omega)
  have e67 : nI a = 67 ↔ a = 67 := nI_eq (b := 67) (by omega) (by omega)
  have e99 : nI a = 99 ↔ a = 99 := nI_eq (b := 99) (by omega) (by omega)
  have e46 : nI a = 46 ↔ a = 46 := nI_eq (b := 46) (by omega) (by omega)
  have g2 : nI a - 48 < 2 ↔ a < 48 + 2 := fg_lt (c := 2) ha (by omega)
  have g0 : nI a - 48 < 0 ↔ a < 48 + 0 := fg_lt (c := 0) ha (by omega)
  have g9 : 9 < nI a - 48 ↔ 48 + 9 < a := fg_gt (c := 9) ha (by omega)
  have l6 : nI m < 6 ↔ m < 6 := nI_ltI (b := 6) (by omega) (by omega)
  have hph : ph = 0 ∨ ph = 1 ∨ ph = 2 ∨ ph = 3 ∨ ph = 4 := by omega
  refine J.of tk_X3_takes 200 fun ρ hρ => ?_
  simp only [hρ, x_c, x_il, x_ll, x_al, x_is, x_as, x_ls, x_inc, x_ii, x_iq, x_i1, x_l2, x_lq, x_lh, x_i2l, x_l2i, x_lcmp, x_dup, x_dup2, x_pop, x_if, x_ifn, x_ic, x_icn, x_go, x_sw, swc, x_l01, x_mx, x_gI, x_gL, x_gR, x_pI, x_pZ, x_pL, x_pR, x_ia, x_za, x_aa, x_ias, x_zas, x_aas, x_fac, x_fa, x_slen, x_sa, x_ac, x_oi, x_new, x_na, x_cS, x_cV, x_cI, x_rI, x_rZ, x_rL, x_r0, pa, short, oc, lg, lset, lset2, wide, cond_true, cond_false, true_and, and_true, ↓reduceIte, Bool.false_eq_true, true_or, or_true, lf_X3_takes, hk, hk.f, r0, hT, mS_s, P_X3_takesBits, P_X3_takesOffset, P_X3_takesCheck, P_X3_takesInCheck, mS_ss, mS_43, upd_app, Nat.reduceEqDiff, nI_1, e67, e99, e46, g2, g0, g9]
  rcases hph with rfl | rfl | rfl | rfl | rfl
  · have hi0 : i = 0 := r1 (by omega)
    subst hi0
    refine ⟨⟨fun _ => ⟨fun h => hN (stn_0 h) _ fr3, fun h => hS _ (stp_0 h) _ fr3 ?_⟩, fun h => absurd h (by omega), fun h => absurd h (by omega)⟩, fun h => absurd h (by omega)⟩
    refine ⟨by simp [mS_s, upd_app], by simp, by simp, by simp, by simp, by simp, by simpa [mS_s, upd_app] using r6, by simpa [mS_s, upd_app] using r7, ?_⟩
    have := h4 (by omega)
    simp [this]
  · have hi0 : i = 1 := r1 (by omega)
    subst hi0
    refine ⟨⟨fun h => absurd h (by omega), fun _ => ⟨bI_or, ?_⟩, fun h => absurd h (by omega)⟩, fun h => absurd h (by omega)⟩
    by_cases h : 50 ≤ a ∧ a ≤ 57
    · rw [bI_t (by omega)]
      refine hS _ (stp_1 h) _ fr3 ?_
      refine ⟨by simp [mS_s, upd_app], by simp, by simp, fun _ => by simp [mS_s, upd_app]; exact fg_sub (by omega), by simp, by simp, by simpa [mS_s, upd_app] using r6, by simpa [mS_s, upd_app] using r7, ?_⟩
      have := h4 (by omega)
      simp [this]
    · rw [bI_f (by omega)]
      exact hN (stn_1 h) _ fr3
  · have hi0 : i = 2 := r1 (by omega)
    subst hi0
    refine ⟨⟨fun h => absurd h (by omega), fun h => absurd h (by omega), fun _ => ⟨bI_or, ?_⟩⟩, fun h => absurd h (by omega)⟩
    by_cases h : 48 ≤ a ∧ a ≤ 57
    · rw [bI_t (by omega)]
      refine hS _ (stp_2 h) _ fr3 ?_
      refine ⟨by simp [mS_s, upd_app], by simp, by simp, fun _ => by simpa [mS_s, upd_app] using r3 (by omega), fun _ => by simp [mS_s, upd_app]; exact fg_sub (by omega), by simp, by simpa [mS_s, upd_app] using r6, by simpa [mS_s, upd_app] using r7, ?_⟩
      have := h4 (by omega)
      simp [this]
    · rw [bI_f (by omega)]
      exact hN (stn_2 h) _ fr3
  · have hi0 : 3 ≤ i := r2 (by omega)
    have q4 : I 3 4 = nI m := by simpa using r6
    have q6 : I 3 6 = 0 := by simpa using r7
    rw [q4, q6, l6]
    refine ⟨⟨fun h => absurd h (by omega), fun h => absurd h (by omega), fun h => absurd h (by omega)⟩, fun _ => ⟨fun _ => ⟨fun h => ?_, fun h => ?_⟩, fun h => absurd rfl h⟩⟩
    · rw [ncl (by omega)]
      refine ⟨vp_in_nI (by omega) (by omega), hS _ (stp_3 h) _ ?_ ?_⟩
      · intro q h3 h4'; rw [mS_n h3, mS_n h4', mS_n h3]
      · refine ⟨by simp [mS_s, upd_app], by simp, fun _ => by first | omega | (simp only; omega), fun _ => by simpa [mS_s, upd_app] using r3 (by omega), fun _ => by simpa [mS_s, upd_app] using r4 (by omega), fun _ => by simp [mS_s, upd_app, zero_nI], by simp [mS_s, upd_app, nI_1], by simp [mS_s, upd_app], fun c hc => ?_⟩
        simp only [if_true] at hc
        simp only [mS_app, Nat.reduceEqDiff, if_false, if_true, upd_app, va_up]
        by_cases hcm : c = m
        · simp [hcm, zero_nI]
        · simp only [hcm, if_false]
          exact r8 c (by simp; omega)
    · exact hN (stn_3 h) _ fr3
  · have hi0 : 3 ≤ i := r2 (by omega)
    have q4 : I 3 4 = nI (m + 1) := by simpa using r6
    have q6 : I 3 6 = 1 := by simpa using r7
    have q5 : I 3 5 = nI lb := r5 rfl
    have q2 : I 3 2 = nI n := r3 (by omega)
    have h5' := h5 rfl
    have h1' := h1 (by omega)
    rw [q4, q6, q5, q2]
    refine ⟨⟨fun h => absurd h (by omega), fun h => absurd h (by omega), fun h => absurd h (by omega)⟩, fun _ => ⟨fun h => absurd h (by decide), fun _ => ⟨fun h => ?_, fun h h7 => ?_, fun h h7 => ?_⟩⟩⟩
    · refine hS _ (stp_4 h) _ fr3 ?_
      refine ⟨by simp [mS_s, upd_app], by simp, fun _ => by first | omega | (simp only; omega), fun _ => by simpa [mS_s, upd_app] using q2, fun _ => by simpa [mS_s, upd_app] using r4 (by omega), by simp, by simp [mS_s, upd_app, q4], by simp [mS_s, upd_app], fun c hc => ?_⟩
      simp at hc
      simp only [mS_app, Nat.reduceEqDiff, if_false]
      exact r8 c (by simpa using hc)
    · refine hN (stn_5 h ?_) _ fr3
      intro q
      refine h7 ⟨?_, ?_, ?_⟩
      · rw [fg_lt ha (by omega)]; omega
      · rw [fg_ge ha (by omega)]; omega
      · rw [one_nI, nI_leI (by omega) (by omega)]; omega
    · rw [fg_lt ha (by omega), fg_ge ha (by omega)] at h7
      rw [nI_pred, ncl (by omega)]
      refine ⟨vp_in_nI (by omega) (by omega), hS _ (stp_5 h (by omega)) _ ?_ ?_⟩
      · intro q h3 h4'; rw [mS_n h3, mS_n h4', mS_n h3]
      · refine ⟨by simp [mS_s, upd_app], by simp, fun _ => by first | omega | (simp only; omega), fun _ => by simpa [mS_s, upd_app] using q2, fun _ => by simpa [mS_s, upd_app] using r4 (by omega), fun _ => by simp [mS_s, upd_app, nI_1]; rw [fg_sub (by omega), nI_1], by simp [mS_s, upd_app, q4], by simp [mS_s, upd_app, q6], fun c hc => ?_⟩
        simp only [if_true] at hc
        simp only [mS_app, Nat.reduceEqDiff, if_false, if_true, upd_app, va_up]
        by_cases hcm : c = m
        · simp only [hcm, if_true]
          rw [r8 m (by simp), fg_sub (by omega), shl1 (by omega), nI_or]
        · simp only [hcm, if_false]
          exact r8 c (by simpa using hc)
end
section
/-! TEXT, at 1 and 2; its reading at 3 and 4 -/
def IsTx (S : Sh) : Prop := tO S 1 7 ∧ sR S 1 0 = 2 ∧ sR S 1 1 = 3 ∧ tA S 2 1 ∧ ln S 2 = 70
theorem IsTx.f {S : Sh} (h : IsTx S) : tO S 1 7 ∧ sR S 1 0 = 2 ∧ sR S 1 1 = 3 ∧ tA S 2 1 ∧ ln S 2 = 70 := h
/-- the text at hand: its length, its letters -/
def TxV (I : MI) (len : Nat) : Prop := len ≤ 70 ∧ I 1 2 = nI len ∧ ∀ j, j < len → tn (I 2 j) < 256
def il_X7_append : List (Nat × Instr × Nat) := [(0, .aload_n 0, 1), (1, .getfield 22, 3), (4, .bipush 70, 2), (6, .if_icmp .ge 23, 3), (9, .aload_n 0, 1), (10, .getfield 9, 3), (13, .aload_n 0, 1), (14, .getfield 22, 3), (17, .iload_n 1, 1), (18, .iastore, 1), (19, .aload_n 0, 1), (20, .dup, 1), (21, .getfield 22, 3), (24, .iconst 1, 1), (25, .iadd, 1), (26, .putfield 22, 3), (29, .aload_n 0, 1), (30, .getfield 22, 3), (33, .ireturn, 1)]
def mt_X7_append : Mt := (cX7_append, RX7, 2, (some .int), ({ frames := 0, cells := 0, slots := 0, locals := 0 } : Room), false, none, none)
set_option maxRecDepth 100000 in
theorem dl_X7_append : ∀ q ∈ il_X7_append, decode (mt_X7_append).1 q.1 = .ok q.2 := by decide +kernel
def tb_X7_append : Tb := [(0, x_al 1 0, false),
  (1, x_gI 7 2 4, false),
  (4, x_c 6 (.int 70), false),
  (6, x_ic 29 9 (fun x y : Int32 => y ≤ x), false),
  (9, x_al 10 0, false),
  (10, x_gR 7 0 13, false),
  (13, x_al 14 0, false),
  (14, x_gI 7 2 17, false),
  (17, x_il 18 1, false),
  (18, x_ias 19, false),
  (19, x_al 20 0, false),
  (20, x_dup 21, false),
  (21, x_gI 7 2 24, false),
  (24, x_c 25 (.int 1), false),
  (25, x_ii 26 (fun x y : Int32 => x + y), false),
  (26, x_pI 7 2 29, false),
  (29, x_al 30 0, false),
  (30, x_gI 7 2 33, false),
  (33, x_rI, false)]
set_option maxRecDepth 100000 in
theorem tk_X7_append : TbOk (mt_X7_append) (tb_X7_append) :=
  tkc (s_aload_n (at_ dl_X7_append 0 (ins := .aload_n 0) rfl)) (
  tkc (s_gI (at_ dl_X7_append 1 (ins := .getfield 22) rfl) (by decide) (by decide) (by decide) (tg 106 (by decide +kernel) (by decide +kernel))) (
  tkc (s_bipush (at_ dl_X7_append 2 (ins := .bipush 70) rfl) (by first | rfl | decide)) (
  tkc (s_ic_ge (at_ dl_X7_append 3 (ins := .if_icmp .ge 23) rfl) (by decide)) (
  tkc (s_aload_n (at_ dl_X7_append 4 (ins := .aload_n 0) rfl)) (
  tkc (s_gR (at_ dl_X7_append 5 (ins := .getfield 9) rfl) (by decide) (by decide) (by decide) (tg 103 (by decide +kernel) (by decide +kernel))) (
  tkc (s_aload_n (at_ dl_X7_append 6 (ins := .aload_n 0) rfl)) (
  tkc (s_gI (at_ dl_X7_append 7 (ins := .getfield 22) rfl) (by decide) (by decide) (by decide) (tg 106 (by decide +kernel) (by decide +kernel))) (
  tkc (s_iload_n (at_ dl_X7_append 8 (ins := .iload_n 1) rfl)) (
  tkc (s_ias (at_ dl_X7_append 9 (ins := .iastore) rfl)) (
  tkc (s_aload_n (at_ dl_X7_append 10 (ins := .aload_n 0) rfl)) (
  tkc (s_dup (at_ dl_X7_append 11 (ins := .dup) rfl)) (
  tkc (s_gI (at_ dl_X7_append 12 (ins := .getfield 22) rfl) (by decide) (by decide) (by decide) (tg 106 (by decide +kernel) (by decide +kernel))) (
  tkc (s_iconst (at_ dl_X7_append 13 (ins := .iconst 1) rfl) (by first | rfl | decide)) (
  tkc (s_iadd (at_ dl_X7_append 14 (ins := .iadd) rfl)) (
  tkc (s_pI (at_ dl_X7_append 15 (ins := .putfield 22) rfl) (by decide) (by decide) (by decide) (by decide) (tg 106 (by decide +kernel) (by decide +kernel))) (
  tkc (s_aload_n (at_ dl_X7_append 16 (ins := .aload_n 0) rfl)) (
  tkc (s_gI (at_ dl_X7_append 17 (ins := .getfield 22) rfl) (by decide) (by decide) (by decide) (tg 106 (by decide +kernel) (by decide +kernel))) (
  tkc (s_rI (at_ dl_X7_append 18 (ins := .ireturn) rfl) rfl) ( tk0)))))))))))))))))))
theorem lf_X7_append : lk (tb_X7_append) 0 = (x_al 1 0, false) ∧ lk (tb_X7_append) 1 = (x_gI 7 2 4, false) ∧ lk (tb_X7_append) 4 = (x_c 6 (.int 70), false) ∧ lk (tb_X7_append) 6 = (x_ic 29 9 (fun x y : Int32 => y ≤ x), false) ∧ lk (tb_X7_append) 9 = (x_al 10 0, false) ∧ lk (tb_X7_append) 10 = (x_gR 7 0 13, false) ∧ lk (tb_X7_append) 13 = (x_al 14 0, false) ∧ lk (tb_X7_append) 14 = (x_gI 7 2 17, false) ∧ lk (tb_X7_append) 17 = (x_il 18 1, false) ∧ lk (tb_X7_append) 18 = (x_ias 19, false) ∧ lk (tb_X7_append) 19 = (x_al 20 0, false) ∧ lk (tb_X7_append) 20 = (x_dup 21, false) ∧ lk (tb_X7_append) 21 = (x_gI 7 2 24, false) ∧ lk (tb_X7_append) 24 = (x_c 25 (.int 1), false) ∧ lk (tb_X7_append) 25 = (x_ii 26 (fun x y : Int32 => x + y), false) ∧ lk (tb_X7_append) 26 = (x_pI 7 2 29, false) ∧ lk (tb_X7_append) 29 = (x_al 30 0, false) ∧ lk (tb_X7_append) 30 = (x_gI 7 2 33, false) ∧ lk (tb_X7_append) 33 = (x_rI, false) := ⟨rfl, rfl, rfl, rfl, rfl, rfl, rfl, rfl, rfl, rfl, rfl, rfl, rfl, rfl, rfl, rfl, rfl, rfl, rfl⟩
def P_X7_append : PTT := fun as M R => match as with
  | [.ref k, .int x] => k = 1 ∧ IsTx M.1 ∧ ∃ len, len < 70 ∧ M.2.1 1 2 = nI len ∧ R (some (.int (nI (len + 1)))) (M.1, mS (mS M.2.1 2 (upd (M.2.1 2) len x)) 1 (upd (M.2.1 1) 2 (nI (len + 1))), M.2.2)
  | _ => False
theorem nI70 : (70 : Int32) = nI 70 := by decide
set_option maxRecDepth 20000 in
theorem ok_X7_append : Ok yX7_append mt_X7_append P_X7_append := by
  refine Ok.of (by decide) rfl rfl rfl rfl fun av ⟨S, I, L⟩ R hP => ?_
  unfold P_X7_append at hP
  split at hP
  case h_2 => exact hP.elim
  rename_i k x
  obtain ⟨k, rfl⟩ : ∃ q : Nat, q = k := ⟨k, rfl⟩
  refine ⟨by simp [ent, wide, mt_X7_append], ?_⟩
  show J mt_X7_append R 0 [some (.ref k), some (.int x)] [] (S, I, L)
  try dsimp only at hP
  obtain ⟨rfl, hk, len, h7, hl, hR⟩ := hP
  refine J.of tk_X7_append 200 fun ρ hρ => ?_
  simp only [hρ, x_c, x_il, x_ll, x_al, x_is, x_as, x_ls, x_inc, x_ii, x_iq, x_i1, x_l2, x_lq, x_lh, x_i2l, x_l2i, x_lcmp, x_dup, x_dup2, x_pop, x_if, x_ifn, x_ic, x_icn, x_go, x_sw, swc, x_l01, x_mx, x_gI, x_gL, x_gR, x_pI, x_pZ, x_pL, x_pR, x_ia, x_za, x_aa, x_ias, x_zas, x_aas, x_fac, x_fa, x_slen, x_sa, x_ac, x_oi, x_new, x_na, x_cS, x_cV, x_cI, x_rI, x_rZ, x_rL, x_r0, pa, short, oc, lg, lset, lset2, wide, cond_true, cond_false, true_and, and_true, ↓reduceIte, Bool.false_eq_true, true_or, or_true, lf_X7_append, hk.f, hl, nI70, nI_leI (show 70 < 2 ^ 31 by omega) (show len < 2 ^ 31 by omega), ncl (show len < 2 ^ 31 by omega), nI_1, mS_app, Nat.reduceEqDiff, upd_s]
  refine ⟨fun h => absurd h (by omega), fun h => ⟨vp_in_nI (by omega) (by omega), hR⟩⟩
/-- what the text's reading comes to: the fault (-9: none), and what was read by then -/
def fltR (txt : Nat → Nat) (len : Nat) : Nat → Nat → TS → Int32 × TS
  | 0, _, s => (if s.1 = 3 then -9 else nI len, s)
  | d + 1, i, s => match stpT s (txt i) with
    | none => (nI i, s)
    | some s' => fltR txt len d (i + 1) s'
def flt (txt : Nat → Nat) (len : Nat) : Int32 × TS := fltR txt len len 0 TS0
theorem fltR_congr {t t' : Nat → Nat} {len : Nat} : ∀ {d i : Nat} {s : TS}, (∀ j, j < i + d → t j = t' j) → fltR t len d i s = fltR t' len d i s
  | 0, i, s, _ => rfl
  | d + 1, i, s, h => by
    simp only [fltR]
    rw [h i (by omega)]
    cases stpT s (t' i) with
    | none => rfl
    | some s' => exact fltR_congr (fun j hj => h j (by omega))
theorem fltR_ok {t : Nat → Nat} {len : Nat} (hl : len ≤ 70) : ∀ {d i : Nat} {s : TS}, i + d = len → TSok s → (fltR t len d i s).1 = -9 → TSok (fltR t len d i s).2 ∧ (fltR t len d i s).2.1 = 3
  | 0, i, s, _, hs, h => by
    simp only [fltR] at h ⊢
    by_cases h3 : s.1 = 3
    · exact ⟨hs, h3⟩
    · rw [if_neg h3] at h
      exact absurd h (by
        intro e
        have := congrArg Int32.toInt e
        rw [nI_toInt (by omega)] at this
        have h9 : (-9 : Int32).toInt = -9 := by decide
        omega)
  | d + 1, i, s, hi, hs, h => by
    simp only [fltR] at h ⊢
    cases e : stpT s (t i) with
    | none =>
      rw [e] at h
      simp only at h
      have := congrArg Int32.toInt h
      rw [nI_toInt (by omega)] at this
      have h9 : (-9 : Int32).toInt = -9 := by decide
      omega
    | some s' =>
      rw [e] at h
      exact fltR_ok hl (by omega) (TSok_s hs e) h
def RdF (I : MI) (s : TS) : Prop := I 3 2 = nI s.2.1 ∧ I 3 3 = nI s.2.2.1 ∧ I 3 4 = nI s.2.2.2.1 ∧ ∀ c, c < s.2.2.2.1 → I 4 c = nI (s.2.2.2.2.2 c)
theorem RdR.F {I : MI} {i : Nat} {s : TS} (h : RdR I i s) (h3 : s.1 = 3) : RdF I s := by
  obtain ⟨r0, r1, r2, r3, r4, r5, r6, r7, r8⟩ := h
  refine ⟨r3 (by omega), r4 (by omega), ?_, fun c hc => ?_⟩
  · simpa [h3] using r6
  · exact r8 c (by simpa [h3] using hc)
def il_X7_firstFault : List (Nat × Instr × Nat) := [(0, .aload_n 0, 1), (1, .getfield 18, 3), (4, .invokevirtual 26, 3), (7, .iconst 0, 1), (8, .istore_n 1, 1), (9, .iload_n 1, 1), (10, .aload_n 0, 1), (11, .getfield 22, 3), (14, .if_icmp .ge 27, 3), (17, .aload_n 0, 1), (18, .getfield 18, 3), (21, .aload_n 0, 1), (22, .getfield 9, 3), (25, .iload_n 1, 1), (26, .iaload, 1), (27, .invokevirtual 29, 3), (30, .ifCond .ne 5, 3), (33, .iload_n 1, 1), (34, .ireturn, 1), (35, .iinc 1 1, 3), (38, .goto (-29), 3), (41, .aload_n 0, 1), (42, .getfield 18, 3), (45, .invokevirtual 33, 3), (48, .ifCond .eq 8, 3), (51, .bipush (-9), 2), (53, .goto 7, 3), (56, .aload_n 0, 1), (57, .getfield 22, 3), (60, .ireturn, 1)]
def mt_X7_firstFault : Mt := (cX7_firstFault, RX7, 2, (some .int), ({ frames := 2, cells := 0, slots := 0, locals := 44 } : Room), false, none, none)
set_option maxRecDepth 100000 in
theorem dl_X7_firstFault : ∀ q ∈ il_X7_firstFault, decode (mt_X7_firstFault).1 q.1 = .ok q.2 := by decide +kernel
def tb_X7_firstFault : Tb := [(0, x_al 1 0, false),
  (1, x_gR 7 1 4, false),
  (4, x_cV 3 0 P_X3_startAnew 7, false),
  (7, x_c 8 (.int 0), false),
  (8, x_is 9 1, false),
  (9, x_il 10 1, true),
  (10, x_al 11 0, false),
  (11, x_gI 7 2 14, false),
  (14, x_ic 41 17 (fun x y : Int32 => y ≤ x), false),
  (17, x_al 18 0, false),
  (18, x_gR 7 1 21, false),
  (21, x_al 22 0, false),
  (22, x_gR 7 0 25, false),
  (25, x_il 26 1, false),
  (26, x_ia 27, false),
  (27, x_cV 3 1 P_X3_takes 30, false),
  (30, x_ifn 35 33 (fun x : Int32 => x = 0), false),
  (33, x_il 34 1, false),
  (34, x_rI, false),
  (35, x_inc 38 1 1, false),
  (38, x_go 9, false),
  (41, x_al 42 0, false),
  (42, x_gR 7 1 45, false),
  (45, x_cV 3 0 P_X3_mayEnd 48, false),
  (48, x_if 56 51 (fun x : Int32 => x = 0), false),
  (51, x_c 53 (.int (-9)), false),
  (53, x_go 60, false),
  (56, x_al 57 0, false),
  (57, x_gI 7 2 60, false),
  (60, x_rI, false)]
set_option maxRecDepth 100000 in
theorem tk_X7_firstFault : TbOk (mt_X7_firstFault) (tb_X7_firstFault) :=
  tkc (s_aload_n (at_ dl_X7_firstFault 0 (ins := .aload_n 0) rfl)) (
  tkc (s_gR (at_ dl_X7_firstFault 1 (ins := .getfield 18) rfl) (by decide) (by decide) (by decide) (tg 104 (by decide +kernel) (by decide +kernel))) (
  tkc (s_cV ok_X3_startAnew (at_ dl_X7_firstFault 2 (ins := .invokevirtual 26) rfl) (by decide) rfl (tg 309 (by decide +kernel) (by decide +kernel)) (tg 310 (by decide +kernel) (by decide +kernel)) (tg 311 (by decide +kernel) (by decide +kernel)) (tg 44 (by decide +kernel) (by decide +kernel)) (tg 312 (by decide +kernel) (by decide +kernel)) (⟨by decide, by decide, by decide +kernel⟩) (⟨by decide, by decide⟩) rfl rfl) (
  tkc (s_iconst (at_ dl_X7_firstFault 3 (ins := .iconst 0) rfl) (by first | rfl | decide)) (
  tkc (s_istore_n (at_ dl_X7_firstFault 4 (ins := .istore_n 1) rfl) (by decide)) (
  tkc (s_iload_n (at_ dl_X7_firstFault 5 (ins := .iload_n 1) rfl)) (
  tkc (s_aload_n (at_ dl_X7_firstFault 6 (ins := .aload_n 0) rfl)) (
  tkc (s_gI (at_ dl_X7_firstFault 7 (ins := .getfield 22) rfl) (by decide) (by decide) (by decide) (tg 106 (by decide +kernel) (by decide +kernel))) (
  tkc (s_ic_ge (at_ dl_X7_firstFault 8 (ins := .if_icmp .ge 27) rfl) (by decide)) (
  tkc (s_aload_n (at_ dl_X7_firstFault 9 (ins := .aload_n 0) rfl)) (
  tkc (s_gR (at_ dl_X7_firstFault 10 (ins := .getfield 18) rfl) (by decide) (by decide) (by decide) (tg 104 (by decide +kernel) (by decide +kernel))) (
  tkc (s_aload_n (at_ dl_X7_firstFault 11 (ins := .aload_n 0) rfl)) (
  tkc (s_gR (at_ dl_X7_firstFault 12 (ins := .getfield 9) rfl) (by decide) (by decide) (by decide) (tg 103 (by decide +kernel) (by decide +kernel))) (
  tkc (s_iload_n (at_ dl_X7_firstFault 13 (ins := .iload_n 1) rfl)) (
  tkc (s_ia (at_ dl_X7_firstFault 14 (ins := .iaload) rfl)) (
  tkc (s_cV ok_X3_takes (at_ dl_X7_firstFault 15 (ins := .invokevirtual 29) rfl) (by decide) rfl (tg 313 (by decide +kernel) (by decide +kernel)) (tg 314 (by decide +kernel) (by decide +kernel)) (tg 315 (by decide +kernel) (by decide +kernel)) (tg 44 (by decide +kernel) (by decide +kernel)) (tg 316 (by decide +kernel) (by decide +kernel)) (⟨by decide, by decide, by decide +kernel⟩) (⟨by decide, by decide⟩) rfl rfl) (
  tkc (s_if_ne (at_ dl_X7_firstFault 16 (ins := .ifCond .ne 5) rfl) (by decide)) (
  tkc (s_iload_n (at_ dl_X7_firstFault 17 (ins := .iload_n 1) rfl)) (
  tkc (s_rI (at_ dl_X7_firstFault 18 (ins := .ireturn) rfl) rfl) (
  tkc (s_iinc (at_ dl_X7_firstFault 19 (ins := .iinc 1 1) rfl) (by decide) (by first | rfl | decide)) (
  tkc (s_goto (at_ dl_X7_firstFault 20 (ins := .goto (-29)) rfl) (by decide)) (
  tkc (s_aload_n (at_ dl_X7_firstFault 21 (ins := .aload_n 0) rfl)) (
  tkc (s_gR (at_ dl_X7_firstFault 22 (ins := .getfield 18) rfl) (by decide) (by decide) (by decide) (tg 104 (by decide +kernel) (by decide +kernel))) (
  tkc (s_cV ok_X3_mayEnd (at_ dl_X7_firstFault 23 (ins := .invokevirtual 33) rfl) (by decide) rfl (tg 333 (by decide +kernel) (by decide +kernel)) (tg 334 (by decide +kernel) (by decide +kernel)) (tg 335 (by decide +kernel) (by decide +kernel)) (tg 44 (by decide +kernel) (by decide +kernel)) (tg 336 (by decide +kernel) (by decide +kernel)) (⟨by decide, by decide, by decide +kernel⟩) (⟨by decide, by decide⟩) rfl rfl) (
  tkc (s_if_eq (at_ dl_X7_firstFault 24 (ins := .ifCond .eq 8) rfl) (by decide)) (
  tkc (s_bipush (at_ dl_X7_firstFault 25 (ins := .bipush (-9)) rfl) (by first | rfl | decide)) (
  tkc (s_goto (at_ dl_X7_firstFault 26 (ins := .goto 7) rfl) (by decide)) (
  tkc (s_aload_n (at_ dl_X7_firstFault 27 (ins := .aload_n 0) rfl)) (
  tkc (s_gI (at_ dl_X7_firstFault 28 (ins := .getfield 22) rfl) (by decide) (by decide) (by decide) (tg 106 (by decide +kernel) (by decide +kernel))) (
  tkc (s_rI (at_ dl_X7_firstFault 29 (ins := .ireturn) rfl) rfl) ( tk0))))))))))))))))))))))))))))))
theorem lf_X7_firstFault : lk (tb_X7_firstFault) 0 = (x_al 1 0, false) ∧ lk (tb_X7_firstFault) 1 = (x_gR 7 1 4, false) ∧ lk (tb_X7_firstFault) 4 = (x_cV 3 0 P_X3_startAnew 7, false) ∧ lk (tb_X7_firstFault) 7 = (x_c 8 (.int 0), false) ∧ lk (tb_X7_firstFault) 8 = (x_is 9 1, false) ∧ lk (tb_X7_firstFault) 9 = (x_il 10 1, true) ∧ lk (tb_X7_firstFault) 10 = (x_al 11 0, false) ∧ lk (tb_X7_firstFault) 11 = (x_gI 7 2 14, false) ∧ lk (tb_X7_firstFault) 14 = (x_ic 41 17 (fun x y : Int32 => y ≤ x), false) ∧ lk (tb_X7_firstFault) 17 = (x_al 18 0, false) ∧ lk (tb_X7_firstFault) 18 = (x_gR 7 1 21, false) ∧ lk (tb_X7_firstFault) 21 = (x_al 22 0, false) ∧ lk (tb_X7_firstFault) 22 = (x_gR 7 0 25, false) ∧ lk (tb_X7_firstFault) 25 = (x_il 26 1, false) ∧ lk (tb_X7_firstFault) 26 = (x_ia 27, false) ∧ lk (tb_X7_firstFault) 27 = (x_cV 3 1 P_X3_takes 30, false) ∧ lk (tb_X7_firstFault) 30 = (x_ifn 35 33 (fun x : Int32 => x = 0), false) ∧ lk (tb_X7_firstFault) 33 = (x_il 34 1, false) ∧ lk (tb_X7_firstFault) 34 = (x_rI, false) ∧ lk (tb_X7_firstFault) 35 = (x_inc 38 1 1, false) ∧ lk (tb_X7_firstFault) 38 = (x_go 9, false) ∧ lk (tb_X7_firstFault) 41 = (x_al 42 0, false) ∧ lk (tb_X7_firstFault) 42 = (x_gR 7 1 45, false) ∧ lk (tb_X7_firstFault) 45 = (x_cV 3 0 P_X3_mayEnd 48, false) ∧ lk (tb_X7_firstFault) 48 = (x_if 56 51 (fun x : Int32 => x = 0), false) ∧ lk (tb_X7_firstFault) 51 = (x_c 53 (.int (-9)), false) ∧ lk (tb_X7_firstFault) 53 = (x_go 60, false) ∧ lk (tb_X7_firstFault) 56 = (x_al 57 0, false) ∧ lk (tb_X7_firstFault) 57 = (x_gI 7 2 60, false) ∧ lk (tb_X7_firstFault) 60 = (x_rI, false) := ⟨rfl, rfl, rfl, rfl, rfl, rfl, rfl, rfl, rfl, rfl, rfl, rfl, rfl, rfl, rfl, rfl, rfl, rfl, rfl, rfl, rfl, rfl, rfl, rfl, rfl, rfl, rfl, rfl, rfl, rfl⟩
def P_X7_firstFault : PTT := fun as M R => match as with
  | [.ref k] => k = 1 ∧ IsTx M.1 ∧ IsRd M.1 3 ∧ (∃ len, TxV M.2.1 len) ∧ ∀ I', (∀ q, q ≠ 3 → q ≠ 4 → I' q = M.2.1 q) → ((flt (fun j => tn (M.2.1 2 j)) (tn (M.2.1 1 2))).1 = -9 → RdF I' (flt (fun j => tn (M.2.1 2 j)) (tn (M.2.1 1 2))).2) → R (some (.int (flt (fun j => tn (M.2.1 2 j)) (tn (M.2.1 1 2))).1)) (M.1, I', M.2.2)
  | _ => False
theorem RdR_0 {I : MI} : RdR (mS I 3 (upd (upd (upd (upd (upd (upd (I 3) 1 0) 2 0) 3 0) 4 0) 5 0) 6 0)) 0 TS0 := by
  refine ⟨rfl, fun _ => rfl, by simp [TS0], by simp [TS0], by simp [TS0], by simp [TS0], rfl, rfl, by simp [TS0]⟩
set_option maxRecDepth 20000 in
theorem ok_X7_firstFault : Ok yX7_firstFault mt_X7_firstFault P_X7_firstFault := by
  refine Ok.of (by decide) rfl rfl rfl rfl fun av ⟨S, I, L⟩ R hP => ?_
  unfold P_X7_firstFault at hP
  split at hP
  case h_2 => exact hP.elim
  rename_i k
  obtain ⟨k, rfl⟩ : ∃ q : Nat, q = k := ⟨k, rfl⟩
  refine ⟨by simp [ent, wide, mt_X7_firstFault], ?_⟩
  show J mt_X7_firstFault R 0 [some (.ref k), none] [] (S, I, L)
  try dsimp only at hP
  obtain ⟨rfl, hk, hr, ⟨len, h7, hl, hx⟩, hR⟩ := hP
  rw [hl, tn_nI (by omega)] at hR
  refine J.of tk_X7_firstFault 200 fun ρ hρ => ?_
  simp only [hρ, x_c, x_il, x_ll, x_al, x_is, x_as, x_ls, x_inc, x_ii, x_iq, x_i1, x_l2, x_lq, x_lh, x_i2l, x_l2i, x_lcmp, x_dup, x_dup2, x_pop, x_if, x_ifn, x_ic, x_icn, x_go, x_sw, swc, x_l01, x_mx, x_gI, x_gL, x_gR, x_pI, x_pZ, x_pL, x_pR, x_ia, x_za, x_aa, x_ias, x_zas, x_aas, x_fac, x_fa, x_slen, x_sa, x_ac, x_oi, x_new, x_na, x_cS, x_cV, x_cI, x_rI, x_rZ, x_rL, x_r0, pa, short, oc, lg, lset, lset2, wide, cond_true, cond_false, true_and, and_true, ↓reduceIte, Bool.false_eq_true, true_or, or_true, lf_X7_firstFault, hr, hr.f, hk.f, P_X3_startAnew]
  have key : ∀ d i (I' : MI) (s : TS), i + d = len → (∀ q, q ≠ 3 → q ≠ 4 → I' q = I q) → RdR I' i s → TSok s → (fltR (fun j => tn (I 2 j)) len d i s = flt (fun j => tn (I 2 j)) len) → J mt_X7_firstFault R 9 [some (.ref 1), some (.int (nI i))] [] (S, I', L) := by
    intro d
    induction d with
    | zero =>
      intro i I' s hi hf hs hok he
      have e1 : I' 1 2 = nI len := by rw [hf 1 (by omega) (by omega)]; exact hl
      refine J.of tk_X7_firstFault 200 fun ρ hρ => ?_
      simp only [hρ, x_c, x_il, x_ll, x_al, x_is, x_as, x_ls, x_inc, x_ii, x_iq, x_i1, x_l2, x_lq, x_lh, x_i2l, x_l2i, x_lcmp, x_dup, x_dup2, x_pop, x_if, x_ifn, x_ic, x_icn, x_go, x_sw, swc, x_l01, x_mx, x_gI, x_gL, x_gR, x_pI, x_pZ, x_pL, x_pR, x_ia, x_za, x_aa, x_ias, x_zas, x_aas, x_fac, x_fa, x_slen, x_sa, x_ac, x_oi, x_new, x_na, x_cS, x_cV, x_cI, x_rI, x_rZ, x_rL, x_r0, pa, short, oc, lg, lset, lset2, wide, cond_true, cond_false, true_and, and_true, ↓reduceIte, Bool.false_eq_true, true_or, or_true, lf_X7_firstFault, hr, hr.f, hk.f, e1, nI_leI (show len < 2 ^ 31 by omega) (show i < 2 ^ 31 by omega), P_X3_mayEnd, bI_0]
      refine ⟨fun _ => ⟨fun h => ?_, fun h => ?_⟩, fun h => absurd h (by omega)⟩
      · have h3 : ¬ s.1 = 3 := by
          intro q
          obtain ⟨r0, r1, r2, r3, r4, r5, r6, r7, r8⟩ := hs
          refine h ⟨?_, by rw [r7]; simp [q]⟩
          rw [r0, show (2 : Int32) = nI 2 by decide, nI_leI (by omega) (by omega)]
          have := r2 (by omega)
          omega
        have h2 := hR I' hf (by
          rw [← he]; simp only [fltR]; rw [if_neg h3]
          intro e
          have := congrArg Int32.toInt e
          rw [nI_toInt (by omega)] at this
          have h9 : (-9 : Int32).toInt = -9 := by decide
          omega)
        rw [← he] at h2
        simp only [fltR] at h2
        rwa [if_neg h3] at h2
      · have h3 : s.1 = 3 := by
          obtain ⟨r0, r1, r2, r3, r4, r5, r6, r7, r8⟩ := hs
          have h := Classical.not_not.mp h
          rw [r0, show (2 : Int32) = nI 2 by decide, nI_leI (by omega) (by omega), r7] at h
          have h4 : ¬ s.1 = 4 := by
            intro q
            rw [if_pos q] at h
            exact absurd h.2 (by decide)
          have := hok.1
          have : ¬ s.1 < 3 := fun q => by have := r1 q; omega
          omega
        have h2 := hR I' hf (by
          rw [← he]; simp only [fltR]; intro _; exact hs.F h3)
        rw [← he] at h2
        simp only [fltR] at h2
        rwa [if_pos h3] at h2
    | succ d ih =>
      intro i I' s hi hf hs hok he
      have e1 : I' 1 2 = nI len := by rw [hf 1 (by omega) (by omega)]; exact hl
      have e2 : I' 2 i = nI (tn (I 2 i)) := by rw [hf 2 (by omega) (by omega), nI_tn]
      refine J.of tk_X7_firstFault 200 fun ρ hρ => ?_
      simp only [hρ, x_c, x_il, x_ll, x_al, x_is, x_as, x_ls, x_inc, x_ii, x_iq, x_i1, x_l2, x_lq, x_lh, x_i2l, x_l2i, x_lcmp, x_dup, x_dup2, x_pop, x_if, x_ifn, x_ic, x_icn, x_go, x_sw, swc, x_l01, x_mx, x_gI, x_gL, x_gR, x_pI, x_pZ, x_pL, x_pR, x_ia, x_za, x_aa, x_ias, x_zas, x_aas, x_fac, x_fa, x_slen, x_sa, x_ac, x_oi, x_new, x_na, x_cS, x_cV, x_cI, x_rI, x_rZ, x_rL, x_r0, pa, short, oc, lg, lset, lset2, wide, cond_true, cond_false, true_and, and_true, ↓reduceIte, Bool.false_eq_true, true_or, or_true, lf_X7_firstFault, hr, hr.f, hk.f, e1, nI_leI (show len < 2 ^ 31 by omega) (show i < 2 ^ 31 by omega), P_X3_takes, ncl (show i < 2 ^ 31 by omega), nI_1]
      refine ⟨fun h => absurd h (by omega), fun _ => ⟨vp_in_nI (by omega) (by omega), i, s, tn (I 2 i), hs, hok, by omega, e2, hx i (by omega), fun hn I2 hf2 => ?_, fun s' hn I2 hf2 hs2 => ?_⟩⟩
      · have hf3 : ∀ q, q ≠ 3 → q ≠ 4 → I2 q = I q := fun q a b => (hf2 q a b).trans (hf q a b)
        have h2 := hR I2 hf3 (by
          rw [← he]; simp only [fltR]; rw [hn]
          intro e
          have := congrArg Int32.toInt e
          simp only at this
          rw [nI_toInt (by omega)] at this
          have h9 : (-9 : Int32).toInt = -9 := by decide
          omega)
        rw [← he] at h2
        simp only [fltR] at h2
        rw [hn] at h2
        exact ⟨fun h => absurd trivial h, fun _ => h2⟩
      · have hf3 : ∀ q, q ≠ 3 → q ≠ 4 → I2 q = I q := fun q a b => (hf2 q a b).trans (hf q a b)
        have h2 := ih (i + 1) I2 s' (by omega) hf3 hs2 (TSok_s hok hn) (by rw [← he]; simp only [fltR]; rw [hn])
        exact ⟨fun _ => h2, fun h => absurd h (by decide)⟩
  exact key len 0 _ TS0 (by omega) (fun q h3 h4 => mS_n h3) RdR_0 TSok_0 rfl
end
section
/-! DECODER, at 15 (order 16, q 17) -/
/-- apart from the decoder -/
def ap15 (k : Nat) : Prop := k + 5 ≤ 15 ∨ 18 ≤ k
def IsDc (S : Sh) : Prop := tO S 15 1 ∧ sR S 15 0 = 16 ∧ sR S 15 1 = 17 ∧ tA S 16 1 ∧ ln S 16 = 6 ∧ tA S 17 1 ∧ ln S 17 = 9
theorem IsDc.f {S : Sh} (h : IsDc S) : tO S 15 1 ∧ sR S 15 0 = 16 ∧ sR S 15 1 = 17 ∧ tA S 16 1 ∧ ln S 16 = 6 ∧ tA S 17 1 ∧ ln S 17 = 9 := h
theorem dj {k : Nat} (h : k + 5 ≤ 15 ∨ 18 ≤ k) : (((k = 15) = False) ∧ ((k + 1 = 15) = False) ∧ ((k + 2 = 15) = False) ∧ ((k + 3 = 15) = False) ∧ ((k + 4 = 15) = False)) ∧ (((k = 16) = False) ∧ ((k + 1 = 16) = False) ∧ ((k + 2 = 16) = False) ∧ ((k + 3 = 16) = False) ∧ ((k + 4 = 16) = False)) ∧ (((k = 17) = False) ∧ ((k + 1 = 17) = False) ∧ ((k + 2 = 17) = False) ∧ ((k + 3 = 17) = False) ∧ ((k + 4 = 17) = False)) ∧ (((15 = k) = False) ∧ ((15 = k + 1) = False) ∧ ((15 = k + 2) = False) ∧ ((15 = k + 3) = False) ∧ ((15 = k + 4) = False)) ∧ (((16 = k) = False) ∧ ((16 = k + 1) = False) ∧ ((16 = k + 2) = False) ∧ ((16 = k + 3) = False) ∧ ((16 = k + 4) = False)) ∧ (((17 = k) = False) ∧ ((17 = k + 1) = False) ∧ ((17 = k + 2) = False) ∧ ((17 = k + 3) = False) ∧ ((17 = k + 4) = False)) := by
  refine ⟨⟨?_, ?_, ?_, ?_, ?_⟩, ⟨?_, ?_, ?_, ?_, ?_⟩, ⟨?_, ?_, ?_, ?_, ?_⟩, ⟨?_, ?_, ?_, ?_, ?_⟩, ⟨?_, ?_, ?_, ?_, ?_⟩, ⟨?_, ?_, ?_, ?_, ?_⟩⟩ <;> exact eq_false (by omega)
theorem mS_sw {α : Type} {p q : Nat} (h : p ≠ q) (X : Nat → α) (a b : α) : mS (mS X p a) q b = mS (mS X q b) p a := by
  funext z
  simp only [mS]
  by_cases h1 : z = q
  · subst h1; simp [Ne.symm h]
  · by_cases h2 : z = p
    · subst h2; simp [h]
    · simp [h1, h2]
theorem sw1517 (X : MI) (a b : Nat → Int32) : mS (mS X 15 a) 17 b = mS (mS X 17 b) 15 a := mS_sw (by decide) X a b
def hld (v lo hi : Int32) : Int32 := if lo ≤ v then (if v ≤ hi then v else hi) else lo
def il_X9_held : List (Nat × Instr × Nat) := [(0, .iload_n 0, 1), (1, .iload_n 1, 1), (2, .if_icmp .ge 7, 3), (5, .iload_n 1, 1), (6, .goto 13, 3), (9, .iload_n 0, 1), (10, .iload_n 2, 1), (11, .if_icmp .le 7, 3), (14, .iload_n 2, 1), (15, .goto 4, 3), (18, .iload_n 0, 1), (19, .ireturn, 1)]
def mt_X9_held : Mt := (cX9_held, RX9, 3, (some .int), ({ frames := 0, cells := 0, slots := 0, locals := 0 } : Room), false, none, none)
set_option maxRecDepth 100000 in
theorem dl_X9_held : ∀ q ∈ il_X9_held, decode (mt_X9_held).1 q.1 = .ok q.2 := by decide +kernel
def tb_X9_held : Tb := [(0, x_il 1 0, false),
  (1, x_il 2 1, false),
  (2, x_ic 9 5 (fun x y : Int32 => y ≤ x), false),
  (5, x_il 6 1, false),
  (6, x_go 19, false),
  (9, x_il 10 0, false),
  (10, x_il 11 2, false),
  (11, x_ic 18 14 (fun x y : Int32 => x ≤ y), false),
  (14, x_il 15 2, false),
  (15, x_go 19, false),
  (18, x_il 19 0, false),
  (19, x_rI, false)]
set_option maxRecDepth 100000 in
theorem tk_X9_held : TbOk (mt_X9_held) (tb_X9_held) :=
  tkc (s_iload_n (at_ dl_X9_held 0 (ins := .iload_n 0) rfl)) (
  tkc (s_iload_n (at_ dl_X9_held 1 (ins := .iload_n 1) rfl)) (
  tkc (s_ic_ge (at_ dl_X9_held 2 (ins := .if_icmp .ge 7) rfl) (by decide)) (
  tkc (s_iload_n (at_ dl_X9_held 3 (ins := .iload_n 1) rfl)) (
  tkc (s_goto (at_ dl_X9_held 4 (ins := .goto 13) rfl) (by decide)) (
  tkc (s_iload_n (at_ dl_X9_held 5 (ins := .iload_n 0) rfl)) (
  tkc (s_iload_n (at_ dl_X9_held 6 (ins := .iload_n 2) rfl)) (
  tkc (s_ic_le (at_ dl_X9_held 7 (ins := .if_icmp .le 7) rfl) (by decide)) (
  tkc (s_iload_n (at_ dl_X9_held 8 (ins := .iload_n 2) rfl)) (
  tkc (s_goto (at_ dl_X9_held 9 (ins := .goto 4) rfl) (by decide)) (
  tkc (s_iload_n (at_ dl_X9_held 10 (ins := .iload_n 0) rfl)) (
  tkc (s_rI (at_ dl_X9_held 11 (ins := .ireturn) rfl) rfl) ( tk0))))))))))))
theorem lf_X9_held : lk (tb_X9_held) 0 = (x_il 1 0, false) ∧ lk (tb_X9_held) 1 = (x_il 2 1, false) ∧ lk (tb_X9_held) 2 = (x_ic 9 5 (fun x y : Int32 => y ≤ x), false) ∧ lk (tb_X9_held) 5 = (x_il 6 1, false) ∧ lk (tb_X9_held) 6 = (x_go 19, false) ∧ lk (tb_X9_held) 9 = (x_il 10 0, false) ∧ lk (tb_X9_held) 10 = (x_il 11 2, false) ∧ lk (tb_X9_held) 11 = (x_ic 18 14 (fun x y : Int32 => x ≤ y), false) ∧ lk (tb_X9_held) 14 = (x_il 15 2, false) ∧ lk (tb_X9_held) 15 = (x_go 19, false) ∧ lk (tb_X9_held) 18 = (x_il 19 0, false) ∧ lk (tb_X9_held) 19 = (x_rI, false) := ⟨rfl, rfl, rfl, rfl, rfl, rfl, rfl, rfl, rfl, rfl, rfl, rfl⟩
def P_X9_held : PTT := fun as M R => match as with
  | [.int v, .int lo, .int hi] => R (some (.int (hld v lo hi))) M
  | _ => False
set_option maxRecDepth 20000 in
theorem ok_X9_held : Ok yX9_held mt_X9_held P_X9_held := by
  refine Ok.of (by decide) rfl rfl rfl rfl fun av ⟨S, I, L⟩ R hP => ?_
  unfold P_X9_held at hP
  split at hP
  case h_2 => exact hP.elim
  rename_i v lo hi
  refine ⟨by simp [ent, wide, mt_X9_held], ?_⟩
  show J mt_X9_held R 0 [some (.int v), some (.int lo), some (.int hi)] [] (S, I, L)
  try dsimp only at hP
  refine J.of tk_X9_held 200 fun ρ hρ => ?_
  simp only [hρ, x_c, x_il, x_ll, x_al, x_is, x_as, x_ls, x_inc, x_ii, x_iq, x_i1, x_l2, x_lq, x_lh, x_i2l, x_l2i, x_lcmp, x_dup, x_dup2, x_pop, x_if, x_ifn, x_ic, x_icn, x_go, x_sw, swc, x_l01, x_mx, x_gI, x_gL, x_gR, x_pI, x_pZ, x_pL, x_pR, x_ia, x_za, x_aa, x_ias, x_zas, x_aas, x_fac, x_fa, x_slen, x_sa, x_ac, x_oi, x_new, x_na, x_cS, x_cV, x_cI, x_rI, x_rZ, x_rL, x_r0, pa, short, oc, lg, lset, lset2, wide, cond_true, cond_false, true_and, and_true, ↓reduceIte, Bool.false_eq_true, true_or, or_true, lf_X9_held]
  unfold hld at hP
  refine ⟨fun h => ⟨fun h2 => ?_, fun h2 => ?_⟩, fun h => ?_⟩
  · rwa [if_pos h, if_pos h2] at hP
  · rwa [if_pos h, if_neg h2] at hP
  · rwa [if_neg h] at hP
def am (v : Int32) : Int32 := if 0 ≤ v then v else -v
/-- least, second, where, signs of the first i bits -/
def foS (Q : Nat → Int32) (s : Nat) : Nat → Int32 × Int32 × Int32 × Int32
  | 0 => (99, 99, -1, 0)
  | i + 1 => if s.testBit i then (if (foS Q s i).1 ≤ am (Q i) then (if (foS Q s i).2.1 ≤ am (Q i) then ((foS Q s i).1, (foS Q s i).2.1, (foS Q s i).2.2.1, (foS Q s i).2.2.2 ^^^ ushr (Q i) 31) else ((foS Q s i).1, am (Q i), (foS Q s i).2.2.1, (foS Q s i).2.2.2 ^^^ ushr (Q i) 31)) else (am (Q i), (foS Q s i).1, nI i, (foS Q s i).2.2.2 ^^^ ushr (Q i) 31)) else foS Q s i
theorem foS_a {Q : Nat → Int32} {s i : Nat} (hb : s.testBit i = true) (h1 : (foS Q s i).1 ≤ am (Q i)) (h2 : (foS Q s i).2.1 ≤ am (Q i)) : foS Q s (i + 1) = ((foS Q s i).1, (foS Q s i).2.1, (foS Q s i).2.2.1, (foS Q s i).2.2.2 ^^^ ushr (Q i) 31) := by rw [foS, if_pos hb, if_pos h1, if_pos h2]
theorem foS_b {Q : Nat → Int32} {s i : Nat} (hb : s.testBit i = true) (h1 : (foS Q s i).1 ≤ am (Q i)) (h2 : ¬ (foS Q s i).2.1 ≤ am (Q i)) : foS Q s (i + 1) = ((foS Q s i).1, am (Q i), (foS Q s i).2.2.1, (foS Q s i).2.2.2 ^^^ ushr (Q i) 31) := by rw [foS, if_pos hb, if_pos h1, if_neg h2]
theorem foS_c {Q : Nat → Int32} {s i : Nat} (hb : s.testBit i = true) (h1 : ¬ (foS Q s i).1 ≤ am (Q i)) : foS Q s (i + 1) = (am (Q i), (foS Q s i).1, nI i, (foS Q s i).2.2.2 ^^^ ushr (Q i) 31) := by rw [foS, if_pos hb, if_neg h1]
/-- q, for the bits of the check -/
def qr (Q : Nat → Int32) (s : Nat) (f : Nat → Int32) (i : Nat) : Nat → Int32 := fun b => if b < i ∧ s.testBit b = true then Q b else f b
theorem qr_0 (Q : Nat → Int32) (s : Nat) (f : Nat → Int32) : qr Q s f 0 = f := by funext b; simp [qr]
theorem qr_t {Q : Nat → Int32} {s i : Nat} (f : Nat → Int32) (h : s.testBit i = true) : upd (qr Q s f i) i (Q i) = qr Q s f (i + 1) := by
  funext b
  simp only [upd, qr]
  by_cases hb : b = i
  · subst hb; simp [h]
  · by_cases h2 : b < i
    · simp [hb, h2, show b < i + 1 by omega]
    · simp [hb, h2, show ¬ b < i + 1 by omega]
theorem qr_f {Q : Nat → Int32} {s i : Nat} (f : Nat → Int32) (h : ¬ s.testBit i = true) : qr Q s f i = qr Q s f (i + 1) := by
  funext b
  simp only [qr]
  by_cases hb : b = i
  · subst hb; simp [h]
  · by_cases h2 : b < i
    · simp [h2, show b < i + 1 by omega]
    · simp [h2, show ¬ b < i + 1 by omega]
def Qv (I : MI) (k f : Nat) : Nat → Int32 := fun b => I (k + 3) b - I (k + 4) (f + b)
def foI (I : MI) (Q : Nat → Int32) (s n : Nat) : MI := mS (mS I 17 (qr Q s (I 17) n)) 15 (upd (upd (upd (I 15) 4 (foS Q s n).2.2.1) 2 (foS Q s n).1) 3 (foS Q s n).2.1)
theorem upd_upd (f : Nat → Int32) (k : Nat) (a b : Int32) : upd (upd f k a) k b = upd f k b := by
  funext j; simp only [upd]; split <;> rfl
def il_X1_findOthers : List (Nat × Instr × Nat) := [(0, .bipush 99, 2), (2, .istore 4, 2), (4, .bipush 99, 2), (6, .istore 5, 2), (8, .iconst 0, 1), (9, .istore 6, 2), (11, .aload_n 0, 1), (12, .iconst (-1), 1), (13, .putfield 52, 3), (16, .iconst 0, 1), (17, .istore 7, 2), (19, .iload 7, 2), (21, .aload_n 1, 1), (22, .getfield 55, 3), (25, .if_icmp .ge 106, 3), (28, .iload_n 2, 1), (29, .iload 7, 2), (31, .ishr, 1), (32, .iconst 1, 1), (33, .iand, 1), (34, .ifCond .eq 91, 3), (37, .aload_n 1, 1), (38, .getfield 58, 3), (41, .iload 7, 2), (43, .iaload, 1), (44, .aload_n 1, 1), (45, .getfield 61, 3), (48, .iload_n 3, 1), (49, .iload 7, 2), (51, .iadd, 1), (52, .iaload, 1), (53, .isub, 1), (54, .istore 8, 2), (56, .iload 8, 2), (58, .ifCond .ge 9, 3), (61, .iload 8, 2), (63, .ineg, 1), (64, .goto 5, 3), (67, .iload 8, 2), (69, .istore 9, 2), (71, .aload_n 0, 1), (72, .getfield 15, 3), (75, .iload 7, 2), (77, .iload 8, 2), (79, .iastore, 1), (80, .iload 6, 2), (82, .iload 8, 2), (84, .bipush 31, 2), (86, .iushr, 1), (87, .ixor, 1), (88, .istore 6, 2), (90, .iload 9, 2), (92, .iload 4, 2), (94, .if_icmp .ge 20, 3), (97, .iload 4, 2), (99, .istore 5, 2), (101, .iload 9, 2), (103, .istore 4, 2), (105, .aload_n 0, 1), (106, .iload 7, 2), (108, .putfield 52, 3), (111, .goto 14, 3), (114, .iload 9, 2), (116, .iload 5, 2), (118, .if_icmp .ge 7, 3), (121, .iload 9, 2), (123, .istore 5, 2), (125, .iinc 7 1, 3), (128, .goto (-109), 3), (131, .aload_n 0, 1), (132, .iload 4, 2), (134, .putfield 64, 3), (137, .aload_n 0, 1), (138, .iload 5, 2), (140, .putfield 67, 3), (143, .iload 6, 2), (145, .ireturn, 1)]
def mt_X1_findOthers : Mt := (cX1_findOthers, RX1, 10, (some .int), ({ frames := 0, cells := 0, slots := 0, locals := 0 } : Room), false, none, none)
set_option maxRecDepth 100000 in
theorem dl_X1_findOthers : ∀ q ∈ il_X1_findOthers, decode (mt_X1_findOthers).1 q.1 = .ok q.2 := by decide +kernel
def tb_X1_findOthers : Tb := [(0, x_c 2 (.int 99), false),
  (2, x_is 4 4, false),
  (4, x_c 6 (.int 99), false),
  (6, x_is 8 5, false),
  (8, x_c 9 (.int 0), false),
  (9, x_is 11 6, false),
  (11, x_al 12 0, false),
  (12, x_c 13 (.int (-1)), false),
  (13, x_pI 1 4 16, false),
  (16, x_c 17 (.int 0), false),
  (17, x_is 19 7, false),
  (19, x_il 21 7, true),
  (21, x_al 22 1, false),
  (22, x_gI 5 4 25, false),
  (25, x_ic 131 28 (fun x y : Int32 => y ≤ x), false),
  (28, x_il 29 2, false),
  (29, x_il 31 7, false),
  (31, x_ii 32 (fun x y : Int32 => x >>> (y &&& 31)), false),
  (32, x_c 33 (.int 1), false),
  (33, x_ii 34 (fun x y : Int32 => x &&& y), false),
  (34, x_if 125 37 (fun x : Int32 => x = 0), false),
  (37, x_al 38 1, false),
  (38, x_gR 5 2 41, false),
  (41, x_il 43 7, false),
  (43, x_ia 44, false),
  (44, x_al 45 1, false),
  (45, x_gR 5 3 48, false),
  (48, x_il 49 3, false),
  (49, x_il 51 7, false),
  (51, x_ii 52 (fun x y : Int32 => x + y), false),
  (52, x_ia 53, false),
  (53, x_ii 54 (fun x y : Int32 => x - y), false),
  (54, x_is 56 8, false),
  (56, x_il 58 8, false),
  (58, x_if 67 61 (fun x : Int32 => 0 ≤ x), false),
  (61, x_il 63 8, false),
  (63, x_i1 64 (fun x : Int32 => -x), false),
  (64, x_go 69, false),
  (67, x_il 69 8, false),
  (69, x_is 71 9, true),
  (71, x_al 72 0, false),
  (72, x_gR 1 1 75, false),
  (75, x_il 77 7, false),
  (77, x_il 79 8, false),
  (79, x_ias 80, false),
  (80, x_il 82 6, false),
  (82, x_il 84 8, false),
  (84, x_c 86 (.int 31), false),
  (86, x_ii 87 ushr, false),
  (87, x_ii 88 (fun x y : Int32 => x ^^^ y), false),
  (88, x_is 90 6, false),
  (90, x_il 92 9, false),
  (92, x_il 94 4, false),
  (94, x_ic 114 97 (fun x y : Int32 => y ≤ x), false),
  (97, x_il 99 4, false),
  (99, x_is 101 5, false),
  (101, x_il 103 9, false),
  (103, x_is 105 4, false),
  (105, x_al 106 0, false),
  (106, x_il 108 7, false),
  (108, x_pI 1 4 111, false),
  (111, x_go 125, false),
  (114, x_il 116 9, false),
  (116, x_il 118 5, false),
  (118, x_ic 125 121 (fun x y : Int32 => y ≤ x), false),
  (121, x_il 123 9, false),
  (123, x_is 125 5, false),
  (125, x_inc 128 7 1, false),
  (128, x_go 19, false),
  (131, x_al 132 0, false),
  (132, x_il 134 4, false),
  (134, x_pI 1 2 137, false),
  (137, x_al 138 0, false),
  (138, x_il 140 5, false),
  (140, x_pI 1 3 143, false),
  (143, x_il 145 6, false),
  (145, x_rI, false)]
set_option maxRecDepth 100000 in
theorem tk_X1_findOthers : TbOk (mt_X1_findOthers) (tb_X1_findOthers) :=
  tkc (s_bipush (at_ dl_X1_findOthers 0 (ins := .bipush 99) rfl) (by first | rfl | decide)) (
  tkc (s_istore (at_ dl_X1_findOthers 1 (ins := .istore 4) rfl) (by decide)) (
  tkc (s_bipush (at_ dl_X1_findOthers 2 (ins := .bipush 99) rfl) (by first | rfl | decide)) (
  tkc (s_istore (at_ dl_X1_findOthers 3 (ins := .istore 5) rfl) (by decide)) (
  tkc (s_iconst (at_ dl_X1_findOthers 4 (ins := .iconst 0) rfl) (by first | rfl | decide)) (
  tkc (s_istore (at_ dl_X1_findOthers 5 (ins := .istore 6) rfl) (by decide)) (
  tkc (s_aload_n (at_ dl_X1_findOthers 6 (ins := .aload_n 0) rfl)) (
  tkc (s_iconst (at_ dl_X1_findOthers 7 (ins := .iconst (-1)) rfl) (by first | rfl | decide)) (
  tkc (s_pI (at_ dl_X1_findOthers 8 (ins := .putfield 52) rfl) (by decide) (by decide) (by decide) (by decide) (tg 182 (by decide +kernel) (by decide +kernel))) (
  tkc (s_iconst (at_ dl_X1_findOthers 9 (ins := .iconst 0) rfl) (by first | rfl | decide)) (
  tkc (s_istore (at_ dl_X1_findOthers 10 (ins := .istore 7) rfl) (by decide)) (
  tkc (s_iload (at_ dl_X1_findOthers 11 (ins := .iload 7) rfl)) (
  tkc (s_aload_n (at_ dl_X1_findOthers 12 (ins := .aload_n 1) rfl)) (
  tkc (s_gI (at_ dl_X1_findOthers 13 (ins := .getfield 55) rfl) (by decide) (by decide) (by decide) (tg 138 (by decide +kernel) (by decide +kernel))) (
  tkc (s_ic_ge (at_ dl_X1_findOthers 14 (ins := .if_icmp .ge 106) rfl) (by decide)) (
  tkc (s_iload_n (at_ dl_X1_findOthers 15 (ins := .iload_n 2) rfl)) (
  tkc (s_iload (at_ dl_X1_findOthers 16 (ins := .iload 7) rfl)) (
  tkc (s_ishr (at_ dl_X1_findOthers 17 (ins := .ishr) rfl)) (
  tkc (s_iconst (at_ dl_X1_findOthers 18 (ins := .iconst 1) rfl) (by first | rfl | decide)) (
  tkc (s_iand (at_ dl_X1_findOthers 19 (ins := .iand) rfl)) (
  tkc (s_if_eq (at_ dl_X1_findOthers 20 (ins := .ifCond .eq 91) rfl) (by decide)) (
  tkc (s_aload_n (at_ dl_X1_findOthers 21 (ins := .aload_n 1) rfl)) (
  tkc (s_gR (at_ dl_X1_findOthers 22 (ins := .getfield 58) rfl) (by decide) (by decide) (by decide) (tg 129 (by decide +kernel) (by decide +kernel))) (
  tkc (s_iload (at_ dl_X1_findOthers 23 (ins := .iload 7) rfl)) (
  tkc (s_ia (at_ dl_X1_findOthers 24 (ins := .iaload) rfl)) (
  tkc (s_aload_n (at_ dl_X1_findOthers 25 (ins := .aload_n 1) rfl)) (
  tkc (s_gR (at_ dl_X1_findOthers 26 (ins := .getfield 61) rfl) (by decide) (by decide) (by decide) (tg 132 (by decide +kernel) (by decide +kernel))) (
  tkc (s_iload_n (at_ dl_X1_findOthers 27 (ins := .iload_n 3) rfl)) (
  tkc (s_iload (at_ dl_X1_findOthers 28 (ins := .iload 7) rfl)) (
  tkc (s_iadd (at_ dl_X1_findOthers 29 (ins := .iadd) rfl)) (
  tkc (s_ia (at_ dl_X1_findOthers 30 (ins := .iaload) rfl)) (
  tkc (s_isub (at_ dl_X1_findOthers 31 (ins := .isub) rfl)) (
  tkc (s_istore (at_ dl_X1_findOthers 32 (ins := .istore 8) rfl) (by decide)) (
  tkc (s_iload (at_ dl_X1_findOthers 33 (ins := .iload 8) rfl)) (
  tkc (s_if_ge (at_ dl_X1_findOthers 34 (ins := .ifCond .ge 9) rfl) (by decide)) (
  tkc (s_iload (at_ dl_X1_findOthers 35 (ins := .iload 8) rfl)) (
  tkc (s_ineg (at_ dl_X1_findOthers 36 (ins := .ineg) rfl)) (
  tkc (s_goto (at_ dl_X1_findOthers 37 (ins := .goto 5) rfl) (by decide)) (
  tkc (s_iload (at_ dl_X1_findOthers 38 (ins := .iload 8) rfl)) (
  tkc (s_istore (at_ dl_X1_findOthers 39 (ins := .istore 9) rfl) (by decide)) (
  tkc (s_aload_n (at_ dl_X1_findOthers 40 (ins := .aload_n 0) rfl)) (
  tkc (s_gR (at_ dl_X1_findOthers 41 (ins := .getfield 15) rfl) (by decide) (by decide) (by decide) (tg 179 (by decide +kernel) (by decide +kernel))) (
  tkc (s_iload (at_ dl_X1_findOthers 42 (ins := .iload 7) rfl)) (
  tkc (s_iload (at_ dl_X1_findOthers 43 (ins := .iload 8) rfl)) (
  tkc (s_ias (at_ dl_X1_findOthers 44 (ins := .iastore) rfl)) (
  tkc (s_iload (at_ dl_X1_findOthers 45 (ins := .iload 6) rfl)) (
  tkc (s_iload (at_ dl_X1_findOthers 46 (ins := .iload 8) rfl)) (
  tkc (s_bipush (at_ dl_X1_findOthers 47 (ins := .bipush 31) rfl) (by first | rfl | decide)) (
  tkc (s_iushr (at_ dl_X1_findOthers 48 (ins := .iushr) rfl)) (
  tkc (s_ixor (at_ dl_X1_findOthers 49 (ins := .ixor) rfl)) (
  tkc (s_istore (at_ dl_X1_findOthers 50 (ins := .istore 6) rfl) (by decide)) (
  tkc (s_iload (at_ dl_X1_findOthers 51 (ins := .iload 9) rfl)) (
  tkc (s_iload (at_ dl_X1_findOthers 52 (ins := .iload 4) rfl)) (
  tkc (s_ic_ge (at_ dl_X1_findOthers 53 (ins := .if_icmp .ge 20) rfl) (by decide)) (
  tkc (s_iload (at_ dl_X1_findOthers 54 (ins := .iload 4) rfl)) (
  tkc (s_istore (at_ dl_X1_findOthers 55 (ins := .istore 5) rfl) (by decide)) (
  tkc (s_iload (at_ dl_X1_findOthers 56 (ins := .iload 9) rfl)) (
  tkc (s_istore (at_ dl_X1_findOthers 57 (ins := .istore 4) rfl) (by decide)) (
  tkc (s_aload_n (at_ dl_X1_findOthers 58 (ins := .aload_n 0) rfl)) (
  tkc (s_iload (at_ dl_X1_findOthers 59 (ins := .iload 7) rfl)) (
  tkc (s_pI (at_ dl_X1_findOthers 60 (ins := .putfield 52) rfl) (by decide) (by decide) (by decide) (by decide) (tg 182 (by decide +kernel) (by decide +kernel))) (
  tkc (s_goto (at_ dl_X1_findOthers 61 (ins := .goto 14) rfl) (by decide)) (
  tkc (s_iload (at_ dl_X1_findOthers 62 (ins := .iload 9) rfl)) (
  tkc (s_iload (at_ dl_X1_findOthers 63 (ins := .iload 5) rfl)) (
  tkc (s_ic_ge (at_ dl_X1_findOthers 64 (ins := .if_icmp .ge 7) rfl) (by decide)) (
  tkc (s_iload (at_ dl_X1_findOthers 65 (ins := .iload 9) rfl)) (
  tkc (s_istore (at_ dl_X1_findOthers 66 (ins := .istore 5) rfl) (by decide)) (
  tkc (s_iinc (at_ dl_X1_findOthers 67 (ins := .iinc 7 1) rfl) (by decide) (by first | rfl | decide)) (
  tkc (s_goto (at_ dl_X1_findOthers 68 (ins := .goto (-109)) rfl) (by decide)) (
  tkc (s_aload_n (at_ dl_X1_findOthers 69 (ins := .aload_n 0) rfl)) (
  tkc (s_iload (at_ dl_X1_findOthers 70 (ins := .iload 4) rfl)) (
  tkc (s_pI (at_ dl_X1_findOthers 71 (ins := .putfield 64) rfl) (by decide) (by decide) (by decide) (by decide) (tg 180 (by decide +kernel) (by decide +kernel))) (
  tkc (s_aload_n (at_ dl_X1_findOthers 72 (ins := .aload_n 0) rfl)) (
  tkc (s_iload (at_ dl_X1_findOthers 73 (ins := .iload 5) rfl)) (
  tkc (s_pI (at_ dl_X1_findOthers 74 (ins := .putfield 67) rfl) (by decide) (by decide) (by decide) (by decide) (tg 181 (by decide +kernel) (by decide +kernel))) (
  tkc (s_iload (at_ dl_X1_findOthers 75 (ins := .iload 6) rfl)) (
  tkc (s_rI (at_ dl_X1_findOthers 76 (ins := .ireturn) rfl) rfl) ( tk0)))))))))))))))))))))))))))))))))))))))))))))))))))))))))))))))))))))))))))))
theorem lf_X1_findOthers : lk (tb_X1_findOthers) 0 = (x_c 2 (.int 99), false) ∧ lk (tb_X1_findOthers) 2 = (x_is 4 4, false) ∧ lk (tb_X1_findOthers) 4 = (x_c 6 (.int 99), false) ∧ lk (tb_X1_findOthers) 6 = (x_is 8 5, false) ∧ lk (tb_X1_findOthers) 8 = (x_c 9 (.int 0), false) ∧ lk (tb_X1_findOthers) 9 = (x_is 11 6, false) ∧ lk (tb_X1_findOthers) 11 = (x_al 12 0, false) ∧ lk (tb_X1_findOthers) 12 = (x_c 13 (.int (-1)), false) ∧ lk (tb_X1_findOthers) 13 = (x_pI 1 4 16, false) ∧ lk (tb_X1_findOthers) 16 = (x_c 17 (.int 0), false) ∧ lk (tb_X1_findOthers) 17 = (x_is 19 7, false) ∧ lk (tb_X1_findOthers) 19 = (x_il 21 7, true) ∧ lk (tb_X1_findOthers) 21 = (x_al 22 1, false) ∧ lk (tb_X1_findOthers) 22 = (x_gI 5 4 25, false) ∧ lk (tb_X1_findOthers) 25 = (x_ic 131 28 (fun x y : Int32 => y ≤ x), false) ∧ lk (tb_X1_findOthers) 28 = (x_il 29 2, false) ∧ lk (tb_X1_findOthers) 29 = (x_il 31 7, false) ∧ lk (tb_X1_findOthers) 31 = (x_ii 32 (fun x y : Int32 => x >>> (y &&& 31)), false) ∧ lk (tb_X1_findOthers) 32 = (x_c 33 (.int 1), false) ∧ lk (tb_X1_findOthers) 33 = (x_ii 34 (fun x y : Int32 => x &&& y), false) ∧ lk (tb_X1_findOthers) 34 = (x_if 125 37 (fun x : Int32 => x = 0), false) ∧ lk (tb_X1_findOthers) 37 = (x_al 38 1, false) ∧ lk (tb_X1_findOthers) 38 = (x_gR 5 2 41, false) ∧ lk (tb_X1_findOthers) 41 = (x_il 43 7, false) ∧ lk (tb_X1_findOthers) 43 = (x_ia 44, false) ∧ lk (tb_X1_findOthers) 44 = (x_al 45 1, false) ∧ lk (tb_X1_findOthers) 45 = (x_gR 5 3 48, false) ∧ lk (tb_X1_findOthers) 48 = (x_il 49 3, false) ∧ lk (tb_X1_findOthers) 49 = (x_il 51 7, false) ∧ lk (tb_X1_findOthers) 51 = (x_ii 52 (fun x y : Int32 => x + y), false) ∧ lk (tb_X1_findOthers) 52 = (x_ia 53, false) ∧ lk (tb_X1_findOthers) 53 = (x_ii 54 (fun x y : Int32 => x - y), false) ∧ lk (tb_X1_findOthers) 54 = (x_is 56 8, false) ∧ lk (tb_X1_findOthers) 56 = (x_il 58 8, false) ∧ lk (tb_X1_findOthers) 58 = (x_if 67 61 (fun x : Int32 => 0 ≤ x), false) ∧ lk (tb_X1_findOthers) 61 = (x_il 63 8, false) ∧ lk (tb_X1_findOthers) 63 = (x_i1 64 (fun x : Int32 => -x), false) ∧ lk (tb_X1_findOthers) 64 = (x_go 69, false) ∧ lk (tb_X1_findOthers) 67 = (x_il 69 8, false) ∧ lk (tb_X1_findOthers) 69 = (x_is 71 9, true) ∧ lk (tb_X1_findOthers) 71 = (x_al 72 0, false) ∧ lk (tb_X1_findOthers) 72 = (x_gR 1 1 75, false) ∧ lk (tb_X1_findOthers) 75 = (x_il 77 7, false) ∧ lk (tb_X1_findOthers) 77 = (x_il 79 8, false) ∧ lk (tb_X1_findOthers) 79 = (x_ias 80, false) ∧ lk (tb_X1_findOthers) 80 = (x_il 82 6, false) ∧ lk (tb_X1_findOthers) 82 = (x_il 84 8, false) ∧ lk (tb_X1_findOthers) 84 = (x_c 86 (.int 31), false) ∧ lk (tb_X1_findOthers) 86 = (x_ii 87 ushr, false) ∧ lk (tb_X1_findOthers) 87 = (x_ii 88 (fun x y : Int32 => x ^^^ y), false) ∧ lk (tb_X1_findOthers) 88 = (x_is 90 6, false) ∧ lk (tb_X1_findOthers) 90 = (x_il 92 9, false) ∧ lk (tb_X1_findOthers) 92 = (x_il 94 4, false) ∧ lk (tb_X1_findOthers) 94 = (x_ic 114 97 (fun x y : Int32 => y ≤ x), false) ∧ lk (tb_X1_findOthers) 97 = (x_il 99 4, false) ∧ lk (tb_X1_findOthers) 99 = (x_is 101 5, false) ∧ lk (tb_X1_findOthers) 101 = (x_il 103 9, false) ∧ lk (tb_X1_findOthers) 103 = (x_is 105 4, false) ∧ lk (tb_X1_findOthers) 105 = (x_al 106 0, false) ∧ lk (tb_X1_findOthers) 106 = (x_il 108 7, false) ∧ lk (tb_X1_findOthers) 108 = (x_pI 1 4 111, false) ∧ lk (tb_X1_findOthers) 111 = (x_go 125, false) ∧ lk (tb_X1_findOthers) 114 = (x_il 116 9, false) ∧ lk (tb_X1_findOthers) 116 = (x_il 118 5, false) ∧ lk (tb_X1_findOthers) 118 = (x_ic 125 121 (fun x y : Int32 => y ≤ x), false) ∧ lk (tb_X1_findOthers) 121 = (x_il 123 9, false) ∧ lk (tb_X1_findOthers) 123 = (x_is 125 5, false) ∧ lk (tb_X1_findOthers) 125 = (x_inc 128 7 1, false) ∧ lk (tb_X1_findOthers) 128 = (x_go 19, false) ∧ lk (tb_X1_findOthers) 131 = (x_al 132 0, false) ∧ lk (tb_X1_findOthers) 132 = (x_il 134 4, false) ∧ lk (tb_X1_findOthers) 134 = (x_pI 1 2 137, false) ∧ lk (tb_X1_findOthers) 137 = (x_al 138 0, false) ∧ lk (tb_X1_findOthers) 138 = (x_il 140 5, false) ∧ lk (tb_X1_findOthers) 140 = (x_pI 1 3 143, false) ∧ lk (tb_X1_findOthers) 143 = (x_il 145 6, false) ∧ lk (tb_X1_findOthers) 145 = (x_rI, false) := ⟨rfl, rfl, rfl, rfl, rfl, rfl, rfl, rfl, rfl, rfl, rfl, rfl, rfl, rfl, rfl, rfl, rfl, rfl, rfl, rfl, rfl, rfl, rfl, rfl, rfl, rfl, rfl, rfl, rfl, rfl, rfl, rfl, rfl, rfl, rfl, rfl, rfl, rfl, rfl, rfl, rfl, rfl, rfl, rfl, rfl, rfl, rfl, rfl, rfl, rfl, rfl, rfl, rfl, rfl, rfl, rfl, rfl, rfl, rfl, rfl, rfl, rfl, rfl, rfl, rfl, rfl, rfl, rfl, rfl, rfl, rfl, rfl, rfl, rfl, rfl, rfl, rfl⟩
def P_X1_findOthers : PTT := fun as M R => match as with
  | [.ref d, .ref k, .int ov, .int fr] => d = 15 ∧ IsDc M.1 ∧ IsSt M.1 k ∧ ap15 k ∧ (∃ n, n ≤ 9 ∧ M.2.1 k 4 = nI n) ∧ tn ov < 512 ∧ (∃ c, c < 6 ∧ fr = nI (9 * c)) ∧
      R (some (.int (foS (Qv M.2.1 k (tn fr)) (tn ov) (tn (M.2.1 k 4))).2.2.2)) (M.1, foI M.2.1 (Qv M.2.1 k (tn fr)) (tn ov) (tn (M.2.1 k 4)), M.2.2)
  | _ => False
theorem bit_c {s b : Nat} (hs : s < 2 ^ 31) (hb : b < 31) : ((nI s >>> (nI b &&& 31)) &&& 1 = 0) ↔ ¬ s.testBit b = true := by
  rw [bitAt hs hb]
  cases s.testBit b <;> decide
theorem tn_ex {x : Int32} {N : Nat} (h : tn x < N) : ∃ s, s < N ∧ x = nI s := ⟨tn x, h, (nI_tn x).symm⟩
set_option maxRecDepth 20000 in
theorem ok_X1_findOthers : Ok yX1_findOthers mt_X1_findOthers P_X1_findOthers := by
  refine Ok.of (by decide) rfl rfl rfl rfl fun av ⟨S, I, L⟩ R hP => ?_
  unfold P_X1_findOthers at hP
  split at hP
  case h_2 => exact hP.elim
  rename_i d k ov fr
  obtain ⟨d, rfl⟩ : ∃ q : Nat, q = d := ⟨d, rfl⟩
  obtain ⟨k, rfl⟩ : ∃ q : Nat, q = k := ⟨k, rfl⟩
  refine ⟨by simp [ent, wide, mt_X1_findOthers], ?_⟩
  show J mt_X1_findOthers R 0 [some (.ref d), some (.ref k), some (.int ov), some (.int fr), none, none, none, none, none, none] [] (S, I, L)
  try dsimp only at hP
  obtain ⟨rfl, hd, hk, hj, ⟨n, h9, hn⟩, hov, ⟨c, hc, rfl⟩, hR⟩ := hP
  obtain ⟨s, hs, rfl⟩ := tn_ex hov
  rw [hn, tn_nI (n := n) (by omega), tn_nI (n := 9 * c) (by omega), tn_nI (n := s) (by omega)] at hR
  generalize hQ : Qv I k (9 * c) = Q at hR
  refine J.of tk_X1_findOthers 200 fun ρ hρ => ?_
  simp only [hρ, x_c, x_il, x_ll, x_al, x_is, x_as, x_ls, x_inc, x_ii, x_iq, x_i1, x_l2, x_lq, x_lh, x_i2l, x_l2i, x_lcmp, x_dup, x_dup2, x_pop, x_if, x_ifn, x_ic, x_icn, x_go, x_sw, swc, x_l01, x_mx, x_gI, x_gL, x_gR, x_pI, x_pZ, x_pL, x_pR, x_ia, x_za, x_aa, x_ias, x_zas, x_aas, x_fac, x_fa, x_slen, x_sa, x_ac, x_oi, x_new, x_na, x_cS, x_cV, x_cI, x_rI, x_rZ, x_rL, x_r0, pa, short, oc, lg, lset, lset2, wide, cond_true, cond_false, true_and, and_true, ↓reduceIte, Bool.false_eq_true, true_or, or_true, lf_X1_findOthers, hd.f, mS_app, Nat.reduceEqDiff]
  have key := up (P := fun i => J mt_X1_findOthers R 19 [some (.ref 15), some (.ref k), some (.int (nI s)), some (.int (nI (9 * c))), some (.int (foS Q s i).1), some (.int (foS Q s i).2.1), some (.int (foS Q s i).2.2.2), some (.int (nI i)), none, none] [] (S, mS (mS I 17 (qr Q s (I 17) i)) 15 (upd (I 15) 4 (foS Q s i).2.2.1), L)) (n := n) (fun i hi ih => ?_) 0 (Nat.zero_le _)
  · rw [qr_0, mS_id] at key
    exact key
  refine J.of tk_X1_findOthers 200 fun ρ hρ => ?_
  simp only [hρ, x_c, x_il, x_ll, x_al, x_is, x_as, x_ls, x_inc, x_ii, x_iq, x_i1, x_l2, x_lq, x_lh, x_i2l, x_l2i, x_lcmp, x_dup, x_dup2, x_pop, x_if, x_ifn, x_ic, x_icn, x_go, x_sw, swc, x_l01, x_mx, x_gI, x_gL, x_gR, x_pI, x_pZ, x_pL, x_pR, x_ia, x_za, x_aa, x_ias, x_zas, x_aas, x_fac, x_fa, x_slen, x_sa, x_ac, x_oi, x_new, x_na, x_cS, x_cV, x_cI, x_rI, x_rZ, x_rL, x_r0, pa, short, oc, lg, lset, lset2, wide, cond_true, cond_false, true_and, and_true, ↓reduceIte, Bool.false_eq_true, true_or, or_true, lf_X1_findOthers, hd.f, hk.f, hn, nI_leI (show n < 2 ^ 31 by omega) (show i < 2 ^ 31 by omega), mS_app, Nat.reduceEqDiff, dj hj, bit_c (show s < 2 ^ 31 by omega) (show i < 31 by omega), Classical.not_not, nI_add, ncl (show i < 2 ^ 31 by omega), ncl (show 9 * c + i < 2 ^ 31 by omega), nI_1, mS_ss, upd_upd]
  refine ⟨fun h => ?_, fun h => ⟨fun hb => ?_, fun hb => ?_⟩⟩
  · have : i = n := by omega
    subst this
    exact hR
  · have := ih (by omega)
    rw [← qr_f (I 17) hb, show foS Q s (i + 1) = foS Q s i by simp only [foS]; rw [if_neg hb]] at this
    exact this
  · have hv1 : vp_in (nI i) 9 := vp_in_nI (by omega) (by omega)
    have hv2 : vp_in (nI (9 * c + i)) 54 := vp_in_nI (by omega) (by omega)
    have hq : I (k + 3) i - I (k + 4) (9 * c + i) = Q i := by rw [← hQ]; rfl
    rw [hq]
    have k69 : J mt_X1_findOthers R 69 [some (.ref 15), some (.ref k), some (.int (nI s)), some (.int (nI (9 * c))), some (.int (foS Q s i).1), some (.int (foS Q s i).2.1), some (.int (foS Q s i).2.2.2), some (.int (nI i)), some (.int (Q i)), none] [.int (am (Q i))] (S, mS (mS I 17 (qr Q s (I 17) i)) 15 (upd (I 15) 4 (foS Q s i).2.2.1), L) := by
      have hw := ih (by omega)
      refine J.of tk_X1_findOthers 200 fun ρ hρ => ?_
      simp only [hρ, x_c, x_il, x_ll, x_al, x_is, x_as, x_ls, x_inc, x_ii, x_iq, x_i1, x_l2, x_lq, x_lh, x_i2l, x_l2i, x_lcmp, x_dup, x_dup2, x_pop, x_if, x_ifn, x_ic, x_icn, x_go, x_sw, swc, x_l01, x_mx, x_gI, x_gL, x_gR, x_pI, x_pZ, x_pL, x_pR, x_ia, x_za, x_aa, x_ias, x_zas, x_aas, x_fac, x_fa, x_slen, x_sa, x_ac, x_oi, x_new, x_na, x_cS, x_cV, x_cI, x_rI, x_rZ, x_rL, x_r0, pa, short, oc, lg, lset, lset2, wide, cond_true, cond_false, true_and, and_true, ↓reduceIte, Bool.false_eq_true, true_or, or_true, lf_X1_findOthers, hd.f, hk.f, mS_app, Nat.reduceEqDiff, ncl (show i < 2 ^ 31 by omega), nI_1, mS_ss, upd_upd, hv1, sw1517, qr_t (I 17) hb]
      refine ⟨fun h1 => ⟨fun h2 => ?_, fun h2 => ?_⟩, fun h1 => ?_⟩
      · rw [foS_a hb h1 h2] at hw
        exact J.weak (by simp [lsub]) hw
      · rw [foS_b hb h1 h2] at hw
        exact J.weak (by simp [lsub]) hw
      · rw [foS_c hb h1] at hw
        exact J.weak (by simp [lsub]) hw
    refine ⟨hv1, hv2, fun h0 => ?_, fun h0 => ?_⟩
    · rwa [show am (Q i) = Q i by simp [am, h0]] at k69
    · rwa [show am (Q i) = -Q i by simp [am, h0]] at k69
end
section
/-! DECODER: messages of a check -/
theorem sw34 (k : Nat) (X : MI) (a b : Nat → Int32) : mS (mS X (k + 4) a) (k + 3) b = mS (mS X (k + 3) b) (k + 4) a := mS_sw (by omega) X a b
/-- what is sent to b: by least (le), second (se), where (lb), signs, offset, q -/
def sB (le se lb off : Int32) (b : Nat) : Int32 := if nI b = lb then hld (se - off) 0 31 else hld (le - off) 0 31
def sN (le se lb off sg : Int32) (q : Nat → Int32) (b : Nat) : Int32 := if sg ^^^ ushr (q b) 31 = 0 then sB le se lb off b else -sB le se lb off b
def smT (T mu q sn : Nat → Int32) (s f i : Nat) : Nat → Int32 := fun b => if b < i ∧ s.testBit b = true ∧ ¬ mu (f + b) = sn b then hld (q b + sn b) (-99) 99 else T b
def smM (mu sn : Nat → Int32) (s f i : Nat) : Nat → Int32 := fun j => if f ≤ j ∧ j < f + i ∧ s.testBit (j - f) = true then sn (j - f) else mu j
def chg (mu sn : Nat → Int32) (s f : Nat) : Nat → Int32
  | 0 => 0
  | i + 1 => if s.testBit i = true ∧ ¬ mu (f + i) = sn i then 1 else chg mu sn s f i
theorem chg_or (mu sn : Nat → Int32) (s f : Nat) : ∀ i, chg mu sn s f i = 0 ∨ chg mu sn s f i = 1
  | 0 => Or.inl rfl
  | i + 1 => by
    simp only [chg]
    split
    · exact Or.inr rfl
    · exact chg_or mu sn s f i
theorem smT_0 (T mu q sn : Nat → Int32) (s f : Nat) : smT T mu q sn s f 0 = T := by funext b; simp [smT]
theorem smM_0 (mu sn : Nat → Int32) (s f : Nat) : smM mu sn s f 0 = mu := by
  funext j
  simp only [smM]
  rw [if_neg (by omega)]
theorem smM_at (mu sn : Nat → Int32) (s f i : Nat) : smM mu sn s f i (f + i) = mu (f + i) := by
  simp only [smM]
  rw [if_neg (by omega)]
theorem smT_t {T mu q sn : Nat → Int32} {s f i : Nat} (hb : s.testBit i = true) (h : ¬ mu (f + i) = sn i) : upd (smT T mu q sn s f i) i (hld (q i + sn i) (-99) 99) = smT T mu q sn s f (i + 1) := by
  funext b
  simp only [upd, smT]
  by_cases e : b = i
  · subst e; simp [hb, h]
  · by_cases h2 : b < i
    · simp [e, h2, show b < i + 1 by omega]
    · simp [e, h2, show ¬ b < i + 1 by omega]
theorem smT_f {T mu q sn : Nat → Int32} {s f i : Nat} (h : ¬ (s.testBit i = true ∧ ¬ mu (f + i) = sn i)) : smT T mu q sn s f i = smT T mu q sn s f (i + 1) := by
  funext b
  simp only [smT]
  by_cases e : b = i
  · subst e; rw [if_neg (by omega), if_neg (fun q => h q.2)]
  · by_cases h2 : b < i
    · simp [h2, show b < i + 1 by omega]
    · simp [h2, show ¬ b < i + 1 by omega]
theorem smM_t {mu sn : Nat → Int32} {s f i : Nat} (hb : s.testBit i = true) : upd (smM mu sn s f i) (f + i) (sn i) = smM mu sn s f (i + 1) := by
  funext j
  simp only [upd, smM]
  by_cases e : j = f + i
  · subst e
    rw [if_pos rfl, if_pos (by refine ⟨by omega, by omega, ?_⟩; rw [show f + i - f = i by omega]; exact hb), show f + i - f = i by omega]
  · rw [if_neg e]
    by_cases h2 : j < f + i
    · simp [h2, show j < f + (i + 1) by omega]
    · simp [h2, show ¬ j < f + (i + 1) by omega]
theorem smM_f {mu sn : Nat → Int32} {s f i : Nat} (h : ¬ (s.testBit i = true ∧ ¬ mu (f + i) = sn i)) : smM mu sn s f i = smM mu sn s f (i + 1) := by
  funext j
  simp only [smM]
  by_cases e : j = f + i
  · subst e
    rw [if_neg (by omega)]
    by_cases hb : s.testBit i = true
    · rw [if_pos (by refine ⟨by omega, by omega, ?_⟩; rw [show f + i - f = i by omega]; exact hb), show f + i - f = i by omega]
      exact Classical.not_not.mp (fun z => h ⟨hb, z⟩)
    · rw [if_neg (by rw [show f + i - f = i by omega]; exact fun z => hb z.2.2)]
  · by_cases h2 : j < f + i
    · simp [h2, show j < f + (i + 1) by omega]
    · simp [h2, show ¬ j < f + (i + 1) by omega]
def il_X1_sendMessages : List (Nat × Instr × Nat) := [(0, .iconst 0, 1), (1, .istore 5, 2), (3, .aload_n 0, 1), (4, .getfield 64, 3), (7, .aload_n 1, 1), (8, .getfield 70, 3), (11, .isub, 1), (12, .iconst 0, 1), (13, .bipush 31, 2), (15, .invokestatic 73, 3), (18, .istore 6, 2), (20, .aload_n 0, 1), (21, .getfield 67, 3), (24, .aload_n 1, 1), (25, .getfield 70, 3), (28, .isub, 1), (29, .iconst 0, 1), (30, .bipush 31, 2), (32, .invokestatic 73, 3), (35, .istore 7, 2), (37, .iconst 0, 1), (38, .istore 8, 2), (40, .iload 8, 2), (42, .aload_n 1, 1), (43, .getfield 55, 3), (46, .if_icmp .ge 108, 3), (49, .iload_n 2, 1), (50, .iload 8, 2), (52, .ishr, 1), (53, .iconst 1, 1), (54, .iand, 1), (55, .ifCond .eq 93, 3), (58, .aload_n 0, 1), (59, .getfield 15, 3), (62, .iload 8, 2), (64, .iaload, 1), (65, .istore 9, 2), (67, .iload 8, 2), (69, .aload_n 0, 1), (70, .getfield 52, 3), (73, .if_icmp .ne 8, 3), (76, .iload 7, 2), (78, .goto 5, 3), (81, .iload 6, 2), (83, .istore 10, 2), (85, .iload 4, 2), (87, .iload 9, 2), (89, .bipush 31, 2), (91, .iushr, 1), (92, .ixor, 1), (93, .ifCond .eq 8, 3), (96, .iload 10, 2), (98, .ineg, 1), (99, .istore 10, 2), (101, .aload_n 1, 1), (102, .getfield 61, 3), (105, .iload_n 3, 1), (106, .iload 8, 2), (108, .iadd, 1), (109, .iaload, 1), (110, .iload 10, 2), (112, .if_icmp .eq 36, 3), (115, .aload_n 1, 1), (116, .getfield 61, 3), (119, .iload_n 3, 1), (120, .iload 8, 2), (122, .iadd, 1), (123, .iload 10, 2), (125, .iastore, 1), (126, .aload_n 1, 1), (127, .getfield 58, 3), (130, .iload 8, 2), (132, .iload 9, 2), (134, .iload 10, 2), (136, .iadd, 1), (137, .bipush (-99), 2), (139, .bipush 99, 2), (141, .invokestatic 73, 3), (144, .iastore, 1), (145, .iconst 1, 1), (146, .istore 5, 2), (148, .iinc 8 1, 3), (151, .goto (-111), 3), (154, .iload 5, 2), (156, .ireturn, 1)]
def mt_X1_sendMessages : Mt := (cX1_sendMessages, RX1, 11, (some .boolean), ({ frames := 1, cells := 0, slots := 0, locals := 22 } : Room), false, none, none)
set_option maxRecDepth 100000 in
theorem dl_X1_sendMessages : ∀ q ∈ il_X1_sendMessages, decode (mt_X1_sendMessages).1 q.1 = .ok q.2 := by decide +kernel
def tb_X1_sendMessages : Tb := [(0, x_c 1 (.int 0), false),
  (1, x_is 3 5, false),
  (3, x_al 4 0, false),
  (4, x_gI 1 2 7, false),
  (7, x_al 8 1, false),
  (8, x_gI 5 6 11, false),
  (11, x_ii 12 (fun x y : Int32 => x - y), false),
  (12, x_c 13 (.int 0), false),
  (13, x_c 15 (.int 31), false),
  (15, x_cS 3 P_X9_held 18, false),
  (18, x_is 20 6, false),
  (20, x_al 21 0, false),
  (21, x_gI 1 3 24, false),
  (24, x_al 25 1, false),
  (25, x_gI 5 6 28, false),
  (28, x_ii 29 (fun x y : Int32 => x - y), false),
  (29, x_c 30 (.int 0), false),
  (30, x_c 32 (.int 31), false),
  (32, x_cS 3 P_X9_held 35, false),
  (35, x_is 37 7, false),
  (37, x_c 38 (.int 0), false),
  (38, x_is 40 8, false),
  (40, x_il 42 8, true),
  (42, x_al 43 1, false),
  (43, x_gI 5 4 46, false),
  (46, x_ic 154 49 (fun x y : Int32 => y ≤ x), false),
  (49, x_il 50 2, false),
  (50, x_il 52 8, false),
  (52, x_ii 53 (fun x y : Int32 => x >>> (y &&& 31)), false),
  (53, x_c 54 (.int 1), false),
  (54, x_ii 55 (fun x y : Int32 => x &&& y), false),
  (55, x_if 148 58 (fun x : Int32 => x = 0), false),
  (58, x_al 59 0, false),
  (59, x_gR 1 1 62, false),
  (62, x_il 64 8, false),
  (64, x_ia 65, false),
  (65, x_is 67 9, false),
  (67, x_il 69 8, false),
  (69, x_al 70 0, false),
  (70, x_gI 1 4 73, false),
  (73, x_icn 81 76 (fun x y : Int32 => x = y), false),
  (76, x_il 78 7, false),
  (78, x_go 83, false),
  (81, x_il 83 6, false),
  (83, x_is 85 10, true),
  (85, x_il 87 4, false),
  (87, x_il 89 9, false),
  (89, x_c 91 (.int 31), false),
  (91, x_ii 92 ushr, false),
  (92, x_ii 93 (fun x y : Int32 => x ^^^ y), false),
  (93, x_if 101 96 (fun x : Int32 => x = 0), false),
  (96, x_il 98 10, false),
  (98, x_i1 99 (fun x : Int32 => -x), false),
  (99, x_is 101 10, false),
  (101, x_al 102 1, true),
  (102, x_gR 5 3 105, false),
  (105, x_il 106 3, false),
  (106, x_il 108 8, false),
  (108, x_ii 109 (fun x y : Int32 => x + y), false),
  (109, x_ia 110, false),
  (110, x_il 112 10, false),
  (112, x_ic 148 115 (fun x y : Int32 => x = y), false),
  (115, x_al 116 1, false),
  (116, x_gR 5 3 119, false),
  (119, x_il 120 3, false),
  (120, x_il 122 8, false),
  (122, x_ii 123 (fun x y : Int32 => x + y), false),
  (123, x_il 125 10, false),
  (125, x_ias 126, false),
  (126, x_al 127 1, false),
  (127, x_gR 5 2 130, false),
  (130, x_il 132 8, false),
  (132, x_il 134 9, false),
  (134, x_il 136 10, false),
  (136, x_ii 137 (fun x y : Int32 => x + y), false),
  (137, x_c 139 (.int (-99)), false),
  (139, x_c 141 (.int 99), false),
  (141, x_cS 3 P_X9_held 144, false),
  (144, x_ias 145, false),
  (145, x_c 146 (.int 1), false),
  (146, x_is 148 5, false),
  (148, x_inc 151 8 1, false),
  (151, x_go 40, false),
  (154, x_il 156 5, false),
  (156, x_rZ, false)]
set_option maxRecDepth 100000 in
theorem tk_X1_sendMessages : TbOk (mt_X1_sendMessages) (tb_X1_sendMessages) :=
  tkc (s_iconst (at_ dl_X1_sendMessages 0 (ins := .iconst 0) rfl) (by first | rfl | decide)) (
  tkc (s_istore (at_ dl_X1_sendMessages 1 (ins := .istore 5) rfl) (by decide)) (
  tkc (s_aload_n (at_ dl_X1_sendMessages 2 (ins := .aload_n 0) rfl)) (
  tkc (s_gI (at_ dl_X1_sendMessages 3 (ins := .getfield 64) rfl) (by decide) (by decide) (by decide) (tg 180 (by decide +kernel) (by decide +kernel))) (
  tkc (s_aload_n (at_ dl_X1_sendMessages 4 (ins := .aload_n 1) rfl)) (
  tkc (s_gI (at_ dl_X1_sendMessages 5 (ins := .getfield 70) rfl) (by decide) (by decide) (by decide) (tg 147 (by decide +kernel) (by decide +kernel))) (
  tkc (s_isub (at_ dl_X1_sendMessages 6 (ins := .isub) rfl)) (
  tkc (s_iconst (at_ dl_X1_sendMessages 7 (ins := .iconst 0) rfl) (by first | rfl | decide)) (
  tkc (s_bipush (at_ dl_X1_sendMessages 8 (ins := .bipush 31) rfl) (by first | rfl | decide)) (
  tkc (s_cN ok_X9_held rfl (at_ dl_X1_sendMessages 9 (ins := .invokestatic 73) rfl) (tg 466 (by decide +kernel) (by decide +kernel)) (tg 42 (by decide +kernel) (by decide +kernel)) (tg 467 (by decide +kernel) (by decide +kernel)) (⟨by decide, by decide, by decide +kernel⟩) (⟨by decide, by decide⟩) rfl rfl) (
  tkc (s_istore (at_ dl_X1_sendMessages 10 (ins := .istore 6) rfl) (by decide)) (
  tkc (s_aload_n (at_ dl_X1_sendMessages 11 (ins := .aload_n 0) rfl)) (
  tkc (s_gI (at_ dl_X1_sendMessages 12 (ins := .getfield 67) rfl) (by decide) (by decide) (by decide) (tg 181 (by decide +kernel) (by decide +kernel))) (
  tkc (s_aload_n (at_ dl_X1_sendMessages 13 (ins := .aload_n 1) rfl)) (
  tkc (s_gI (at_ dl_X1_sendMessages 14 (ins := .getfield 70) rfl) (by decide) (by decide) (by decide) (tg 147 (by decide +kernel) (by decide +kernel))) (
  tkc (s_isub (at_ dl_X1_sendMessages 15 (ins := .isub) rfl)) (
  tkc (s_iconst (at_ dl_X1_sendMessages 16 (ins := .iconst 0) rfl) (by first | rfl | decide)) (
  tkc (s_bipush (at_ dl_X1_sendMessages 17 (ins := .bipush 31) rfl) (by first | rfl | decide)) (
  tkc (s_cN ok_X9_held rfl (at_ dl_X1_sendMessages 18 (ins := .invokestatic 73) rfl) (tg 466 (by decide +kernel) (by decide +kernel)) (tg 42 (by decide +kernel) (by decide +kernel)) (tg 467 (by decide +kernel) (by decide +kernel)) (⟨by decide, by decide, by decide +kernel⟩) (⟨by decide, by decide⟩) rfl rfl) (
  tkc (s_istore (at_ dl_X1_sendMessages 19 (ins := .istore 7) rfl) (by decide)) (
  tkc (s_iconst (at_ dl_X1_sendMessages 20 (ins := .iconst 0) rfl) (by first | rfl | decide)) (
  tkc (s_istore (at_ dl_X1_sendMessages 21 (ins := .istore 8) rfl) (by decide)) (
  tkc (s_iload (at_ dl_X1_sendMessages 22 (ins := .iload 8) rfl)) (
  tkc (s_aload_n (at_ dl_X1_sendMessages 23 (ins := .aload_n 1) rfl)) (
  tkc (s_gI (at_ dl_X1_sendMessages 24 (ins := .getfield 55) rfl) (by decide) (by decide) (by decide) (tg 138 (by decide +kernel) (by decide +kernel))) (
  tkc (s_ic_ge (at_ dl_X1_sendMessages 25 (ins := .if_icmp .ge 108) rfl) (by decide)) (
  tkc (s_iload_n (at_ dl_X1_sendMessages 26 (ins := .iload_n 2) rfl)) (
  tkc (s_iload (at_ dl_X1_sendMessages 27 (ins := .iload 8) rfl)) (
  tkc (s_ishr (at_ dl_X1_sendMessages 28 (ins := .ishr) rfl)) (
  tkc (s_iconst (at_ dl_X1_sendMessages 29 (ins := .iconst 1) rfl) (by first | rfl | decide)) (
  tkc (s_iand (at_ dl_X1_sendMessages 30 (ins := .iand) rfl)) (
  tkc (s_if_eq (at_ dl_X1_sendMessages 31 (ins := .ifCond .eq 93) rfl) (by decide)) (
  tkc (s_aload_n (at_ dl_X1_sendMessages 32 (ins := .aload_n 0) rfl)) (
  tkc (s_gR (at_ dl_X1_sendMessages 33 (ins := .getfield 15) rfl) (by decide) (by decide) (by decide) (tg 179 (by decide +kernel) (by decide +kernel))) (
  tkc (s_iload (at_ dl_X1_sendMessages 34 (ins := .iload 8) rfl)) (
  tkc (s_ia (at_ dl_X1_sendMessages 35 (ins := .iaload) rfl)) (
  tkc (s_istore (at_ dl_X1_sendMessages 36 (ins := .istore 9) rfl) (by decide)) (
  tkc (s_iload (at_ dl_X1_sendMessages 37 (ins := .iload 8) rfl)) (
  tkc (s_aload_n (at_ dl_X1_sendMessages 38 (ins := .aload_n 0) rfl)) (
  tkc (s_gI (at_ dl_X1_sendMessages 39 (ins := .getfield 52) rfl) (by decide) (by decide) (by decide) (tg 182 (by decide +kernel) (by decide +kernel))) (
  tkc (s_ic_ne (at_ dl_X1_sendMessages 40 (ins := .if_icmp .ne 8) rfl) (by decide)) (
  tkc (s_iload (at_ dl_X1_sendMessages 41 (ins := .iload 7) rfl)) (
  tkc (s_goto (at_ dl_X1_sendMessages 42 (ins := .goto 5) rfl) (by decide)) (
  tkc (s_iload (at_ dl_X1_sendMessages 43 (ins := .iload 6) rfl)) (
  tkc (s_istore (at_ dl_X1_sendMessages 44 (ins := .istore 10) rfl) (by decide)) (
  tkc (s_iload (at_ dl_X1_sendMessages 45 (ins := .iload 4) rfl)) (
  tkc (s_iload (at_ dl_X1_sendMessages 46 (ins := .iload 9) rfl)) (
  tkc (s_bipush (at_ dl_X1_sendMessages 47 (ins := .bipush 31) rfl) (by first | rfl | decide)) (
  tkc (s_iushr (at_ dl_X1_sendMessages 48 (ins := .iushr) rfl)) (
  tkc (s_ixor (at_ dl_X1_sendMessages 49 (ins := .ixor) rfl)) (
  tkc (s_if_eq (at_ dl_X1_sendMessages 50 (ins := .ifCond .eq 8) rfl) (by decide)) (
  tkc (s_iload (at_ dl_X1_sendMessages 51 (ins := .iload 10) rfl)) (
  tkc (s_ineg (at_ dl_X1_sendMessages 52 (ins := .ineg) rfl)) (
  tkc (s_istore (at_ dl_X1_sendMessages 53 (ins := .istore 10) rfl) (by decide)) (
  tkc (s_aload_n (at_ dl_X1_sendMessages 54 (ins := .aload_n 1) rfl)) (
  tkc (s_gR (at_ dl_X1_sendMessages 55 (ins := .getfield 61) rfl) (by decide) (by decide) (by decide) (tg 132 (by decide +kernel) (by decide +kernel))) (
  tkc (s_iload_n (at_ dl_X1_sendMessages 56 (ins := .iload_n 3) rfl)) (
  tkc (s_iload (at_ dl_X1_sendMessages 57 (ins := .iload 8) rfl)) (
  tkc (s_iadd (at_ dl_X1_sendMessages 58 (ins := .iadd) rfl)) (
  tkc (s_ia (at_ dl_X1_sendMessages 59 (ins := .iaload) rfl)) (
  tkc (s_iload (at_ dl_X1_sendMessages 60 (ins := .iload 10) rfl)) (
  tkc (s_ic_eq (at_ dl_X1_sendMessages 61 (ins := .if_icmp .eq 36) rfl) (by decide)) (
  tkc (s_aload_n (at_ dl_X1_sendMessages 62 (ins := .aload_n 1) rfl)) (
  tkc (s_gR (at_ dl_X1_sendMessages 63 (ins := .getfield 61) rfl) (by decide) (by decide) (by decide) (tg 132 (by decide +kernel) (by decide +kernel))) (
  tkc (s_iload_n (at_ dl_X1_sendMessages 64 (ins := .iload_n 3) rfl)) (
  tkc (s_iload (at_ dl_X1_sendMessages 65 (ins := .iload 8) rfl)) (
  tkc (s_iadd (at_ dl_X1_sendMessages 66 (ins := .iadd) rfl)) (
  tkc (s_iload (at_ dl_X1_sendMessages 67 (ins := .iload 10) rfl)) (
  tkc (s_ias (at_ dl_X1_sendMessages 68 (ins := .iastore) rfl)) (
  tkc (s_aload_n (at_ dl_X1_sendMessages 69 (ins := .aload_n 1) rfl)) (
  tkc (s_gR (at_ dl_X1_sendMessages 70 (ins := .getfield 58) rfl) (by decide) (by decide) (by decide) (tg 129 (by decide +kernel) (by decide +kernel))) (
  tkc (s_iload (at_ dl_X1_sendMessages 71 (ins := .iload 8) rfl)) (
  tkc (s_iload (at_ dl_X1_sendMessages 72 (ins := .iload 9) rfl)) (
  tkc (s_iload (at_ dl_X1_sendMessages 73 (ins := .iload 10) rfl)) (
  tkc (s_iadd (at_ dl_X1_sendMessages 74 (ins := .iadd) rfl)) (
  tkc (s_bipush (at_ dl_X1_sendMessages 75 (ins := .bipush (-99)) rfl) (by first | rfl | decide)) (
  tkc (s_bipush (at_ dl_X1_sendMessages 76 (ins := .bipush 99) rfl) (by first | rfl | decide)) (
  tkc (s_cN ok_X9_held rfl (at_ dl_X1_sendMessages 77 (ins := .invokestatic 73) rfl) (tg 466 (by decide +kernel) (by decide +kernel)) (tg 42 (by decide +kernel) (by decide +kernel)) (tg 467 (by decide +kernel) (by decide +kernel)) (⟨by decide, by decide, by decide +kernel⟩) (⟨by decide, by decide⟩) rfl rfl) (
  tkc (s_ias (at_ dl_X1_sendMessages 78 (ins := .iastore) rfl)) (
  tkc (s_iconst (at_ dl_X1_sendMessages 79 (ins := .iconst 1) rfl) (by first | rfl | decide)) (
  tkc (s_istore (at_ dl_X1_sendMessages 80 (ins := .istore 5) rfl) (by decide)) (
  tkc (s_iinc (at_ dl_X1_sendMessages 81 (ins := .iinc 8 1) rfl) (by decide) (by first | rfl | decide)) (
  tkc (s_goto (at_ dl_X1_sendMessages 82 (ins := .goto (-111)) rfl) (by decide)) (
  tkc (s_iload (at_ dl_X1_sendMessages 83 (ins := .iload 5) rfl)) (
  tkc (s_rZ (at_ dl_X1_sendMessages 84 (ins := .ireturn) rfl) rfl) ( tk0)))))))))))))))))))))))))))))))))))))))))))))))))))))))))))))))))))))))))))))))))))))
theorem lf_X1_sendMessages : lk (tb_X1_sendMessages) 0 = (x_c 1 (.int 0), false) ∧ lk (tb_X1_sendMessages) 1 = (x_is 3 5, false) ∧ lk (tb_X1_sendMessages) 3 = (x_al 4 0, false) ∧ lk (tb_X1_sendMessages) 4 = (x_gI 1 2 7, false) ∧ lk (tb_X1_sendMessages) 7 = (x_al 8 1, false) ∧ lk (tb_X1_sendMessages) 8 = (x_gI 5 6 11, false) ∧ lk (tb_X1_sendMessages) 11 = (x_ii 12 (fun x y : Int32 => x - y), false) ∧ lk (tb_X1_sendMessages) 12 = (x_c 13 (.int 0), false) ∧ lk (tb_X1_sendMessages) 13 = (x_c 15 (.int 31), false) ∧ lk (tb_X1_sendMessages) 15 = (x_cS 3 P_X9_held 18, false) ∧ lk (tb_X1_sendMessages) 18 = (x_is 20 6, false) ∧ lk (tb_X1_sendMessages) 20 = (x_al 21 0, false) ∧ lk (tb_X1_sendMessages) 21 = (x_gI 1 3 24, false) ∧ lk (tb_X1_sendMessages) 24 = (x_al 25 1, false) ∧ lk (tb_X1_sendMessages) 25 = (x_gI 5 6 28, false) ∧ lk (tb_X1_sendMessages) 28 = (x_ii 29 (fun x y : Int32 => x - y), false) ∧ lk (tb_X1_sendMessages) 29 = (x_c 30 (.int 0), false) ∧ lk (tb_X1_sendMessages) 30 = (x_c 32 (.int 31), false) ∧ lk (tb_X1_sendMessages) 32 = (x_cS 3 P_X9_held 35, false) ∧ lk (tb_X1_sendMessages) 35 = (x_is 37 7, false) ∧ lk (tb_X1_sendMessages) 37 = (x_c 38 (.int 0), false) ∧ lk (tb_X1_sendMessages) 38 = (x_is 40 8, false) ∧ lk (tb_X1_sendMessages) 40 = (x_il 42 8, true) ∧ lk (tb_X1_sendMessages) 42 = (x_al 43 1, false) ∧ lk (tb_X1_sendMessages) 43 = (x_gI 5 4 46, false) ∧ lk (tb_X1_sendMessages) 46 = (x_ic 154 49 (fun x y : Int32 => y ≤ x), false) ∧ lk (tb_X1_sendMessages) 49 = (x_il 50 2, false) ∧ lk (tb_X1_sendMessages) 50 = (x_il 52 8, false) ∧ lk (tb_X1_sendMessages) 52 = (x_ii 53 (fun x y : Int32 => x >>> (y &&& 31)), false) ∧ lk (tb_X1_sendMessages) 53 = (x_c 54 (.int 1), false) ∧ lk (tb_X1_sendMessages) 54 = (x_ii 55 (fun x y : Int32 => x &&& y), false) ∧ lk (tb_X1_sendMessages) 55 = (x_if 148 58 (fun x : Int32 => x = 0), false) ∧ lk (tb_X1_sendMessages) 58 = (x_al 59 0, false) ∧ lk (tb_X1_sendMessages) 59 = (x_gR 1 1 62, false) ∧ lk (tb_X1_sendMessages) 62 = (x_il 64 8, false) ∧ lk (tb_X1_sendMessages) 64 = (x_ia 65, false) ∧ lk (tb_X1_sendMessages) 65 = (x_is 67 9, false) ∧ lk (tb_X1_sendMessages) 67 = (x_il 69 8, false) ∧ lk (tb_X1_sendMessages) 69 = (x_al 70 0, false) ∧ lk (tb_X1_sendMessages) 70 = (x_gI 1 4 73, false) ∧ lk (tb_X1_sendMessages) 73 = (x_icn 81 76 (fun x y : Int32 => x = y), false) ∧ lk (tb_X1_sendMessages) 76 = (x_il 78 7, false) ∧ lk (tb_X1_sendMessages) 78 = (x_go 83, false) ∧ lk (tb_X1_sendMessages) 81 = (x_il 83 6, false) ∧ lk (tb_X1_sendMessages) 83 = (x_is 85 10, true) ∧ lk (tb_X1_sendMessages) 85 = (x_il 87 4, false) ∧ lk (tb_X1_sendMessages) 87 = (x_il 89 9, false) ∧ lk (tb_X1_sendMessages) 89 = (x_c 91 (.int 31), false) ∧ lk (tb_X1_sendMessages) 91 = (x_ii 92 ushr, false) ∧ lk (tb_X1_sendMessages) 92 = (x_ii 93 (fun x y : Int32 => x ^^^ y), false) ∧ lk (tb_X1_sendMessages) 93 = (x_if 101 96 (fun x : Int32 => x = 0), false) ∧ lk (tb_X1_sendMessages) 96 = (x_il 98 10, false) ∧ lk (tb_X1_sendMessages) 98 = (x_i1 99 (fun x : Int32 => -x), false) ∧ lk (tb_X1_sendMessages) 99 = (x_is 101 10, false) ∧ lk (tb_X1_sendMessages) 101 = (x_al 102 1, true) ∧ lk (tb_X1_sendMessages) 102 = (x_gR 5 3 105, false) ∧ lk (tb_X1_sendMessages) 105 = (x_il 106 3, false) ∧ lk (tb_X1_sendMessages) 106 = (x_il 108 8, false) ∧ lk (tb_X1_sendMessages) 108 = (x_ii 109 (fun x y : Int32 => x + y), false) ∧ lk (tb_X1_sendMessages) 109 = (x_ia 110, false) ∧ lk (tb_X1_sendMessages) 110 = (x_il 112 10, false) ∧ lk (tb_X1_sendMessages) 112 = (x_ic 148 115 (fun x y : Int32 => x = y), false) ∧ lk (tb_X1_sendMessages) 115 = (x_al 116 1, false) ∧ lk (tb_X1_sendMessages) 116 = (x_gR 5 3 119, false) ∧ lk (tb_X1_sendMessages) 119 = (x_il 120 3, false) ∧ lk (tb_X1_sendMessages) 120 = (x_il 122 8, false) ∧ lk (tb_X1_sendMessages) 122 = (x_ii 123 (fun x y : Int32 => x + y), false) ∧ lk (tb_X1_sendMessages) 123 = (x_il 125 10, false) ∧ lk (tb_X1_sendMessages) 125 = (x_ias 126, false) ∧ lk (tb_X1_sendMessages) 126 = (x_al 127 1, false) ∧ lk (tb_X1_sendMessages) 127 = (x_gR 5 2 130, false) ∧ lk (tb_X1_sendMessages) 130 = (x_il 132 8, false) ∧ lk (tb_X1_sendMessages) 132 = (x_il 134 9, false) ∧ lk (tb_X1_sendMessages) 134 = (x_il 136 10, false) ∧ lk (tb_X1_sendMessages) 136 = (x_ii 137 (fun x y : Int32 => x + y), false) ∧ lk (tb_X1_sendMessages) 137 = (x_c 139 (.int (-99)), false) ∧ lk (tb_X1_sendMessages) 139 = (x_c 141 (.int 99), false) ∧ lk (tb_X1_sendMessages) 141 = (x_cS 3 P_X9_held 144, false) ∧ lk (tb_X1_sendMessages) 144 = (x_ias 145, false) ∧ lk (tb_X1_sendMessages) 145 = (x_c 146 (.int 1), false) ∧ lk (tb_X1_sendMessages) 146 = (x_is 148 5, false) ∧ lk (tb_X1_sendMessages) 148 = (x_inc 151 8 1, false) ∧ lk (tb_X1_sendMessages) 151 = (x_go 40, false) ∧ lk (tb_X1_sendMessages) 154 = (x_il 156 5, false) ∧ lk (tb_X1_sendMessages) 156 = (x_rZ, false) := ⟨rfl, rfl, rfl, rfl, rfl, rfl, rfl, rfl, rfl, rfl, rfl, rfl, rfl, rfl, rfl, rfl, rfl, rfl, rfl, rfl, rfl, rfl, rfl, rfl, rfl, rfl, rfl, rfl, rfl, rfl, rfl, rfl, rfl, rfl, rfl, rfl, rfl, rfl, rfl, rfl, rfl, rfl, rfl, rfl, rfl, rfl, rfl, rfl, rfl, rfl, rfl, rfl, rfl, rfl, rfl, rfl, rfl, rfl, rfl, rfl, rfl, rfl, rfl, rfl, rfl, rfl, rfl, rfl, rfl, rfl, rfl, rfl, rfl, rfl, rfl, rfl, rfl, rfl, rfl, rfl, rfl, rfl, rfl, rfl, rfl⟩
/-- what sendMessages makes of memory -/
def snI (I : MI) (k : Nat) (sg : Int32) : Nat → Int32 := sN (I 15 2) (I 15 3) (I 15 4) (I k 6) sg (I 17)
def smI (I : MI) (k s f n : Nat) (sg : Int32) : MI := mS (mS I (k + 3) (smT (I (k + 3)) (I (k + 4)) (I 17) (snI I k sg) s f n)) (k + 4) (smM (I (k + 4)) (snI I k sg) s f n)
def P_X1_sendMessages : PTT := fun as M R => match as with
  | [.ref d, .ref k, .int ov, .int fr, .int sg] => d = 15 ∧ IsDc M.1 ∧ IsSt M.1 k ∧ ap15 k ∧ (∃ n, n ≤ 9 ∧ M.2.1 k 4 = nI n) ∧ tn ov < 512 ∧ (∃ c, c < 6 ∧ fr = nI (9 * c)) ∧
      R (some (.int (chg (M.2.1 (k + 4)) (snI M.2.1 k sg) (tn ov) (tn fr) (tn (M.2.1 k 4))))) (M.1, smI M.2.1 k (tn ov) (tn fr) (tn (M.2.1 k 4)) sg, M.2.2)
  | _ => False
set_option maxRecDepth 20000 in
theorem ok_X1_sendMessages : Ok yX1_sendMessages mt_X1_sendMessages P_X1_sendMessages := by
  refine Ok.of (by decide) rfl rfl rfl rfl fun av ⟨S, I, L⟩ R hP => ?_
  unfold P_X1_sendMessages at hP
  split at hP
  case h_2 => exact hP.elim
  rename_i d k ov fr sg
  obtain ⟨d, rfl⟩ : ∃ q : Nat, q = d := ⟨d, rfl⟩
  obtain ⟨k, rfl⟩ : ∃ q : Nat, q = k := ⟨k, rfl⟩
  refine ⟨by simp [ent, wide, mt_X1_sendMessages], ?_⟩
  show J mt_X1_sendMessages R 0 [some (.ref d), some (.ref k), some (.int ov), some (.int fr), some (.int sg), none, none, none, none, none, none] [] (S, I, L)
  try dsimp only at hP
  obtain ⟨rfl, hd, hk, hj, ⟨n, h9, hn⟩, hov, ⟨c, hc, rfl⟩, hR⟩ := hP
  obtain ⟨s, hs, rfl⟩ := tn_ex hov
  rw [hn, tn_nI (n := n) (by omega), tn_nI (n := 9 * c) (by omega), tn_nI (n := s) (by omega)] at hR
  unfold smI at hR
  refine J.of tk_X1_sendMessages 200 fun ρ hρ => ?_
  simp only [hρ, x_c, x_il, x_ll, x_al, x_is, x_as, x_ls, x_inc, x_ii, x_iq, x_i1, x_l2, x_lq, x_lh, x_i2l, x_l2i, x_lcmp, x_dup, x_dup2, x_pop, x_if, x_ifn, x_ic, x_icn, x_go, x_sw, swc, x_l01, x_mx, x_gI, x_gL, x_gR, x_pI, x_pZ, x_pL, x_pR, x_ia, x_za, x_aa, x_ias, x_zas, x_aas, x_fac, x_fa, x_slen, x_sa, x_ac, x_oi, x_new, x_na, x_cS, x_cV, x_cI, x_rI, x_rZ, x_rL, x_r0, pa, short, oc, lg, lset, lset2, wide, cond_true, cond_false, true_and, and_true, ↓reduceIte, Bool.false_eq_true, true_or, or_true, lf_X1_sendMessages, hd.f, hk.f, P_X9_held]
  have key := up (P := fun i => J mt_X1_sendMessages R 40 [some (.ref 15), some (.ref k), some (.int (nI s)), some (.int (nI (9 * c))), some (.int sg), some (.int (chg (I (k + 4)) (snI I k sg) s (9 * c) i)), some (.int (hld (I 15 2 - I k 6) 0 31)), some (.int (hld (I 15 3 - I k 6) 0 31)), some (.int (nI i)), none, none] [] (S, mS (mS I (k + 3) (smT (I (k + 3)) (I (k + 4)) (I 17) (snI I k sg) s (9 * c) i)) (k + 4) (smM (I (k + 4)) (snI I k sg) s (9 * c) i), L)) (n := n) (fun i hi ih => ?_) 0 (Nat.zero_le _)
  · rw [smT_0, smM_0, mS_id' (I := I) (k := k + 3) rfl, mS_id] at key
    exact key
  have hv1 : i < n → vp_in (nI i) 9 := fun h => vp_in_nI (by omega) (by omega)
  have hv2 : i < n → vp_in (nI (9 * c + i)) 54 := fun h => vp_in_nI (by omega) (by omega)
  have k101 : i < n → s.testBit i = true → J mt_X1_sendMessages R 101 [some (.ref 15), some (.ref k), some (.int (nI s)), some (.int (nI (9 * c))), some (.int sg), some (.int (chg (I (k + 4)) (snI I k sg) s (9 * c) i)), some (.int (hld (I 15 2 - I k 6) 0 31)), some (.int (hld (I 15 3 - I k 6) 0 31)), some (.int (nI i)), some (.int (I 17 i)), some (.int (snI I k sg i))] [] (S, mS (mS I (k + 3) (smT (I (k + 3)) (I (k + 4)) (I 17) (snI I k sg) s (9 * c) i)) (k + 4) (smM (I (k + 4)) (snI I k sg) s (9 * c) i), L) := by
    intro hi hb
    have hw := ih hi
    refine J.of tk_X1_sendMessages 200 fun ρ hρ => ?_
    simp only [hρ, x_c, x_il, x_ll, x_al, x_is, x_as, x_ls, x_inc, x_ii, x_iq, x_i1, x_l2, x_lq, x_lh, x_i2l, x_l2i, x_lcmp, x_dup, x_dup2, x_pop, x_if, x_ifn, x_ic, x_icn, x_go, x_sw, swc, x_l01, x_mx, x_gI, x_gL, x_gR, x_pI, x_pZ, x_pL, x_pR, x_ia, x_za, x_aa, x_ias, x_zas, x_aas, x_fac, x_fa, x_slen, x_sa, x_ac, x_oi, x_new, x_na, x_cS, x_cV, x_cI, x_rI, x_rZ, x_rL, x_r0, pa, short, oc, lg, lset, lset2, wide, cond_true, cond_false, true_and, and_true, ↓reduceIte, Bool.false_eq_true, true_or, or_true, lf_X1_sendMessages, hd.f, hk.f, P_X9_held, mS_app, kj, dj hj, hv1 hi, hv2 hi, nI_add, ncl (show i < 2 ^ 31 by omega), ncl (show 9 * c + i < 2 ^ 31 by omega), nI_1, mS_ss, sw34, smM_at, smM_t hb]
    refine ⟨fun h => ?_, fun h => ?_⟩
    · have hz : ¬ (s.testBit i = true ∧ ¬ I (k + 4) (9 * c + i) = snI I k sg i) := fun z => z.2 h
      rw [← smT_f hz, ← smM_f hz, show chg (I (k + 4)) (snI I k sg) s (9 * c) (i + 1) = chg (I (k + 4)) (snI I k sg) s (9 * c) i by rw [chg, if_neg hz]] at hw
      exact J.weak (by simp [lsub]) hw
    · rw [smT_t hb h]
      rw [show chg (I (k + 4)) (snI I k sg) s (9 * c) (i + 1) = 1 by rw [chg, if_pos ⟨hb, h⟩]] at hw
      exact J.weak (by simp [lsub]) hw
  have k83 : i < n → s.testBit i = true → J mt_X1_sendMessages R 83 [some (.ref 15), some (.ref k), some (.int (nI s)), some (.int (nI (9 * c))), some (.int sg), some (.int (chg (I (k + 4)) (snI I k sg) s (9 * c) i)), some (.int (hld (I 15 2 - I k 6) 0 31)), some (.int (hld (I 15 3 - I k 6) 0 31)), some (.int (nI i)), some (.int (I 17 i)), none] [.int (sB (I 15 2) (I 15 3) (I 15 4) (I k 6) i)] (S, mS (mS I (k + 3) (smT (I (k + 3)) (I (k + 4)) (I 17) (snI I k sg) s (9 * c) i)) (k + 4) (smM (I (k + 4)) (snI I k sg) s (9 * c) i), L) := by
    intro hi hb
    have hw := k101 hi hb
    refine J.of tk_X1_sendMessages 200 fun ρ hρ => ?_
    simp only [hρ, x_c, x_il, x_ll, x_al, x_is, x_as, x_ls, x_inc, x_ii, x_iq, x_i1, x_l2, x_lq, x_lh, x_i2l, x_l2i, x_lcmp, x_dup, x_dup2, x_pop, x_if, x_ifn, x_ic, x_icn, x_go, x_sw, swc, x_l01, x_mx, x_gI, x_gL, x_gR, x_pI, x_pZ, x_pL, x_pR, x_ia, x_za, x_aa, x_ias, x_zas, x_aas, x_fac, x_fa, x_slen, x_sa, x_ac, x_oi, x_new, x_na, x_cS, x_cV, x_cI, x_rI, x_rZ, x_rL, x_r0, pa, short, oc, lg, lset, lset2, wide, cond_true, cond_false, true_and, and_true, ↓reduceIte, Bool.false_eq_true, true_or, or_true, lf_X1_sendMessages]
    refine ⟨fun h => ?_, fun h => ?_⟩
    · rwa [show snI I k sg i = sB (I 15 2) (I 15 3) (I 15 4) (I k 6) i by simp only [snI, sN]; rw [if_pos h]] at hw
    · rwa [show snI I k sg i = -sB (I 15 2) (I 15 3) (I 15 4) (I k 6) i by simp only [snI, sN]; rw [if_neg h]] at hw
  refine J.of tk_X1_sendMessages 200 fun ρ hρ => ?_
  simp only [hρ, x_c, x_il, x_ll, x_al, x_is, x_as, x_ls, x_inc, x_ii, x_iq, x_i1, x_l2, x_lq, x_lh, x_i2l, x_l2i, x_lcmp, x_dup, x_dup2, x_pop, x_if, x_ifn, x_ic, x_icn, x_go, x_sw, swc, x_l01, x_mx, x_gI, x_gL, x_gR, x_pI, x_pZ, x_pL, x_pR, x_ia, x_za, x_aa, x_ias, x_zas, x_aas, x_fac, x_fa, x_slen, x_sa, x_ac, x_oi, x_new, x_na, x_cS, x_cV, x_cI, x_rI, x_rZ, x_rL, x_r0, pa, short, oc, lg, lset, lset2, wide, cond_true, cond_false, true_and, and_true, ↓reduceIte, Bool.false_eq_true, true_or, or_true, lf_X1_sendMessages, hd.f, hk.f, hn, nI_leI (show n < 2 ^ 31 by omega) (show i < 2 ^ 31 by omega), mS_app, kj, dj hj, bit_c (show s < 2 ^ 31 by omega) (show i < 31 by omega), Classical.not_not, ncl (show i < 2 ^ 31 by omega), nI_1]
  refine ⟨fun h => ⟨chg_or _ _ _ _ _, ?_⟩, fun h => ⟨fun hb => ?_, fun hb => ⟨hv1 (by omega), fun h2 => ?_, fun h2 => ?_⟩⟩⟩
  · have : i = n := by omega
    subst this
    exact hR
  · have hw := ih (by omega)
    have hz : ¬ (s.testBit i = true ∧ ¬ I (k + 4) (9 * c + i) = snI I k sg i) := fun z => hb z.1
    rw [← smT_f hz, ← smM_f hz, show chg (I (k + 4)) (snI I k sg) s (9 * c) (i + 1) = chg (I (k + 4)) (snI I k sg) s (9 * c) i by rw [chg, if_neg hz]] at hw
    exact hw
  · have hw := k83 (by omega) hb
    rwa [show sB (I 15 2) (I 15 3) (I 15 4) (I k 6) i = hld (I 15 2 - I k 6) 0 31 by simp only [sB]; rw [if_neg h2]] at hw
  · have hw := k83 (by omega) hb
    rwa [show sB (I 15 2) (I 15 3) (I 15 4) (I k 6) i = hld (I 15 3 - I k 6) 0 31 by simp only [sB]; rw [if_pos h2]] at hw
end
section
/-! A ROUND, as numbers: what both sides come to -/
abbrev DS : Type := (Nat → Int32) × (Nat → Int32)
def lsO (Q : Nat → Int32) (s b : Nat) : Nat → Int32
  | 0 => 99
  | i + 1 => if i ≠ b ∧ s.testBit i = true then (if lsO Q s b i ≤ am (Q i) then lsO Q s b i else am (Q i)) else lsO Q s b i
def sgO (Q : Nat → Int32) (s b : Nat) : Nat → Bool
  | 0 => false
  | i + 1 => if i ≠ b ∧ s.testBit i = true then (sgO Q s b i != decide (Q i < 0)) else sgO Q s b i
def nmS (Q : Nat → Int32) (s b n : Nat) (off : Int32) : Int32 := if sgO Q s b n = true then -hld (lsO Q s b n - off) 0 31 else hld (lsO Q s b n - off) 0 31
def QD (d : DS) (c : Nat) : Nat → Int32 := fun b => d.1 b - d.2 (9 * c + b)
def stpD (n : Nat) (off : Int32) (s c : Nat) (d : DS) : DS :=
  (fun b => if b < n ∧ s.testBit b = true then hld (QD d c b + nmS (QD d c) s b n off) (-99) 99 else d.1 b,
   fun j => if 9 * c ≤ j ∧ j < 9 * c + n ∧ s.testBit (j - 9 * c) = true then nmS (QD d c) s (j - 9 * c) n off else d.2 j)
def rndD (n : Nat) (off : Int32) (ov ord : Nat → Nat) : Nat → DS → DS
  | 0, d => d
  | i + 1, d => stpD n off (ov (ord i)) (ord i) (rndD n off ov ord i d)
/-! sizes -/
theorem hld_in {v : Int32} {a b : Int32} (h : a ≤ b) : a ≤ hld v a b ∧ hld v a b ≤ b := by
  unfold hld
  by_cases h1 : a ≤ v
  · rw [if_pos h1]
    by_cases h2 : v ≤ b
    · rw [if_pos h2]; exact ⟨h1, h2⟩
    · rw [if_neg h2]; exact ⟨h, Int32.le_refl _⟩
  · rw [if_neg h1]; exact ⟨Int32.le_refl _, h⟩
theorem hld_id {v : Int32} (h : inR 99 v) : hld v (-99) 99 = v := by
  have h1 : (-99 : Int32) ≤ v := by rw [Int32.le_iff_toInt_le]; exact h.1
  have h2 : v ≤ 99 := by rw [Int32.le_iff_toInt_le]; exact h.2
  simp [hld, h1, h2]
theorem hld99 (v : Int32) : inR 99 (hld v (-99) 99) := by
  have := hld_in (v := v) (a := -99) (b := 99) (by decide)
  rw [Int32.le_iff_toInt_le, Int32.le_iff_toInt_le] at this
  exact this
theorem hld31 (v : Int32) : 0 ≤ (hld v 0 31).toInt ∧ (hld v 0 31).toInt ≤ 31 := by
  have := hld_in (v := v) (a := 0) (b := 31) (by decide)
  rw [Int32.le_iff_toInt_le, Int32.le_iff_toInt_le] at this
  exact this
theorem neg_toInt {x : Int32} (h : -1000 ≤ x.toInt ∧ x.toInt ≤ 1000) : (-x).toInt = -x.toInt := by
  rw [Int32.toInt_neg, Int.bmod_eq_of_le (by omega) (by omega)]
theorem nmS_in (Q : Nat → Int32) (s b n : Nat) (off : Int32) : inR 31 (nmS Q s b n off) := by
  have h := hld31 (lsO Q s b n - off)
  unfold nmS
  split
  · unfold inR
    rw [neg_toInt (by omega)]
    omega
  · exact ⟨by omega, h.2⟩
def DSok (d : DS) : Prop := (∀ b, b < 9 → inR 99 (d.1 b)) ∧ (∀ j, j < 54 → inR 31 (d.2 j))
theorem stpD_ok {n : Nat} {off : Int32} {s c : Nat} {d : DS} (h : DSok d) : DSok (stpD n off s c d) := by
  refine ⟨fun b hb => ?_, fun j hj => ?_⟩
  · simp only [stpD]
    split
    · exact hld99 _
    · exact h.1 b hb
  · simp only [stpD]
    split
    · exact nmS_in _ _ _ _ _
    · exact h.2 j hj
theorem rndD_ok {n : Nat} {off : Int32} {ov ord : Nat → Nat} {d : DS} (h : DSok d) : ∀ i, DSok (rndD n off ov ord i d)
  | 0 => h
  | i + 1 => stpD_ok (rndD_ok h i)
/-! signs -/
theorem lt0_tn (x : Int32) : x < 0 ↔ 2 ^ 31 ≤ tn x := by
  rw [Int32.lt_iff_toInt_lt]
  have h : x.toInt = x.toBitVec.toInt := rfl
  rw [h, BitVec.toInt_eq_toNat_cond]
  have hl := x.toBitVec.isLt
  have h0 : (0 : Int32).toInt = 0 := rfl
  rw [h0]
  unfold tn
  split
  · omega
  · omega
theorem ushr31 (x : Int32) : ushr x 31 = bI (x < 0) := by
  have h := pk_ushr x 31 31 (by decide)
  apply tn_inj
  have e : tn (ushr x 31) = tn x / 2 ^ 31 := h
  rw [e]
  have hl : tn x < 2 ^ 32 := x.toBitVec.isLt
  by_cases h0 : x < 0
  · rw [bI_t h0, show tn (1 : Int32) = 1 by decide]
    have := (lt0_tn x).mp h0
    omega
  · rw [bI_f h0, show tn (0 : Int32) = 0 by decide]
    have : ¬ 2 ^ 31 ≤ tn x := fun q => h0 ((lt0_tn x).mpr q)
    omega
def sgA (Q : Nat → Int32) (s : Nat) : Nat → Bool
  | 0 => false
  | i + 1 => if s.testBit i = true then (sgA Q s i != decide (Q i < 0)) else sgA Q s i
theorem bI_xor (a b : Bool) : bI (a = true) ^^^ bI (b = true) = bI ((a != b) = true) := by cases a <;> cases b <;> decide
theorem bI_dec (p : Prop) [Decidable p] : bI p = bI (decide p = true) := bI_congr (by simp)
theorem fo_sg (Q : Nat → Int32) (s : Nat) : ∀ i, (foS Q s i).2.2.2 = bI (sgA Q s i = true)
  | 0 => rfl
  | i + 1 => by
    have ih := fo_sg Q s i
    by_cases hb : s.testBit i = true
    · have e : (foS Q s (i + 1)).2.2.2 = (foS Q s i).2.2.2 ^^^ ushr (Q i) 31 := by
        by_cases h1 : (foS Q s i).1 ≤ am (Q i)
        · by_cases h2 : (foS Q s i).2.1 ≤ am (Q i)
          · rw [foS_a hb h1 h2]
          · rw [foS_b hb h1 h2]
        · rw [foS_c hb h1]
      rw [e, ih, ushr31, bI_dec (Q i < 0), bI_xor, sgA, if_pos hb]
    · rw [foS, if_neg hb, ih, sgA, if_neg hb]
theorem sg_lo (Q : Nat → Int32) (s b : Nat) : ∀ i, i ≤ b → sgO Q s b i = sgA Q s i
  | 0, _ => rfl
  | i + 1, h => by
    rw [sgO, sgA, sg_lo Q s b i (by omega)]
    by_cases hb : s.testBit i = true
    · rw [if_pos ⟨by omega, hb⟩, if_pos hb]
    · rw [if_neg (fun z => hb z.2), if_neg hb]
theorem sg_hi (Q : Nat → Int32) (s b : Nat) (hb : s.testBit b = true) : ∀ i, b < i → sgO Q s b i = (sgA Q s i != decide (Q b < 0))
  | 0, h => by omega
  | i + 1, h => by
    rw [sgO, sgA]
    by_cases e : i = b
    · subst e
      rw [if_neg (fun z => z.1 rfl), if_pos hb, sg_lo Q s i i (by omega)]
      cases sgA Q s i <;> cases decide (Q i < 0) <;> rfl
    · rw [sg_hi Q s b hb i (by omega)]
      by_cases hi : s.testBit i = true
      · rw [if_pos ⟨e, hi⟩, if_pos hi]
        cases sgA Q s i <;> cases decide (Q b < 0) <;> cases decide (Q i < 0) <;> rfl
      · rw [if_neg (fun z => hi z.2), if_neg hi]
/-! least of the others -/
theorem i32_lt_of_not_le {a b : Int32} (h : ¬ a ≤ b) : b < a := Int32.not_le.mp h
theorem fo_wh (Q : Nat → Int32) (s : Nat) : ∀ i, i ≤ 31 → ((foS Q s i).1 ≤ (foS Q s i).2.1) ∧ ∀ b, i ≤ b → b < 31 → ¬ nI b = (foS Q s i).2.2.1
  | 0, _ => ⟨Int32.le_refl _, fun b _ hb e => by
      have := congrArg Int32.toInt e
      rw [nI_toInt (by omega)] at this
      have h1 : (-1 : Int32).toInt = -1 := by decide
      have h2 : (foS Q s 0).2.2.1 = -1 := rfl
      rw [h2] at this
      omega⟩
  | i + 1, hi => by
    obtain ⟨h1, h2⟩ := fo_wh Q s i (by omega)
    by_cases hb : s.testBit i = true
    · by_cases c1 : (foS Q s i).1 ≤ am (Q i)
      · by_cases c2 : (foS Q s i).2.1 ≤ am (Q i)
        · rw [foS_a hb c1 c2]; exact ⟨h1, fun b hb => h2 b (by omega)⟩
        · rw [foS_b hb c1 c2]; exact ⟨c1, fun b hb => h2 b (by omega)⟩
      · rw [foS_c hb c1]
        refine ⟨Int32.le_of_lt (Int32.not_le.mp c1), fun b hb hb2 e => ?_⟩
        have := (nI_eq (a := b) (b := i) (by omega) (by omega)).mp e
        omega
    · rw [foS, if_neg hb]
      exact ⟨h1, fun b hb => h2 b (by omega)⟩
theorem fo_ls (Q : Nat → Int32) (s b : Nat) (hb31 : b < 31) : ∀ i, i ≤ 31 → lsO Q s b i = if nI b = (foS Q s i).2.2.1 then (foS Q s i).2.1 else (foS Q s i).1
  | 0, _ => by
    rw [if_neg ((fo_wh Q s 0 (by omega)).2 b (by omega) hb31)]
    rfl
  | i + 1, hi => by
    have ih := fo_ls Q s b hb31 i (by omega)
    obtain ⟨w1, w2⟩ := fo_wh Q s i (by omega)
    by_cases hs : s.testBit i = true
    · by_cases e : i = b
      · subst e
        have hn := w2 i (by omega) hb31
        rw [if_neg hn] at ih
        rw [lsO, if_neg (fun z => z.1 rfl), ih]
        by_cases c1 : (foS Q s i).1 ≤ am (Q i)
        · by_cases c2 : (foS Q s i).2.1 ≤ am (Q i)
          · rw [foS_a hs c1 c2, if_neg hn]
          · rw [foS_b hs c1 c2, if_neg hn]
        · rw [foS_c hs c1, if_pos rfl]
      · rw [lsO, if_pos ⟨e, hs⟩]
        by_cases c1 : (foS Q s i).1 ≤ am (Q i)
        · by_cases c2 : (foS Q s i).2.1 ≤ am (Q i)
          · rw [foS_a hs c1 c2]
            by_cases hl : nI b = (foS Q s i).2.2.1
            · rw [if_pos hl] at ih ⊢; rw [ih, if_pos c2]
            · rw [if_neg hl] at ih ⊢; rw [ih, if_pos c1]
          · rw [foS_b hs c1 c2]
            by_cases hl : nI b = (foS Q s i).2.2.1
            · rw [if_pos hl] at ih ⊢; rw [ih, if_neg c2]
            · rw [if_neg hl] at ih ⊢; rw [ih, if_pos c1]
        · rw [foS_c hs c1]
          have hnb : ¬ nI b = nI i := fun q => e ((nI_eq (by omega) (by omega)).mp q).symm
          rw [if_neg hnb]
          by_cases hl : nI b = (foS Q s i).2.2.1
          · rw [if_pos hl] at ih
            rw [ih, if_neg (fun q => c1 (Int32.le_trans w1 q))]
          · rw [if_neg hl] at ih
            rw [ih, if_neg c1]
    · rw [lsO, if_neg (fun z => hs z.2), ih, foS, if_neg hs]
theorem sN_nm {Q q : Nat → Int32} {s b n : Nat} {off : Int32} (hn : n ≤ 9) (hb : b < n) (hs : s.testBit b = true) (hq : q b = Q b) : sN (foS Q s n).1 (foS Q s n).2.1 (foS Q s n).2.2.1 off (foS Q s n).2.2.2 q b = nmS Q s b n off := by
  have e : sB (foS Q s n).1 (foS Q s n).2.1 (foS Q s n).2.2.1 off b = hld (lsO Q s b n - off) 0 31 := by
    rw [fo_ls Q s b (by omega) n (by omega)]
    unfold sB
    split <;> rfl
  unfold sN nmS
  rw [e, fo_sg, hq, ushr31, bI_dec (Q b < 0), bI_xor, sg_hi Q s b hs n hb]
  cases h : (sgA Q s n != decide (Q b < 0)) with
  | true => rw [if_neg (by decide), if_pos rfl]
  | false => rw [if_pos (by decide), if_neg (by decide)]
end
section
/-! DECODER: rounds -/
theorem foI_r {I : MI} {Q : Nat → Int32} {s n q : Nat} (h : q ≠ 15) (h' : q ≠ 17) : foI I Q s n q = I q := by
  unfold foI; rw [mS_n h, mS_n h']
theorem smI_r {I : MI} {k s f n q : Nat} {sg : Int32} (h : q ≠ k + 3) (h' : q ≠ k + 4) : smI I k s f n sg q = I q := by
  unfold smI; rw [mS_n h', mS_n h]
/-- one check, as the class does it -/
def ckI (I : MI) (k s c n : Nat) : MI := smI (foI I (Qv I k (9 * c)) s n) k s (9 * c) n (foS (Qv I k (9 * c)) s n).2.2.2
theorem ck_sn {I : MI} {k s c n b : Nat} (hj : k + 5 ≤ 15 ∨ 18 ≤ k) (hn : n ≤ 9) (hb : b < n) (hs : s.testBit b = true) : snI (foI I (Qv I k (9 * c)) s n) k (foS (Qv I k (9 * c)) s n).2.2.2 b = nmS (Qv I k (9 * c)) s b n (I k 6) := by
  have e1 : foI I (Qv I k (9 * c)) s n 15 2 = (foS (Qv I k (9 * c)) s n).1 := by simp [foI, mS_s, upd_app]
  have e2 : foI I (Qv I k (9 * c)) s n 15 3 = (foS (Qv I k (9 * c)) s n).2.1 := by simp [foI, mS_s, upd_app]
  have e3 : foI I (Qv I k (9 * c)) s n 15 4 = (foS (Qv I k (9 * c)) s n).2.2.1 := by simp [foI, mS_s, upd_app]
  have e4 : foI I (Qv I k (9 * c)) s n k = I k := foI_r (by omega) (by omega)
  have e5 : foI I (Qv I k (9 * c)) s n 17 b = Qv I k (9 * c) b := by simp [foI, mS_app, qr, hb, hs]
  unfold snI
  rw [e1, e2, e3, e4]
  exact sN_nm hn hb hs e5
theorem ck_D {I : MI} {k s c n : Nat} (hj : k + 5 ≤ 15 ∨ 18 ≤ k) (hn : n ≤ 9) (hT : ∀ b, b < 9 → inR 99 (I (k + 3) b)) : (ckI I k s c n (k + 3), ckI I k s c n (k + 4)) = stpD n (I k 6) s c (I (k + 3), I (k + 4)) := by
  have e3 : foI I (Qv I k (9 * c)) s n (k + 3) = I (k + 3) := foI_r (by omega) (by omega)
  have e4 : foI I (Qv I k (9 * c)) s n (k + 4) = I (k + 4) := foI_r (by omega) (by omega)
  have hQ : QD (I (k + 3), I (k + 4)) c = Qv I k (9 * c) := rfl
  unfold stpD
  rw [hQ]
  refine Prod.ext ?_ ?_
  · funext b
    show ckI I k s c n (k + 3) b = _
    unfold ckI smI
    rw [mS_n (by omega), mS_s, e3, e4]
    simp only [smT]
    by_cases hb : b < n ∧ s.testBit b = true
    · rw [if_pos hb]
      have sn := ck_sn (I := I) (c := c) hj hn hb.1 hb.2
      have hq : foI I (Qv I k (9 * c)) s n 17 b = Qv I k (9 * c) b := by simp [foI, mS_app, qr, hb]
      rw [sn, hq]
      by_cases hm : I (k + 4) (9 * c + b) = nmS (Qv I k (9 * c)) s b n (I k 6)
      · rw [if_neg (fun z => z.2.2 hm), ← hm]
        have : Qv I k (9 * c) b + I (k + 4) (9 * c + b) = I (k + 3) b := Int32.sub_add_cancel _ _
        rw [this, hld_id (hT b (by omega))]
      · rw [if_pos ⟨hb.1, hb.2, hm⟩]
    · rw [if_neg hb, if_neg (fun z => hb ⟨z.1, z.2.1⟩)]
  · funext j
    show ckI I k s c n (k + 4) j = _
    unfold ckI smI
    rw [mS_s, e4]
    simp only [smM]
    by_cases hb : 9 * c ≤ j ∧ j < 9 * c + n ∧ s.testBit (j - 9 * c) = true
    · rw [if_pos hb, if_pos hb, ck_sn hj hn (by omega) hb.2.2]
    · rw [if_neg hb, if_neg hb]
theorem chg_z {mu sn : Nat → Int32} {s f : Nat} : ∀ {i : Nat}, chg mu sn s f i = 0 → ∀ b, b < i → s.testBit b = true → mu (f + b) = sn b
  | 0, _, b, hb, _ => by omega
  | i + 1, h, b, hb, hs => by
    simp only [chg] at h
    split at h
    · exact absurd h (by decide)
    · next hn =>
      by_cases e : b = i
      · subst e; exact Classical.not_not.mp (fun z => hn ⟨hs, z⟩)
      · exact chg_z h b (by omega) hs
/-- the flag of one check -/
def ckF (I : MI) (k s c n : Nat) : Int32 := chg (foI I (Qv I k (9 * c)) s n (k + 4)) (snI (foI I (Qv I k (9 * c)) s n) k (foS (Qv I k (9 * c)) s n).2.2.2) s (9 * c) n
theorem ck_z {I : MI} {k s c n : Nat} (hj : k + 5 ≤ 15 ∨ 18 ≤ k) (h : ckF I k s c n = 0) : ckI I k s c n (k + 3) = I (k + 3) ∧ ckI I k s c n (k + 4) = I (k + 4) := by
  have e3 : foI I (Qv I k (9 * c)) s n (k + 3) = I (k + 3) := foI_r (by omega) (by omega)
  have e4 : foI I (Qv I k (9 * c)) s n (k + 4) = I (k + 4) := foI_r (by omega) (by omega)
  have hz := chg_z h
  constructor
  · funext b
    unfold ckI smI
    rw [mS_n (by omega), mS_s, e3]
    simp only [smT]
    rw [if_neg (fun z => z.2.2 (hz b z.1 z.2.1))]
  · funext j
    unfold ckI smI
    rw [mS_s, e4]
    simp only [smM]
    split
    · next hb =>
      have := hz (j - 9 * c) (by omega) hb.2.2
      rw [e4, show 9 * c + (j - 9 * c) = j by omega] at this
      exact this.symm
    · rfl
theorem ck_fr {I : MI} {k s c n q : Nat} (h3 : q ≠ k + 3) (h4 : q ≠ k + 4) (h15 : q ≠ 15) (h17 : q ≠ 17) : ckI I k s c n q = I q := by
  unfold ckI; rw [smI_r h3 h4, foI_r h15 h17]
/-- the order of checks at 16 -/
def OrdV (I : MI) (m : Nat) : Prop := ∀ i, i < m → tn (I 16 i) < m
def ordI (I : MI) : Nat → Nat := fun i => tn (I 16 i)
/-- nothing but a state's totals and messages, and the decoder's own places, is another -/
def frD (k : Nat) (I I' : MI) : Prop := ∀ q, q ≠ k + 3 → q ≠ k + 4 → q ≠ 15 → q ≠ 17 → I' q = I q
def il_X1_runRound : List (Nat × Instr × Nat) := [(0, .iconst 0, 1), (1, .istore_n 2, 1), (2, .iconst 0, 1), (3, .istore_n 3, 1), (4, .iload_n 3, 1), (5, .aload_n 1, 1), (6, .getfield 38, 3), (9, .if_icmp .ge 58, 3), (12, .aload_n 0, 1), (13, .getfield 9, 3), (16, .iload_n 3, 1), (17, .iaload, 1), (18, .istore 4, 2), (20, .aload_n 0, 1), (21, .aload_n 1, 1), (22, .aload_n 1, 1), (23, .getfield 41, 3), (26, .iload 4, 2), (28, .iaload, 1), (29, .iload 4, 2), (31, .bipush 9, 2), (33, .imul, 1), (34, .invokevirtual 44, 3), (37, .istore 5, 2), (39, .iload_n 2, 1), (40, .aload_n 0, 1), (41, .aload_n 1, 1), (42, .aload_n 1, 1), (43, .getfield 41, 3), (46, .iload 4, 2), (48, .iaload, 1), (49, .iload 4, 2), (51, .bipush 9, 2), (53, .imul, 1), (54, .iload 5, 2), (56, .invokevirtual 48, 3), (59, .ior, 1), (60, .istore_n 2, 1), (61, .iinc 3 1, 3), (64, .goto (-60), 3), (67, .iload_n 2, 1), (68, .ireturn, 1)]
def mt_X1_runRound : Mt := (cX1_runRound, RX1, 6, (some .boolean), ({ frames := 2, cells := 0, slots := 0, locals := 52 } : Room), false, none, none)
set_option maxRecDepth 100000 in
theorem dl_X1_runRound : ∀ q ∈ il_X1_runRound, decode (mt_X1_runRound).1 q.1 = .ok q.2 := by decide +kernel
def tb_X1_runRound : Tb := [(0, x_c 1 (.int 0), false),
  (1, x_is 2 2, false),
  (2, x_c 3 (.int 0), false),
  (3, x_is 4 3, false),
  (4, x_il 5 3, true),
  (5, x_al 6 1, false),
  (6, x_gI 5 5 9, false),
  (9, x_ic 67 12 (fun x y : Int32 => y ≤ x), false),
  (12, x_al 13 0, false),
  (13, x_gR 1 0 16, false),
  (16, x_il 17 3, false),
  (17, x_ia 18, false),
  (18, x_is 20 4, false),
  (20, x_al 21 0, false),
  (21, x_al 22 1, false),
  (22, x_al 23 1, false),
  (23, x_gR 5 0 26, false),
  (26, x_il 28 4, false),
  (28, x_ia 29, false),
  (29, x_il 31 4, false),
  (31, x_c 33 (.int 9), false),
  (33, x_ii 34 (fun x y : Int32 => x * y), false),
  (34, x_cV 1 3 P_X1_findOthers 37, false),
  (37, x_is 39 5, false),
  (39, x_il 40 2, false),
  (40, x_al 41 0, false),
  (41, x_al 42 1, false),
  (42, x_al 43 1, false),
  (43, x_gR 5 0 46, false),
  (46, x_il 48 4, false),
  (48, x_ia 49, false),
  (49, x_il 51 4, false),
  (51, x_c 53 (.int 9), false),
  (53, x_ii 54 (fun x y : Int32 => x * y), false),
  (54, x_il 56 5, false),
  (56, x_cV 1 4 P_X1_sendMessages 59, false),
  (59, x_ii 60 (fun x y : Int32 => x ||| y), false),
  (60, x_is 61 2, false),
  (61, x_inc 64 3 1, false),
  (64, x_go 4, false),
  (67, x_il 68 2, false),
  (68, x_rZ, false)]
set_option maxRecDepth 100000 in
theorem tk_X1_runRound : TbOk (mt_X1_runRound) (tb_X1_runRound) :=
  tkc (s_iconst (at_ dl_X1_runRound 0 (ins := .iconst 0) rfl) (by first | rfl | decide)) (
  tkc (s_istore_n (at_ dl_X1_runRound 1 (ins := .istore_n 2) rfl) (by decide)) (
  tkc (s_iconst (at_ dl_X1_runRound 2 (ins := .iconst 0) rfl) (by first | rfl | decide)) (
  tkc (s_istore_n (at_ dl_X1_runRound 3 (ins := .istore_n 3) rfl) (by decide)) (
  tkc (s_iload_n (at_ dl_X1_runRound 4 (ins := .iload_n 3) rfl)) (
  tkc (s_aload_n (at_ dl_X1_runRound 5 (ins := .aload_n 1) rfl)) (
  tkc (s_gI (at_ dl_X1_runRound 6 (ins := .getfield 38) rfl) (by decide) (by decide) (by decide) (tg 143 (by decide +kernel) (by decide +kernel))) (
  tkc (s_ic_ge (at_ dl_X1_runRound 7 (ins := .if_icmp .ge 58) rfl) (by decide)) (
  tkc (s_aload_n (at_ dl_X1_runRound 8 (ins := .aload_n 0) rfl)) (
  tkc (s_gR (at_ dl_X1_runRound 9 (ins := .getfield 9) rfl) (by decide) (by decide) (by decide) (tg 178 (by decide +kernel) (by decide +kernel))) (
  tkc (s_iload_n (at_ dl_X1_runRound 10 (ins := .iload_n 3) rfl)) (
  tkc (s_ia (at_ dl_X1_runRound 11 (ins := .iaload) rfl)) (
  tkc (s_istore (at_ dl_X1_runRound 12 (ins := .istore 4) rfl) (by decide)) (
  tkc (s_aload_n (at_ dl_X1_runRound 13 (ins := .aload_n 0) rfl)) (
  tkc (s_aload_n (at_ dl_X1_runRound 14 (ins := .aload_n 1) rfl)) (
  tkc (s_aload_n (at_ dl_X1_runRound 15 (ins := .aload_n 1) rfl)) (
  tkc (s_gR (at_ dl_X1_runRound 16 (ins := .getfield 41) rfl) (by decide) (by decide) (by decide) (tg 124 (by decide +kernel) (by decide +kernel))) (
  tkc (s_iload (at_ dl_X1_runRound 17 (ins := .iload 4) rfl)) (
  tkc (s_ia (at_ dl_X1_runRound 18 (ins := .iaload) rfl)) (
  tkc (s_iload (at_ dl_X1_runRound 19 (ins := .iload 4) rfl)) (
  tkc (s_bipush (at_ dl_X1_runRound 20 (ins := .bipush 9) rfl) (by first | rfl | decide)) (
  tkc (s_imul (at_ dl_X1_runRound 21 (ins := .imul) rfl)) (
  tkc (s_cV ok_X1_findOthers (at_ dl_X1_runRound 22 (ins := .invokevirtual 44) rfl) (by decide) rfl (tg 457 (by decide +kernel) (by decide +kernel)) (tg 459 (by decide +kernel) (by decide +kernel)) (tg 9 (by decide +kernel) (by decide +kernel)) (tg 46 (by decide +kernel) (by decide +kernel)) (tg 460 (by decide +kernel) (by decide +kernel)) (⟨by decide, by decide, by decide +kernel⟩) (⟨by decide, by decide⟩) rfl rfl) (
  tkc (s_istore (at_ dl_X1_runRound 23 (ins := .istore 5) rfl) (by decide)) (
  tkc (s_iload_n (at_ dl_X1_runRound 24 (ins := .iload_n 2) rfl)) (
  tkc (s_aload_n (at_ dl_X1_runRound 25 (ins := .aload_n 0) rfl)) (
  tkc (s_aload_n (at_ dl_X1_runRound 26 (ins := .aload_n 1) rfl)) (
  tkc (s_aload_n (at_ dl_X1_runRound 27 (ins := .aload_n 1) rfl)) (
  tkc (s_gR (at_ dl_X1_runRound 28 (ins := .getfield 41) rfl) (by decide) (by decide) (by decide) (tg 124 (by decide +kernel) (by decide +kernel))) (
  tkc (s_iload (at_ dl_X1_runRound 29 (ins := .iload 4) rfl)) (
  tkc (s_ia (at_ dl_X1_runRound 30 (ins := .iaload) rfl)) (
  tkc (s_iload (at_ dl_X1_runRound 31 (ins := .iload 4) rfl)) (
  tkc (s_bipush (at_ dl_X1_runRound 32 (ins := .bipush 9) rfl) (by first | rfl | decide)) (
  tkc (s_imul (at_ dl_X1_runRound 33 (ins := .imul) rfl)) (
  tkc (s_iload (at_ dl_X1_runRound 34 (ins := .iload 5) rfl)) (
  tkc (s_cV ok_X1_sendMessages (at_ dl_X1_runRound 35 (ins := .invokevirtual 48) rfl) (by decide) rfl (tg 461 (by decide +kernel) (by decide +kernel)) (tg 463 (by decide +kernel) (by decide +kernel)) (tg 10 (by decide +kernel) (by decide +kernel)) (tg 46 (by decide +kernel) (by decide +kernel)) (tg 464 (by decide +kernel) (by decide +kernel)) (⟨by decide, by decide, by decide +kernel⟩) (⟨by decide, by decide⟩) rfl rfl) (
  tkc (s_ior (at_ dl_X1_runRound 36 (ins := .ior) rfl)) (
  tkc (s_istore_n (at_ dl_X1_runRound 37 (ins := .istore_n 2) rfl) (by decide)) (
  tkc (s_iinc (at_ dl_X1_runRound 38 (ins := .iinc 3 1) rfl) (by decide) (by first | rfl | decide)) (
  tkc (s_goto (at_ dl_X1_runRound 39 (ins := .goto (-60)) rfl) (by decide)) (
  tkc (s_iload_n (at_ dl_X1_runRound 40 (ins := .iload_n 2) rfl)) (
  tkc (s_rZ (at_ dl_X1_runRound 41 (ins := .ireturn) rfl) rfl) ( tk0))))))))))))))))))))))))))))))))))))))))))
theorem lf_X1_runRound : lk (tb_X1_runRound) 0 = (x_c 1 (.int 0), false) ∧ lk (tb_X1_runRound) 1 = (x_is 2 2, false) ∧ lk (tb_X1_runRound) 2 = (x_c 3 (.int 0), false) ∧ lk (tb_X1_runRound) 3 = (x_is 4 3, false) ∧ lk (tb_X1_runRound) 4 = (x_il 5 3, true) ∧ lk (tb_X1_runRound) 5 = (x_al 6 1, false) ∧ lk (tb_X1_runRound) 6 = (x_gI 5 5 9, false) ∧ lk (tb_X1_runRound) 9 = (x_ic 67 12 (fun x y : Int32 => y ≤ x), false) ∧ lk (tb_X1_runRound) 12 = (x_al 13 0, false) ∧ lk (tb_X1_runRound) 13 = (x_gR 1 0 16, false) ∧ lk (tb_X1_runRound) 16 = (x_il 17 3, false) ∧ lk (tb_X1_runRound) 17 = (x_ia 18, false) ∧ lk (tb_X1_runRound) 18 = (x_is 20 4, false) ∧ lk (tb_X1_runRound) 20 = (x_al 21 0, false) ∧ lk (tb_X1_runRound) 21 = (x_al 22 1, false) ∧ lk (tb_X1_runRound) 22 = (x_al 23 1, false) ∧ lk (tb_X1_runRound) 23 = (x_gR 5 0 26, false) ∧ lk (tb_X1_runRound) 26 = (x_il 28 4, false) ∧ lk (tb_X1_runRound) 28 = (x_ia 29, false) ∧ lk (tb_X1_runRound) 29 = (x_il 31 4, false) ∧ lk (tb_X1_runRound) 31 = (x_c 33 (.int 9), false) ∧ lk (tb_X1_runRound) 33 = (x_ii 34 (fun x y : Int32 => x * y), false) ∧ lk (tb_X1_runRound) 34 = (x_cV 1 3 P_X1_findOthers 37, false) ∧ lk (tb_X1_runRound) 37 = (x_is 39 5, false) ∧ lk (tb_X1_runRound) 39 = (x_il 40 2, false) ∧ lk (tb_X1_runRound) 40 = (x_al 41 0, false) ∧ lk (tb_X1_runRound) 41 = (x_al 42 1, false) ∧ lk (tb_X1_runRound) 42 = (x_al 43 1, false) ∧ lk (tb_X1_runRound) 43 = (x_gR 5 0 46, false) ∧ lk (tb_X1_runRound) 46 = (x_il 48 4, false) ∧ lk (tb_X1_runRound) 48 = (x_ia 49, false) ∧ lk (tb_X1_runRound) 49 = (x_il 51 4, false) ∧ lk (tb_X1_runRound) 51 = (x_c 53 (.int 9), false) ∧ lk (tb_X1_runRound) 53 = (x_ii 54 (fun x y : Int32 => x * y), false) ∧ lk (tb_X1_runRound) 54 = (x_il 56 5, false) ∧ lk (tb_X1_runRound) 56 = (x_cV 1 4 P_X1_sendMessages 59, false) ∧ lk (tb_X1_runRound) 59 = (x_ii 60 (fun x y : Int32 => x ||| y), false) ∧ lk (tb_X1_runRound) 60 = (x_is 61 2, false) ∧ lk (tb_X1_runRound) 61 = (x_inc 64 3 1, false) ∧ lk (tb_X1_runRound) 64 = (x_go 4, false) ∧ lk (tb_X1_runRound) 67 = (x_il 68 2, false) ∧ lk (tb_X1_runRound) 68 = (x_rZ, false) := ⟨rfl, rfl, rfl, rfl, rfl, rfl, rfl, rfl, rfl, rfl, rfl, rfl, rfl, rfl, rfl, rfl, rfl, rfl, rfl, rfl, rfl, rfl, rfl, rfl, rfl, rfl, rfl, rfl, rfl, rfl, rfl, rfl, rfl, rfl, rfl, rfl, rfl, rfl, rfl, rfl, rfl, rfl⟩
def P_X1_runRound : PTT := fun as M R => match as with
  | [.ref d, .ref k] => d = 15 ∧ IsDc M.1 ∧ IsSt M.1 k ∧ ap15 k ∧ ∃ n m, SV M.2.1 k n m ∧ OrdV M.2.1 m ∧ ∀ I' ch, frD k M.2.1 I' → (I' (k + 3), I' (k + 4)) = rndD n (M.2.1 k 6) (ovS M.2.1 k) (ordI M.2.1) m (M.2.1 (k + 3), M.2.1 (k + 4)) → (ch = 0 ∨ ch = 1) → (ch = 0 → I' (k + 3) = M.2.1 (k + 3) ∧ I' (k + 4) = M.2.1 (k + 4)) → R (some (.int ch)) (M.1, I', M.2.2)
  | _ => False
theorem or01 {a b : Int32} (ha : a = 0 ∨ a = 1) (hb : b = 0 ∨ b = 1) : (a ||| b = 0 ∨ a ||| b = 1) ∧ (a ||| b = 0 → a = 0 ∧ b = 0) := by
  rcases ha with rfl | rfl <;> rcases hb with rfl | rfl <;> decide
set_option maxRecDepth 20000 in
theorem ok_X1_runRound : Ok yX1_runRound mt_X1_runRound P_X1_runRound := by
  refine Ok.of (by decide) rfl rfl rfl rfl fun av ⟨S, I, L⟩ R hP => ?_
  unfold P_X1_runRound at hP
  split at hP
  case h_2 => exact hP.elim
  rename_i d k
  obtain ⟨d, rfl⟩ : ∃ q : Nat, q = d := ⟨d, rfl⟩
  obtain ⟨k, rfl⟩ : ∃ q : Nat, q = k := ⟨k, rfl⟩
  refine ⟨by simp [ent, wide, mt_X1_runRound], ?_⟩
  show J mt_X1_runRound R 0 [some (.ref d), some (.ref k), none, none, none, none] [] (S, I, L)
  try dsimp only at hP
  obtain ⟨rfl, hd, hk, hj0, n, m, hv, ho, hR⟩ := hP
  have hj : (k : Nat) + 5 ≤ 15 ∨ 18 ≤ (k : Nat) := hj0
  obtain ⟨⟨n2, n9, m6⟩, ⟨hn, hm⟩, hov, hoff, hlv, hto, hme⟩ := id hv
  refine J.of tk_X1_runRound 200 fun ρ hρ => ?_
  simp only [hρ, x_c, x_il, x_ll, x_al, x_is, x_as, x_ls, x_inc, x_ii, x_iq, x_i1, x_l2, x_lq, x_lh, x_i2l, x_l2i, x_lcmp, x_dup, x_dup2, x_pop, x_if, x_ifn, x_ic, x_icn, x_go, x_sw, swc, x_l01, x_mx, x_gI, x_gL, x_gR, x_pI, x_pZ, x_pL, x_pR, x_ia, x_za, x_aa, x_ias, x_zas, x_aas, x_fac, x_fa, x_slen, x_sa, x_ac, x_oi, x_new, x_na, x_cS, x_cV, x_cI, x_rI, x_rZ, x_rL, x_r0, pa, short, oc, lg, lset, lset2, wide, cond_true, cond_false, true_and, and_true, ↓reduceIte, Bool.false_eq_true, true_or, or_true, lf_X1_runRound]
  have key := up (P := fun i => ∀ I' ch, frD k I I' → (I' (k + 3), I' (k + 4)) = rndD n (I k 6) (ovS I k) (ordI I) i (I (k + 3), I (k + 4)) → (ch = 0 ∨ ch = 1) → (ch = 0 → I' (k + 3) = I (k + 3) ∧ I' (k + 4) = I (k + 4)) → J mt_X1_runRound R 4 [some (.ref 15), some (.ref k), some (.int ch), some (.int (nI i)), none, none] [] (S, I', L)) (n := m) (fun i hi ih => ?_) 0 (Nat.zero_le _)
  · exact key I 0 (fun _ _ _ _ _ => rfl) rfl (Or.inl rfl) (fun _ => ⟨rfl, rfl⟩)
  intro I' ch hf hD hch hz
  have e0 : I' k = I k := hf k (by omega) (by omega) (by omega) (by omega)
  have e1 : I' (k + 1) = I (k + 1) := hf (k + 1) (by omega) (by omega) (by omega) (by omega)
  have e16 : I' 16 = I 16 := hf 16 (by omega) (by omega) (by omega) (by omega)
  have fk : ∀ Q s n, foI I' Q s n k = I' k := fun Q s n => foI_r (by omega) (by omega)
  have fk1 : ∀ Q s n, foI I' Q s n (k + 1) = I' (k + 1) := fun Q s n => foI_r (by omega) (by omega)
  by_cases him : i < m
  · obtain ⟨c, hcm, hc⟩ := tn_ex (ho i him)
    have hs := hv.ov hcm
    have hs1 : I (k + 1) c = nI (ovS I k c) := (nI_tn _).symm
    have hsn : tn (nI (ovS I k c)) = ovS I k c := tn_nI (by omega)
    have hnn : tn (nI n) = n := tn_nI (by omega)
    have hcc : tn (nI (9 * c)) = 9 * c := tn_nI (by omega)
    have hoc : ordI I i = c := by unfold ordI; rw [hc]; exact tn_nI (by omega)
    have hcp : nI c * 9 = nI (9 * c) := by rw [nI9, pk_mul, Nat.mul_comm]
    have hex1 : ∃ n', n' ≤ 9 ∧ nI n = nI n' := ⟨n, n9, rfl⟩
    have hex2 : ∃ c', c' < 6 ∧ nI (9 * c) = nI (9 * c') := ⟨c, by omega, rfl⟩
    have hvi : vp_in (nI i) 6 := vp_in_nI (by omega) (by omega)
    have hvc : vp_in (nI c) 6 := vp_in_nI (by omega) (by omega)
    refine J.of tk_X1_runRound 200 fun ρ hρ => ?_
    simp only [hρ, x_c, x_il, x_ll, x_al, x_is, x_as, x_ls, x_inc, x_ii, x_iq, x_i1, x_l2, x_lq, x_lh, x_i2l, x_l2i, x_lcmp, x_dup, x_dup2, x_pop, x_if, x_ifn, x_ic, x_icn, x_go, x_sw, swc, x_l01, x_mx, x_gI, x_gL, x_gR, x_pI, x_pZ, x_pL, x_pR, x_ia, x_za, x_aa, x_ias, x_zas, x_aas, x_fac, x_fa, x_slen, x_sa, x_ac, x_oi, x_new, x_na, x_cS, x_cV, x_cI, x_rI, x_rZ, x_rL, x_r0, pa, short, oc, lg, lset, lset2, wide, cond_true, cond_false, true_and, and_true, ↓reduceIte, Bool.false_eq_true, true_or, or_true, lf_X1_runRound, hd, hk, hj0, hd.f, hk.f, e0, e1, e16, hm, hn, hc, hs1, fk, fk1, hsn, hnn, hcc, hcp, hex1, hex2, hs, hvi, hvc, nI_leI (show m < 2 ^ 31 by omega) (show i < 2 ^ 31 by omega), ncl (show i < 2 ^ 31 by omega), ncl (show c < 2 ^ 31 by omega), nI_1, P_X1_findOthers, P_X1_sendMessages]
    refine ⟨fun h => absurd h (by omega), fun _ => ?_⟩
    have hT : ∀ b, b < 9 → inR 99 (I' (k + 3) b) := by
      have := (rndD_ok (n := n) (off := I k 6) (ov := ovS I k) (ord := ordI I) (d := (I (k + 3), I (k + 4))) ⟨hto, hme⟩ i).1
      rw [← hD] at this
      exact this
    have hD2 := ck_D (I := I') (k := k) (s := ovS I k c) (c := c) hj n9 hT
    rw [e0, hD] at hD2
    have hor := or01 hch (chg_or (foI I' (Qv I' k (9 * c)) (ovS I k c) n (k + 4)) (snI (foI I' (Qv I' k (9 * c)) (ovS I k c) n) k (foS (Qv I' k (9 * c)) (ovS I k c) n).2.2.2) (ovS I k c) (9 * c) n)
    have hw := ih him (ckI I' k (ovS I k c) c n) (ch ||| ckF I' k (ovS I k c) c n) (fun q z1 z2 z3 z4 => (ck_fr z1 z2 z3 z4).trans (hf q z1 z2 z3 z4)) (by rw [hD2]; simp only [rndD]; rw [hoc]) hor.1 (fun z => by
      obtain ⟨z1, z2⟩ := hor.2 z
      obtain ⟨y1, y2⟩ := hz z1
      obtain ⟨x1, x2⟩ := ck_z hj z2
      exact ⟨x1.trans y1, x2.trans y2⟩)
    exact J.weak (by simp [lsub, ckF]) hw
  · have : i = m := by omega
    subst this
    refine J.of tk_X1_runRound 200 fun ρ hρ => ?_
    simp only [hρ, x_c, x_il, x_ll, x_al, x_is, x_as, x_ls, x_inc, x_ii, x_iq, x_i1, x_l2, x_lq, x_lh, x_i2l, x_l2i, x_lcmp, x_dup, x_dup2, x_pop, x_if, x_ifn, x_ic, x_icn, x_go, x_sw, swc, x_l01, x_mx, x_gI, x_gL, x_gR, x_pI, x_pZ, x_pL, x_pR, x_ia, x_za, x_aa, x_ias, x_zas, x_aas, x_fac, x_fa, x_slen, x_sa, x_ac, x_oi, x_new, x_na, x_cS, x_cV, x_cI, x_rI, x_rZ, x_rL, x_r0, pa, short, oc, lg, lset, lset2, wide, cond_true, cond_false, true_and, and_true, ↓reduceIte, Bool.false_eq_true, true_or, or_true, lf_X1_runRound, hd, hk, hd.f, hk.f, e0, hm, nI_leI (show i < 2 ^ 31 by omega) (show i < 2 ^ 31 by omega), Nat.le_refl]
    exact ⟨fun _ => ⟨hch, hR I' ch hf hD hch hz⟩, fun h => absurd trivial h⟩
/-! many rounds; a round that changes nothing is the last that does anything -/
def itD (n m : Nat) (off : Int32) (ov ord : Nat → Nat) : Nat → DS → DS
  | 0, d => d
  | r + 1, d => rndD n off ov ord m (itD n m off ov ord r d)
theorem itD_ok {n m : Nat} {off : Int32} {ov ord : Nat → Nat} {d : DS} (h : DSok d) : ∀ r, DSok (itD n m off ov ord r d)
  | 0 => h
  | r + 1 => rndD_ok (itD_ok h r) m
theorem itD_fix {n m : Nat} {off : Int32} {ov ord : Nat → Nat} {d : DS} {r : Nat} (h : rndD n off ov ord m (itD n m off ov ord r d) = itD n m off ov ord r d) : ∀ j, itD n m off ov ord (r + j) d = itD n m off ov ord r d
  | 0 => rfl
  | j + 1 => by
    show rndD n off ov ord m (itD n m off ov ord (r + j) d) = _
    rw [itD_fix h j, h]
theorem SV_D {I I' : MI} {k n m : Nat} (h : SV I k n m) (hk : I' k = I k) (h1 : I' (k + 1) = I (k + 1)) (h2 : I' (k + 2) = I (k + 2)) (hD : DSok (I' (k + 3), I' (k + 4))) : SV I' k n m := by
  obtain ⟨a, b, c, d, e, f, g⟩ := h
  refine ⟨a, by rw [hk]; exact b, by rw [h1]; exact c, by rw [hk]; exact d, by rw [h2]; exact e, hD.1, hD.2⟩
theorem SV.D {I : MI} {k n m : Nat} (h : SV I k n m) : DSok (I (k + 3), I (k + 4)) := ⟨h.2.2.2.2.2.1, h.2.2.2.2.2.2⟩
/-- all that rounds go by, when a state is another only in totals, messages, rounds -/
theorem ov_eq {I I' : MI} {k : Nat} (h1 : I' (k + 1) = I (k + 1)) : ovS I' k = ovS I k := by funext c; simp only [ovS, h1]
def il_X1_runRounds : List (Nat × Instr × Nat) := [(0, .iconst 1, 1), (1, .istore_n 3, 1), (2, .iconst 0, 1), (3, .istore 4, 2), (5, .iload 4, 2), (7, .iload_n 2, 1), (8, .if_icmp .ge 19, 3), (11, .iload_n 3, 1), (12, .ifCond .eq 15, 3), (15, .aload_n 0, 1), (16, .aload_n 1, 1), (17, .invokevirtual 21, 3), (20, .istore_n 3, 1), (21, .iinc 4 1, 3), (24, .goto (-19), 3), (27, .aload_n 1, 1), (28, .dup, 1), (29, .getfield 25, 3), (32, .iload_n 2, 1), (33, .iadd, 1), (34, .putfield 25, 3), (37, .return_, 1)]
def mt_X1_runRounds : Mt := (cX1_runRounds, RX1, 5, none, ({ frames := 3, cells := 0, slots := 0, locals := 77 } : Room), false, none, none)
set_option maxRecDepth 100000 in
theorem dl_X1_runRounds : ∀ q ∈ il_X1_runRounds, decode (mt_X1_runRounds).1 q.1 = .ok q.2 := by decide +kernel
def tb_X1_runRounds : Tb := [(0, x_c 1 (.int 1), false),
  (1, x_is 2 3, false),
  (2, x_c 3 (.int 0), false),
  (3, x_is 5 4, false),
  (5, x_il 7 4, true),
  (7, x_il 8 2, false),
  (8, x_ic 27 11 (fun x y : Int32 => y ≤ x), false),
  (11, x_il 12 3, false),
  (12, x_if 27 15 (fun x : Int32 => x = 0), false),
  (15, x_al 16 0, false),
  (16, x_al 17 1, false),
  (17, x_cV 1 1 P_X1_runRound 20, false),
  (20, x_is 21 3, false),
  (21, x_inc 24 4 1, false),
  (24, x_go 5, false),
  (27, x_al 28 1, false),
  (28, x_dup 29, false),
  (29, x_gI 5 7 32, false),
  (32, x_il 33 2, false),
  (33, x_ii 34 (fun x y : Int32 => x + y), false),
  (34, x_pI 5 7 37, false),
  (37, x_r0, false)]
set_option maxRecDepth 100000 in
theorem tk_X1_runRounds : TbOk (mt_X1_runRounds) (tb_X1_runRounds) :=
  tkc (s_iconst (at_ dl_X1_runRounds 0 (ins := .iconst 1) rfl) (by first | rfl | decide)) (
  tkc (s_istore_n (at_ dl_X1_runRounds 1 (ins := .istore_n 3) rfl) (by decide)) (
  tkc (s_iconst (at_ dl_X1_runRounds 2 (ins := .iconst 0) rfl) (by first | rfl | decide)) (
  tkc (s_istore (at_ dl_X1_runRounds 3 (ins := .istore 4) rfl) (by decide)) (
  tkc (s_iload (at_ dl_X1_runRounds 4 (ins := .iload 4) rfl)) (
  tkc (s_iload_n (at_ dl_X1_runRounds 5 (ins := .iload_n 2) rfl)) (
  tkc (s_ic_ge (at_ dl_X1_runRounds 6 (ins := .if_icmp .ge 19) rfl) (by decide)) (
  tkc (s_iload_n (at_ dl_X1_runRounds 7 (ins := .iload_n 3) rfl)) (
  tkc (s_if_eq (at_ dl_X1_runRounds 8 (ins := .ifCond .eq 15) rfl) (by decide)) (
  tkc (s_aload_n (at_ dl_X1_runRounds 9 (ins := .aload_n 0) rfl)) (
  tkc (s_aload_n (at_ dl_X1_runRounds 10 (ins := .aload_n 1) rfl)) (
  tkc (s_cV ok_X1_runRound (at_ dl_X1_runRounds 11 (ins := .invokevirtual 21) rfl) (by decide) rfl (tg 453 (by decide +kernel) (by decide +kernel)) (tg 454 (by decide +kernel) (by decide +kernel)) (tg 455 (by decide +kernel) (by decide +kernel)) (tg 46 (by decide +kernel) (by decide +kernel)) (tg 456 (by decide +kernel) (by decide +kernel)) (⟨by decide, by decide, by decide +kernel⟩) (⟨by decide, by decide⟩) rfl rfl) (
  tkc (s_istore_n (at_ dl_X1_runRounds 12 (ins := .istore_n 3) rfl) (by decide)) (
  tkc (s_iinc (at_ dl_X1_runRounds 13 (ins := .iinc 4 1) rfl) (by decide) (by first | rfl | decide)) (
  tkc (s_goto (at_ dl_X1_runRounds 14 (ins := .goto (-19)) rfl) (by decide)) (
  tkc (s_aload_n (at_ dl_X1_runRounds 15 (ins := .aload_n 1) rfl)) (
  tkc (s_dup (at_ dl_X1_runRounds 16 (ins := .dup) rfl)) (
  tkc (s_gI (at_ dl_X1_runRounds 17 (ins := .getfield 25) rfl) (by decide) (by decide) (by decide) (tg 149 (by decide +kernel) (by decide +kernel))) (
  tkc (s_iload_n (at_ dl_X1_runRounds 18 (ins := .iload_n 2) rfl)) (
  tkc (s_iadd (at_ dl_X1_runRounds 19 (ins := .iadd) rfl)) (
  tkc (s_pI (at_ dl_X1_runRounds 20 (ins := .putfield 25) rfl) (by decide) (by decide) (by decide) (by decide) (tg 149 (by decide +kernel) (by decide +kernel))) (
  tkc (s_r0 (at_ dl_X1_runRounds 21 (ins := .return_) rfl) rfl) ( tk0))))))))))))))))))))))
theorem lf_X1_runRounds : lk (tb_X1_runRounds) 0 = (x_c 1 (.int 1), false) ∧ lk (tb_X1_runRounds) 1 = (x_is 2 3, false) ∧ lk (tb_X1_runRounds) 2 = (x_c 3 (.int 0), false) ∧ lk (tb_X1_runRounds) 3 = (x_is 5 4, false) ∧ lk (tb_X1_runRounds) 5 = (x_il 7 4, true) ∧ lk (tb_X1_runRounds) 7 = (x_il 8 2, false) ∧ lk (tb_X1_runRounds) 8 = (x_ic 27 11 (fun x y : Int32 => y ≤ x), false) ∧ lk (tb_X1_runRounds) 11 = (x_il 12 3, false) ∧ lk (tb_X1_runRounds) 12 = (x_if 27 15 (fun x : Int32 => x = 0), false) ∧ lk (tb_X1_runRounds) 15 = (x_al 16 0, false) ∧ lk (tb_X1_runRounds) 16 = (x_al 17 1, false) ∧ lk (tb_X1_runRounds) 17 = (x_cV 1 1 P_X1_runRound 20, false) ∧ lk (tb_X1_runRounds) 20 = (x_is 21 3, false) ∧ lk (tb_X1_runRounds) 21 = (x_inc 24 4 1, false) ∧ lk (tb_X1_runRounds) 24 = (x_go 5, false) ∧ lk (tb_X1_runRounds) 27 = (x_al 28 1, false) ∧ lk (tb_X1_runRounds) 28 = (x_dup 29, false) ∧ lk (tb_X1_runRounds) 29 = (x_gI 5 7 32, false) ∧ lk (tb_X1_runRounds) 32 = (x_il 33 2, false) ∧ lk (tb_X1_runRounds) 33 = (x_ii 34 (fun x y : Int32 => x + y), false) ∧ lk (tb_X1_runRounds) 34 = (x_pI 5 7 37, false) ∧ lk (tb_X1_runRounds) 37 = (x_r0, false) := ⟨rfl, rfl, rfl, rfl, rfl, rfl, rfl, rfl, rfl, rfl, rfl, rfl, rfl, rfl, rfl, rfl, rfl, rfl, rfl, rfl, rfl, rfl⟩
/-- nothing but a state's totals, messages, rounds and the decoder's own places is another -/
def frR (k : Nat) (I I' : MI) : Prop := ∀ q, q ≠ k → q ≠ k + 3 → q ≠ k + 4 → q ≠ 15 → q ≠ 17 → I' q = I q
def P_X1_runRounds : PTT := fun as M R => match as with
  | [.ref d, .ref k, .int x] => d = 15 ∧ IsDc M.1 ∧ IsSt M.1 k ∧ ap15 k ∧ ∃ n m r, SV M.2.1 k n m ∧ OrdV M.2.1 m ∧ r ≤ 99 ∧ x = nI r ∧ ∀ I', frR k M.2.1 I' → I' k = upd (M.2.1 k) 7 (M.2.1 k 7 + nI r) → (I' (k + 3), I' (k + 4)) = itD n m (M.2.1 k 6) (ovS M.2.1 k) (ordI M.2.1) r (M.2.1 (k + 3), M.2.1 (k + 4)) → R none (M.1, I', M.2.2)
  | _ => False
set_option maxRecDepth 20000 in
theorem ok_X1_runRounds : Ok yX1_runRounds mt_X1_runRounds P_X1_runRounds := by
  refine Ok.of (by decide) rfl rfl rfl rfl fun av ⟨S, I, L⟩ R hP => ?_
  unfold P_X1_runRounds at hP
  split at hP
  case h_2 => exact hP.elim
  rename_i d k x
  obtain ⟨d, rfl⟩ : ∃ q : Nat, q = d := ⟨d, rfl⟩
  obtain ⟨k, rfl⟩ : ∃ q : Nat, q = k := ⟨k, rfl⟩
  refine ⟨by simp [ent, wide, mt_X1_runRounds], ?_⟩
  show J mt_X1_runRounds R 0 [some (.ref d), some (.ref k), some (.int x), none, none] [] (S, I, L)
  try dsimp only at hP
  obtain ⟨rfl, hd, hk, hj0, n, m, r, hv, ho, hr9, rfl, hR⟩ := hP
  have hj : (k : Nat) + 5 ≤ 15 ∨ 18 ≤ (k : Nat) := hj0
  obtain ⟨⟨n2, n9, m6⟩, ⟨hn, hm⟩, hov, hoff, hlv, hto, hme⟩ := id hv
  refine J.of tk_X1_runRounds 200 fun ρ hρ => ?_
  simp only [hρ, x_c, x_il, x_ll, x_al, x_is, x_as, x_ls, x_inc, x_ii, x_iq, x_i1, x_l2, x_lq, x_lh, x_i2l, x_l2i, x_lcmp, x_dup, x_dup2, x_pop, x_if, x_ifn, x_ic, x_icn, x_go, x_sw, swc, x_l01, x_mx, x_gI, x_gL, x_gR, x_pI, x_pZ, x_pL, x_pR, x_ia, x_za, x_aa, x_ias, x_zas, x_aas, x_fac, x_fa, x_slen, x_sa, x_ac, x_oi, x_new, x_na, x_cS, x_cV, x_cI, x_rI, x_rZ, x_rL, x_r0, pa, short, oc, lg, lset, lset2, wide, cond_true, cond_false, true_and, and_true, ↓reduceIte, Bool.false_eq_true, true_or, or_true, lf_X1_runRounds]
  -- the end
  have fin : ∀ I', frD k I I' → (I' (k + 3), I' (k + 4)) = itD n m (I k 6) (ovS I k) (ordI I) r (I (k + 3), I (k + 4)) → R none (S, mS I' k (upd (I' k) 7 (I' k 7 + nI r)), L) := by
    intro I' hf hD
    have e0 : I' k = I k := hf k (by omega) (by omega) (by omega) (by omega)
    refine hR _ (fun q h0 h3 h4 h15 h17 => ?_) ?_ ?_
    · rw [mS_n h0]; exact hf q h3 h4 h15 h17
    · rw [mS_s, e0]
    · rw [mS_n (by omega), mS_n (by omega)]; exact hD
  have key := up (P := fun i => ∀ I' ch, frD k I I' → (I' (k + 3), I' (k + 4)) = itD n m (I k 6) (ovS I k) (ordI I) i (I (k + 3), I (k + 4)) → (ch = 0 ∨ ch = 1) → (ch = 0 → rndD n (I k 6) (ovS I k) (ordI I) m (itD n m (I k 6) (ovS I k) (ordI I) i (I (k + 3), I (k + 4))) = itD n m (I k 6) (ovS I k) (ordI I) i (I (k + 3), I (k + 4))) → J mt_X1_runRounds R 5 [some (.ref 15), some (.ref k), some (.int (nI r)), some (.int ch), some (.int (nI i))] [] (S, I', L)) (n := r) (fun i hi ih => ?_) 0 (Nat.zero_le _)
  · exact key I 1 (fun _ _ _ _ _ => rfl) rfl (Or.inr rfl) (fun h => absurd h (by decide))
  intro I' ch hf hD hch hz
  have e0 : I' k = I k := hf k (by omega) (by omega) (by omega) (by omega)
  have e1 : I' (k + 1) = I (k + 1) := hf (k + 1) (by omega) (by omega) (by omega) (by omega)
  have e2 : I' (k + 2) = I (k + 2) := hf (k + 2) (by omega) (by omega) (by omega) (by omega)
  have e16 : I' 16 = I 16 := hf 16 (by omega) (by omega) (by omega) (by omega)
  have hok := itD_ok (n := n) (m := m) (off := I k 6) (ov := ovS I k) (ord := ordI I) hv.D i
  have hv' : SV I' k n m := SV_D hv e0 e1 e2 (by rw [hD]; exact hok)
  have ho' : OrdV I' m := by intro j hj; rw [e16]; exact ho j hj
  refine J.of tk_X1_runRounds 200 fun ρ hρ => ?_
  simp only [hρ, x_c, x_il, x_ll, x_al, x_is, x_as, x_ls, x_inc, x_ii, x_iq, x_i1, x_l2, x_lq, x_lh, x_i2l, x_l2i, x_lcmp, x_dup, x_dup2, x_pop, x_if, x_ifn, x_ic, x_icn, x_go, x_sw, swc, x_l01, x_mx, x_gI, x_gL, x_gR, x_pI, x_pZ, x_pL, x_pR, x_ia, x_za, x_aa, x_ias, x_zas, x_aas, x_fac, x_fa, x_slen, x_sa, x_ac, x_oi, x_new, x_na, x_cS, x_cV, x_cI, x_rI, x_rZ, x_rL, x_r0, pa, short, oc, lg, lset, lset2, wide, cond_true, cond_false, true_and, and_true, ↓reduceIte, Bool.false_eq_true, true_or, or_true, lf_X1_runRounds, hd, hk, hj0, hd.f, hk.f, P_X1_runRound, nI_leI (show r < 2 ^ 31 by omega) (show i < 2 ^ 31 by omega), nI_1]
  refine ⟨fun h => ?_, fun h => ⟨fun h2 => ?_, fun h2 => ⟨n, m, hv', ho', fun I2 ch2 hf2 hD2 hch2 hz2 => ?_⟩⟩⟩
  · have : i = r := by omega
    subst this
    exact fin I' hf hD
  · refine fin I' hf ?_
    rw [hD, show r = i + (r - i) by omega, itD_fix (hz h2)]
  · have eo : ordI I' = ordI I := by funext j; simp only [ordI, e16]
    rw [e0, ov_eq e1, eo, hD] at hD2
    refine ih (by omega) I2 ch2 (fun q a b c d => (hf2 q a b c d).trans (hf q a b c d)) hD2 hch2 (fun z => ?_)
    obtain ⟨z1, z2⟩ := hz2 z
    show rndD n (I k 6) (ovS I k) (ordI I) m (rndD n (I k 6) (ovS I k) (ordI I) m (itD n m (I k 6) (ovS I k) (ordI I) i (I (k + 3), I (k + 4)))) = rndD n (I k 6) (ovS I k) (ordI I) m (itD n m (I k 6) (ovS I k) (ordI I) i (I (k + 3), I (k + 4)))
    have : rndD n (I k 6) (ovS I k) (ordI I) m (itD n m (I k 6) (ovS I k) (ordI I) i (I (k + 3), I (k + 4))) = itD n m (I k 6) (ovS I k) (ordI I) i (I (k + 3), I (k + 4)) := by rw [← hD2, z1, z2, hD]
    rw [this, this]
end
section
/-! DECODER: how many rounds are needed; the order of checks -/
def opD (n m : Nat) (ov : Nat → Nat) (d : DS) : Nat := opB ov m (wdF d.1 n)
/-- NEEDS, and behind how many rounds one stands then -/
def ndR (sol : Nat → Bool) : Nat → Nat → Int32 × Nat
  | 0, r => (if sol r = true then nI r else -9, r)
  | d + 1, r => if sol r = true then (nI r, r) else ndR sol d (r + 1)
def need (sol : Nat → Bool) : Int32 × Nat := ndR sol 20 0
def d0S (I : MI) (k : Nat) : DS := (cpy (I (k + 2)) (I (k + 3)) 9, zr (I (k + 4)) 54)
def solS (n m : Nat) (off : Int32) (ov ord : Nat → Nat) (d : DS) : Nat → Bool := fun r => opD n m ov (itD n m off ov ord r d) == 0
theorem ndR_congr {f g : Nat → Bool} : ∀ {d r : Nat}, (∀ j, j ≤ r + d → f j = g j) → ndR f d r = ndR g d r
  | 0, r, h => by simp only [ndR]; rw [h r (by omega)]
  | d + 1, r, h => by
    simp only [ndR]
    rw [h r (by omega), ndR_congr (fun j hj => h j (by omega))]
theorem need_congr {f g : Nat → Bool} (h : ∀ j, j ≤ 20 → f j = g j) : need f = need g := ndR_congr (fun j hj => h j (by omega))
theorem ndR_le (f : Nat → Bool) : ∀ d r, (ndR f d r).2 ≤ r + d
  | 0, r => Nat.le_refl _
  | d + 1, r => by
    simp only [ndR]
    split
    · simp only; omega
    · have := ndR_le f d (r + 1); omega
theorem need_le (f : Nat → Bool) : (need f).2 ≤ 20 := by have := ndR_le f 20 0; unfold need; omega
theorem ndR_no {f : Nat → Bool} : ∀ {d r : Nat}, (∀ j, r ≤ j → j ≤ r + d → f j = false) → ndR f d r = (-9, r + d)
  | 0, r, h => by simp only [ndR]; rw [h r (by omega) (by omega)]; rfl
  | d + 1, r, h => by
    simp only [ndR]
    rw [h r (by omega) (by omega), if_neg (by decide), ndR_no (fun j h1 h2 => h j (by omega) (by omega))]
    congr 1
    omega
theorem d0_ok {I : MI} {k n m : Nat} (h : SV I k n m) : DSok (d0S I k) := by
  refine ⟨fun b hb => ?_, fun j hj => ?_⟩
  · simp only [d0S]; rw [cpy_in hb]
    have := h.2.2.2.2.1 b hb
    exact ⟨by have := this.1; omega, by have := this.2; omega⟩
  · simp only [d0S, zr]; rw [if_pos hj]; exact ⟨by decide, by decide⟩
theorem beg_r {I : MI} {k q : Nat} (h0 : q ≠ k) (h3 : q ≠ k + 3) (h4 : q ≠ k + 4) : begI I k q = I q := by
  unfold begI; rw [mS_n h0, mS_n h4, mS_n h3]
theorem beg_k (I : MI) (k : Nat) : begI I k k = upd (I k) 7 0 := by unfold begI; rw [mS_s]
theorem beg_3 (I : MI) (k : Nat) : begI I k (k + 3) = cpy (I (k + 2)) (I (k + 3)) 9 := by unfold begI; rw [mS_n (by omega), mS_n (by omega), mS_s]
theorem beg_4 (I : MI) (k : Nat) : begI I k (k + 4) = zr (I (k + 4)) 54 := by unfold begI; rw [mS_n (by omega), mS_s]
theorem SV_beg {I : MI} {k n m : Nat} (h : SV I k n m) : SV (begI I k) k n m := by
  have hok := d0_ok h
  obtain ⟨a, b, c, d, e, f, g⟩ := h
  have e1 : begI I k (k + 1) = I (k + 1) := beg_r (by omega) (by omega) (by omega)
  have e2 : begI I k (k + 2) = I (k + 2) := beg_r (by omega) (by omega) (by omega)
  refine ⟨a, by rw [beg_k]; simpa [upd_app] using b, by rw [e1]; exact c, by rw [beg_k]; simpa [upd_app] using d, by rw [e2]; exact e, by rw [beg_3]; exact hok.1, by rw [beg_4]; exact hok.2⟩
def il_X1_runUntilSolved : List (Nat × Instr × Nat) := [(0, .aload_n 1, 1), (1, .invokevirtual 31, 3), (4, .iconst 1, 1), (5, .istore_n 2, 1), (6, .iconst 0, 1), (7, .istore_n 3, 1), (8, .iload_n 3, 1), (9, .bipush 20, 2), (11, .if_icmp .ge 28, 3), (14, .iload_n 2, 1), (15, .ifCond .eq 24, 3), (18, .aload_n 1, 1), (19, .invokevirtual 34, 3), (22, .ifCond .eq 5, 3), (25, .iload_n 3, 1), (26, .ireturn, 1), (27, .aload_n 0, 1), (28, .aload_n 1, 1), (29, .invokevirtual 21, 3), (32, .istore_n 2, 1), (33, .iinc 3 1, 3), (36, .goto (-28), 3), (39, .aload_n 1, 1), (40, .invokevirtual 34, 3), (43, .ifCond .eq 8, 3), (46, .bipush 20, 2), (48, .goto 5, 3), (51, .bipush (-9), 2), (53, .ireturn, 1)]
def mt_X1_runUntilSolved : Mt := (cX1_runUntilSolved, RX1, 4, (some .int), ({ frames := 3, cells := 0, slots := 0, locals := 77 } : Room), false, none, none)
set_option maxRecDepth 100000 in
theorem dl_X1_runUntilSolved : ∀ q ∈ il_X1_runUntilSolved, decode (mt_X1_runUntilSolved).1 q.1 = .ok q.2 := by decide +kernel
def tb_X1_runUntilSolved : Tb := [(0, x_al 1 1, false),
  (1, x_cV 5 0 P_X5_beginAnew 4, false),
  (4, x_c 5 (.int 1), false),
  (5, x_is 6 2, false),
  (6, x_c 7 (.int 0), false),
  (7, x_is 8 3, false),
  (8, x_il 9 3, true),
  (9, x_c 11 (.int 20), false),
  (11, x_ic 39 14 (fun x y : Int32 => y ≤ x), false),
  (14, x_il 15 2, false),
  (15, x_if 39 18 (fun x : Int32 => x = 0), false),
  (18, x_al 19 1, false),
  (19, x_cV 5 0 P_X5_solved 22, false),
  (22, x_if 27 25 (fun x : Int32 => x = 0), false),
  (25, x_il 26 3, false),
  (26, x_rI, false),
  (27, x_al 28 0, false),
  (28, x_al 29 1, false),
  (29, x_cV 1 1 P_X1_runRound 32, false),
  (32, x_is 33 2, false),
  (33, x_inc 36 3 1, false),
  (36, x_go 8, false),
  (39, x_al 40 1, false),
  (40, x_cV 5 0 P_X5_solved 43, false),
  (43, x_if 51 46 (fun x : Int32 => x = 0), false),
  (46, x_c 48 (.int 20), false),
  (48, x_go 53, false),
  (51, x_c 53 (.int (-9)), false),
  (53, x_rI, false)]
set_option maxRecDepth 100000 in
theorem tk_X1_runUntilSolved : TbOk (mt_X1_runUntilSolved) (tb_X1_runUntilSolved) :=
  tkc (s_aload_n (at_ dl_X1_runUntilSolved 0 (ins := .aload_n 1) rfl)) (
  tkc (s_cV ok_X5_beginAnew (at_ dl_X1_runUntilSolved 1 (ins := .invokevirtual 31) rfl) (by decide) rfl (tg 451 (by decide +kernel) (by decide +kernel)) (tg 349 (by decide +kernel) (by decide +kernel)) (tg 350 (by decide +kernel) (by decide +kernel)) (tg 45 (by decide +kernel) (by decide +kernel)) (tg 351 (by decide +kernel) (by decide +kernel)) (⟨by decide, by decide, by decide +kernel⟩) (⟨by decide, by decide⟩) rfl rfl) (
  tkc (s_iconst (at_ dl_X1_runUntilSolved 2 (ins := .iconst 1) rfl) (by first | rfl | decide)) (
  tkc (s_istore_n (at_ dl_X1_runUntilSolved 3 (ins := .istore_n 2) rfl) (by decide)) (
  tkc (s_iconst (at_ dl_X1_runUntilSolved 4 (ins := .iconst 0) rfl) (by first | rfl | decide)) (
  tkc (s_istore_n (at_ dl_X1_runUntilSolved 5 (ins := .istore_n 3) rfl) (by decide)) (
  tkc (s_iload_n (at_ dl_X1_runUntilSolved 6 (ins := .iload_n 3) rfl)) (
  tkc (s_bipush (at_ dl_X1_runUntilSolved 7 (ins := .bipush 20) rfl) (by first | rfl | decide)) (
  tkc (s_ic_ge (at_ dl_X1_runUntilSolved 8 (ins := .if_icmp .ge 28) rfl) (by decide)) (
  tkc (s_iload_n (at_ dl_X1_runUntilSolved 9 (ins := .iload_n 2) rfl)) (
  tkc (s_if_eq (at_ dl_X1_runUntilSolved 10 (ins := .ifCond .eq 24) rfl) (by decide)) (
  tkc (s_aload_n (at_ dl_X1_runUntilSolved 11 (ins := .aload_n 1) rfl)) (
  tkc (s_cV ok_X5_solved (at_ dl_X1_runUntilSolved 12 (ins := .invokevirtual 34) rfl) (by decide) rfl (tg 452 (by decide +kernel) (by decide +kernel)) (tg 380 (by decide +kernel) (by decide +kernel)) (tg 381 (by decide +kernel) (by decide +kernel)) (tg 45 (by decide +kernel) (by decide +kernel)) (tg 382 (by decide +kernel) (by decide +kernel)) (⟨by decide, by decide, by decide +kernel⟩) (⟨by decide, by decide⟩) rfl rfl) (
  tkc (s_if_eq (at_ dl_X1_runUntilSolved 13 (ins := .ifCond .eq 5) rfl) (by decide)) (
  tkc (s_iload_n (at_ dl_X1_runUntilSolved 14 (ins := .iload_n 3) rfl)) (
  tkc (s_rI (at_ dl_X1_runUntilSolved 15 (ins := .ireturn) rfl) rfl) (
  tkc (s_aload_n (at_ dl_X1_runUntilSolved 16 (ins := .aload_n 0) rfl)) (
  tkc (s_aload_n (at_ dl_X1_runUntilSolved 17 (ins := .aload_n 1) rfl)) (
  tkc (s_cV ok_X1_runRound (at_ dl_X1_runUntilSolved 18 (ins := .invokevirtual 21) rfl) (by decide) rfl (tg 453 (by decide +kernel) (by decide +kernel)) (tg 454 (by decide +kernel) (by decide +kernel)) (tg 455 (by decide +kernel) (by decide +kernel)) (tg 46 (by decide +kernel) (by decide +kernel)) (tg 456 (by decide +kernel) (by decide +kernel)) (⟨by decide, by decide, by decide +kernel⟩) (⟨by decide, by decide⟩) rfl rfl) (
  tkc (s_istore_n (at_ dl_X1_runUntilSolved 19 (ins := .istore_n 2) rfl) (by decide)) (
  tkc (s_iinc (at_ dl_X1_runUntilSolved 20 (ins := .iinc 3 1) rfl) (by decide) (by first | rfl | decide)) (
  tkc (s_goto (at_ dl_X1_runUntilSolved 21 (ins := .goto (-28)) rfl) (by decide)) (
  tkc (s_aload_n (at_ dl_X1_runUntilSolved 22 (ins := .aload_n 1) rfl)) (
  tkc (s_cV ok_X5_solved (at_ dl_X1_runUntilSolved 23 (ins := .invokevirtual 34) rfl) (by decide) rfl (tg 452 (by decide +kernel) (by decide +kernel)) (tg 380 (by decide +kernel) (by decide +kernel)) (tg 381 (by decide +kernel) (by decide +kernel)) (tg 45 (by decide +kernel) (by decide +kernel)) (tg 382 (by decide +kernel) (by decide +kernel)) (⟨by decide, by decide, by decide +kernel⟩) (⟨by decide, by decide⟩) rfl rfl) (
  tkc (s_if_eq (at_ dl_X1_runUntilSolved 24 (ins := .ifCond .eq 8) rfl) (by decide)) (
  tkc (s_bipush (at_ dl_X1_runUntilSolved 25 (ins := .bipush 20) rfl) (by first | rfl | decide)) (
  tkc (s_goto (at_ dl_X1_runUntilSolved 26 (ins := .goto 5) rfl) (by decide)) (
  tkc (s_bipush (at_ dl_X1_runUntilSolved 27 (ins := .bipush (-9)) rfl) (by first | rfl | decide)) (
  tkc (s_rI (at_ dl_X1_runUntilSolved 28 (ins := .ireturn) rfl) rfl) ( tk0)))))))))))))))))))))))))))))
theorem lf_X1_runUntilSolved : lk (tb_X1_runUntilSolved) 0 = (x_al 1 1, false) ∧ lk (tb_X1_runUntilSolved) 1 = (x_cV 5 0 P_X5_beginAnew 4, false) ∧ lk (tb_X1_runUntilSolved) 4 = (x_c 5 (.int 1), false) ∧ lk (tb_X1_runUntilSolved) 5 = (x_is 6 2, false) ∧ lk (tb_X1_runUntilSolved) 6 = (x_c 7 (.int 0), false) ∧ lk (tb_X1_runUntilSolved) 7 = (x_is 8 3, false) ∧ lk (tb_X1_runUntilSolved) 8 = (x_il 9 3, true) ∧ lk (tb_X1_runUntilSolved) 9 = (x_c 11 (.int 20), false) ∧ lk (tb_X1_runUntilSolved) 11 = (x_ic 39 14 (fun x y : Int32 => y ≤ x), false) ∧ lk (tb_X1_runUntilSolved) 14 = (x_il 15 2, false) ∧ lk (tb_X1_runUntilSolved) 15 = (x_if 39 18 (fun x : Int32 => x = 0), false) ∧ lk (tb_X1_runUntilSolved) 18 = (x_al 19 1, false) ∧ lk (tb_X1_runUntilSolved) 19 = (x_cV 5 0 P_X5_solved 22, false) ∧ lk (tb_X1_runUntilSolved) 22 = (x_if 27 25 (fun x : Int32 => x = 0), false) ∧ lk (tb_X1_runUntilSolved) 25 = (x_il 26 3, false) ∧ lk (tb_X1_runUntilSolved) 26 = (x_rI, false) ∧ lk (tb_X1_runUntilSolved) 27 = (x_al 28 0, false) ∧ lk (tb_X1_runUntilSolved) 28 = (x_al 29 1, false) ∧ lk (tb_X1_runUntilSolved) 29 = (x_cV 1 1 P_X1_runRound 32, false) ∧ lk (tb_X1_runUntilSolved) 32 = (x_is 33 2, false) ∧ lk (tb_X1_runUntilSolved) 33 = (x_inc 36 3 1, false) ∧ lk (tb_X1_runUntilSolved) 36 = (x_go 8, false) ∧ lk (tb_X1_runUntilSolved) 39 = (x_al 40 1, false) ∧ lk (tb_X1_runUntilSolved) 40 = (x_cV 5 0 P_X5_solved 43, false) ∧ lk (tb_X1_runUntilSolved) 43 = (x_if 51 46 (fun x : Int32 => x = 0), false) ∧ lk (tb_X1_runUntilSolved) 46 = (x_c 48 (.int 20), false) ∧ lk (tb_X1_runUntilSolved) 48 = (x_go 53, false) ∧ lk (tb_X1_runUntilSolved) 51 = (x_c 53 (.int (-9)), false) ∧ lk (tb_X1_runUntilSolved) 53 = (x_rI, false) := ⟨rfl, rfl, rfl, rfl, rfl, rfl, rfl, rfl, rfl, rfl, rfl, rfl, rfl, rfl, rfl, rfl, rfl, rfl, rfl, rfl, rfl, rfl, rfl, rfl, rfl, rfl, rfl, rfl, rfl⟩
def P_X1_runUntilSolved : PTT := fun as M R => match as with
  | [.ref d, .ref k] => d = 15 ∧ IsDc M.1 ∧ IsSt M.1 k ∧ ap15 k ∧ ∃ n m, SV M.2.1 k n m ∧ OrdV M.2.1 m ∧ ∀ I', frR k M.2.1 I' → I' k = upd (M.2.1 k) 7 0 → (I' (k + 3), I' (k + 4)) = itD n m (M.2.1 k 6) (ovS M.2.1 k) (ordI M.2.1) (need (solS n m (M.2.1 k 6) (ovS M.2.1 k) (ordI M.2.1) (d0S M.2.1 k))).2 (d0S M.2.1 k) → R (some (.int (need (solS n m (M.2.1 k 6) (ovS M.2.1 k) (ordI M.2.1) (d0S M.2.1 k))).1)) (M.1, I', M.2.2)
  | _ => False
theorem nI20 : (20 : Int32) = nI 20 := by decide
set_option maxRecDepth 20000 in
theorem ok_X1_runUntilSolved : Ok yX1_runUntilSolved mt_X1_runUntilSolved P_X1_runUntilSolved := by
  refine Ok.of (by decide) rfl rfl rfl rfl fun av ⟨S, I, L⟩ R hP => ?_
  unfold P_X1_runUntilSolved at hP
  split at hP
  case h_2 => exact hP.elim
  rename_i d k
  obtain ⟨d, rfl⟩ : ∃ q : Nat, q = d := ⟨d, rfl⟩
  obtain ⟨k, rfl⟩ : ∃ q : Nat, q = k := ⟨k, rfl⟩
  refine ⟨by simp [ent, wide, mt_X1_runUntilSolved], ?_⟩
  show J mt_X1_runUntilSolved R 0 [some (.ref d), some (.ref k), none, none] [] (S, I, L)
  try dsimp only at hP
  obtain ⟨rfl, hd, hk, hj0, n, m, hv, ho, hR⟩ := hP
  have hj : (k : Nat) + 5 ≤ 15 ∨ 18 ≤ (k : Nat) := hj0
  obtain ⟨⟨n2, n9, m6⟩, -⟩ := id hv
  refine J.of tk_X1_runUntilSolved 200 fun ρ hρ => ?_
  simp only [hρ, x_c, x_il, x_ll, x_al, x_is, x_as, x_ls, x_inc, x_ii, x_iq, x_i1, x_l2, x_lq, x_lh, x_i2l, x_l2i, x_lcmp, x_dup, x_dup2, x_pop, x_if, x_ifn, x_ic, x_icn, x_go, x_sw, swc, x_l01, x_mx, x_gI, x_gL, x_gR, x_pI, x_pZ, x_pL, x_pR, x_ia, x_za, x_aa, x_ias, x_zas, x_aas, x_fac, x_fa, x_slen, x_sa, x_ac, x_oi, x_new, x_na, x_cS, x_cV, x_cI, x_rI, x_rZ, x_rL, x_r0, pa, short, oc, lg, lset, lset2, wide, cond_true, cond_false, true_and, and_true, ↓reduceIte, Bool.false_eq_true, true_or, or_true, lf_X1_runUntilSolved, hk, hk.f, P_X5_beginAnew]
  have hvb := SV_beg hv
  generalize hB : begI I k = B at hvb
  have hBk : B k = upd (I k) 7 0 := by rw [← hB, beg_k]
  have hB1 : B (k + 1) = I (k + 1) := by rw [← hB]; exact beg_r (by omega) (by omega) (by omega)
  have hB16 : B 16 = I 16 := by rw [← hB]; exact beg_r (by omega) (by omega) (by omega)
  have hBd : (B (k + 3), B (k + 4)) = d0S I k := by rw [← hB, beg_3, beg_4]; rfl
  have hBo : OrdV B m := by intro j hj; rw [hB16]; exact ho j hj
  have hoff : B k 6 = I k 6 := by rw [hBk]; rfl
  have hBov : ovS B k = ovS I k := ov_eq hB1
  have hBor : ordI B = ordI I := by funext j; simp only [ordI, hB16]
  generalize hsol : solS n m (I k 6) (ovS I k) (ordI I) (d0S I k) = sol at hR
  have key : ∀ dd i, i + dd = 20 → ∀ I' ch, frD k B I' → (I' (k + 3), I' (k + 4)) = itD n m (I k 6) (ovS I k) (ordI I) i (d0S I k) → (ch = 0 ∨ ch = 1) → (ch = 0 → itD n m (I k 6) (ovS I k) (ordI I) 20 (d0S I k) = itD n m (I k 6) (ovS I k) (ordI I) i (d0S I k) ∧ sol i = false ∧ need sol = (-9, 20)) → ndR sol dd i = need sol → J mt_X1_runUntilSolved R 8 [some (.ref 15), some (.ref k), some (.int ch), some (.int (nI i))] [] (S, I', L) := by
    intro dd
    induction dd with
    | zero =>
      intro i hi I' ch hf hD hch hz hnd
      have hi : i = 20 := by omega
      subst hi
      have e0 : I' k = B k := hf k (by omega) (by omega) (by omega) (by omega)
      have e1 : I' (k + 1) = B (k + 1) := hf (k + 1) (by omega) (by omega) (by omega) (by omega)
      have e2 : I' (k + 2) = B (k + 2) := hf (k + 2) (by omega) (by omega) (by omega) (by omega)
      have hok := itD_ok (n := n) (m := m) (off := I k 6) (ov := ovS I k) (ord := ordI I) (d0_ok hv) 20
      have hv' : SV I' k n m := SV_D hvb e0 e1 e2 (by rw [hD]; exact hok)
      have hs : (opS I' k = 0) ↔ sol 20 = true := by
        rw [← hsol]
        simp only [solS, opD, beq_iff_eq]
        rw [← hD]
        unfold opS
        rw [hv'.2.1.1, hv'.2.1.2, tn_nI (n := n) (by omega), tn_nI (n := m) (by omega), ov_eq (I := I) (e1.trans hB1)]
      have fin : ∀ v, (if sol 20 = true then nI 20 else -9) = v → R (some (.int v)) (S, I', L) := by
        intro v hv
        have h2 := hR I' (fun q a b c d e => by rw [hf q b c d e, ← hB]; exact beg_r a b c) (by rw [e0, hBk]) (by rw [← hnd]; exact hD)
        rw [← hnd] at h2
        simp only [ndR] at h2
        rwa [hv] at h2
      refine J.of tk_X1_runUntilSolved 200 fun ρ hρ => ?_
      simp only [hρ, x_c, x_il, x_ll, x_al, x_is, x_as, x_ls, x_inc, x_ii, x_iq, x_i1, x_l2, x_lq, x_lh, x_i2l, x_l2i, x_lcmp, x_dup, x_dup2, x_pop, x_if, x_ifn, x_ic, x_icn, x_go, x_sw, swc, x_l01, x_mx, x_gI, x_gL, x_gR, x_pI, x_pZ, x_pL, x_pR, x_ia, x_za, x_aa, x_ias, x_zas, x_aas, x_fac, x_fa, x_slen, x_sa, x_ac, x_oi, x_new, x_na, x_cS, x_cV, x_cI, x_rI, x_rZ, x_rL, x_r0, pa, short, oc, lg, lset, lset2, wide, cond_true, cond_false, true_and, and_true, ↓reduceIte, Bool.false_eq_true, true_or, or_true, lf_X1_runUntilSolved, hk, hk.f, P_X5_solved, hv'.q, nI20, nI_leI (show 20 < 2 ^ 31 by omega) (show 20 < 2 ^ 31 by omega), Nat.le_refl, bI_0, Classical.not_not, hs]
      exact ⟨fun _ => ⟨fun h => fin _ (if_neg h), fun h => fin _ (if_pos h)⟩, fun h => absurd trivial h⟩
    | succ dd ih =>
      intro i hi I' ch hf hD hch hz hnd
      have e0 : I' k = B k := hf k (by omega) (by omega) (by omega) (by omega)
      have e1 : I' (k + 1) = B (k + 1) := hf (k + 1) (by omega) (by omega) (by omega) (by omega)
      have e2 : I' (k + 2) = B (k + 2) := hf (k + 2) (by omega) (by omega) (by omega) (by omega)
      have e16 : I' 16 = B 16 := hf 16 (by omega) (by omega) (by omega) (by omega)
      have hok := itD_ok (n := n) (m := m) (off := I k 6) (ov := ovS I k) (ord := ordI I) (d0_ok hv) i
      have hv' : SV I' k n m := SV_D hvb e0 e1 e2 (by rw [hD]; exact hok)
      have ho' : OrdV I' m := by intro j hj; rw [e16]; exact hBo j hj
      have hs : (opS I' k = 0) ↔ sol i = true := by
        rw [← hsol]
        simp only [solS, opD, beq_iff_eq]
        rw [← hD]
        unfold opS
        rw [hv'.2.1.1, hv'.2.1.2, tn_nI (n := n) (by omega), tn_nI (n := m) (by omega), ov_eq (I := I) (e1.trans hB1)]
      have hfr : frR k I I' := fun q a b c d e => by rw [hf q b c d e, ← hB]; exact beg_r a b c
      refine J.of tk_X1_runUntilSolved 200 fun ρ hρ => ?_
      simp only [hρ, x_c, x_il, x_ll, x_al, x_is, x_as, x_ls, x_inc, x_ii, x_iq, x_i1, x_l2, x_lq, x_lh, x_i2l, x_l2i, x_lcmp, x_dup, x_dup2, x_pop, x_if, x_ifn, x_ic, x_icn, x_go, x_sw, swc, x_l01, x_mx, x_gI, x_gL, x_gR, x_pI, x_pZ, x_pL, x_pR, x_ia, x_za, x_aa, x_ias, x_zas, x_aas, x_fac, x_fa, x_slen, x_sa, x_ac, x_oi, x_new, x_na, x_cS, x_cV, x_cI, x_rI, x_rZ, x_rL, x_r0, pa, short, oc, lg, lset, lset2, wide, cond_true, cond_false, true_and, and_true, ↓reduceIte, Bool.false_eq_true, true_or, or_true, lf_X1_runUntilSolved, hd, hk, hj0, hd.f, hk.f, P_X5_solved, P_X1_runRound, hv'.q, nI20, nI_leI (show 20 < 2 ^ 31 by omega) (show i < 2 ^ 31 by omega), bI_0, Classical.not_not, hs, nI_1]
      refine ⟨fun h => absurd h (by omega), fun _ => ⟨fun h2 => ?_, fun h2 => ⟨fun h3 => ?_, fun h3 => ?_⟩⟩⟩
      · obtain ⟨z1, z2, z3⟩ := hz h2
        refine ⟨fun h => ?_, fun h => absurd h (by rw [z2]; decide)⟩
        have h4 := hR I' hfr (by rw [e0, hBk]) (by rw [z3, hD, z1])
        rwa [z3] at h4
      · refine ⟨n, m, hv', ho', fun I2 ch2 hf2 hD2 hch2 hz2 => ?_⟩
        have h3' : sol i = false := by cases h : sol i; rfl; exact absurd h h3
        rw [e0, hoff, ov_eq (I := I) (e1.trans hB1), show ordI I' = ordI I by rw [← hBor]; funext j; simp only [ordI, e16], hD] at hD2
        refine ih (i + 1) (by omega) I2 ch2 (fun q a b c d => (hf2 q a b c d).trans (hf q a b c d)) hD2 hch2 (fun z => ?_) (by rw [← hnd]; simp only [ndR]; rw [if_neg h3])
        obtain ⟨z1, z2⟩ := hz2 z
        have hfix : rndD n (I k 6) (ovS I k) (ordI I) m (itD n m (I k 6) (ovS I k) (ordI I) i (d0S I k)) = itD n m (I k 6) (ovS I k) (ordI I) i (d0S I k) := by rw [← hD2, z1, z2, hD]
        have hall : ∀ j, i ≤ j → itD n m (I k 6) (ovS I k) (ordI I) j (d0S I k) = itD n m (I k 6) (ovS I k) (ordI I) i (d0S I k) := fun j hj => by rw [show j = i + (j - i) by omega]; exact itD_fix hfix (j - i)
        have hsj : ∀ j, i ≤ j → sol j = false := fun j hj => by
          rw [← h3', ← hsol]
          simp only [solS]
          rw [hall j hj]
        refine ⟨by rw [hall 20 (by omega), hall (i + 1) (by omega)], hsj (i + 1) (by omega), ?_⟩
        rw [← hnd, ndR_no (fun j h1 _ => hsj j h1)]
        congr 1
      · have h4 := hR I' hfr (by rw [e0, hBk]) (by rw [← hnd]; simp only [ndR]; rw [if_pos h3]; exact hD)
        rw [← hnd] at h4
        simp only [ndR] at h4
        rwa [if_pos h3] at h4
  exact key 20 0 (by omega) B 1 (fun _ _ _ _ _ => rfl) hBd (Or.inr rfl) (fun h => absurd h (by decide)) rfl
/-! the order -/
def il_X1_orderAsNumbered : List (Nat × Instr × Nat) := [(0, .iconst 0, 1), (1, .istore_n 1, 1), (2, .iload_n 1, 1), (3, .bipush 6, 2), (5, .if_icmp .ge 16, 3), (8, .aload_n 0, 1), (9, .getfield 9, 3), (12, .iload_n 1, 1), (13, .iload_n 1, 1), (14, .iastore, 1), (15, .iinc 1 1, 3), (18, .goto (-16), 3), (21, .return_, 1)]
def mt_X1_orderAsNumbered : Mt := (cX1_orderAsNumbered, RX1, 2, none, ({ frames := 0, cells := 0, slots := 0, locals := 0 } : Room), false, none, none)
set_option maxRecDepth 100000 in
theorem dl_X1_orderAsNumbered : ∀ q ∈ il_X1_orderAsNumbered, decode (mt_X1_orderAsNumbered).1 q.1 = .ok q.2 := by decide +kernel
def tb_X1_orderAsNumbered : Tb := [(0, x_c 1 (.int 0), false),
  (1, x_is 2 1, false),
  (2, x_il 3 1, true),
  (3, x_c 5 (.int 6), false),
  (5, x_ic 21 8 (fun x y : Int32 => y ≤ x), false),
  (8, x_al 9 0, false),
  (9, x_gR 1 0 12, false),
  (12, x_il 13 1, false),
  (13, x_il 14 1, false),
  (14, x_ias 15, false),
  (15, x_inc 18 1 1, false),
  (18, x_go 2, false),
  (21, x_r0, false)]
set_option maxRecDepth 100000 in
theorem tk_X1_orderAsNumbered : TbOk (mt_X1_orderAsNumbered) (tb_X1_orderAsNumbered) :=
  tkc (s_iconst (at_ dl_X1_orderAsNumbered 0 (ins := .iconst 0) rfl) (by first | rfl | decide)) (
  tkc (s_istore_n (at_ dl_X1_orderAsNumbered 1 (ins := .istore_n 1) rfl) (by decide)) (
  tkc (s_iload_n (at_ dl_X1_orderAsNumbered 2 (ins := .iload_n 1) rfl)) (
  tkc (s_bipush (at_ dl_X1_orderAsNumbered 3 (ins := .bipush 6) rfl) (by first | rfl | decide)) (
  tkc (s_ic_ge (at_ dl_X1_orderAsNumbered 4 (ins := .if_icmp .ge 16) rfl) (by decide)) (
  tkc (s_aload_n (at_ dl_X1_orderAsNumbered 5 (ins := .aload_n 0) rfl)) (
  tkc (s_gR (at_ dl_X1_orderAsNumbered 6 (ins := .getfield 9) rfl) (by decide) (by decide) (by decide) (tg 178 (by decide +kernel) (by decide +kernel))) (
  tkc (s_iload_n (at_ dl_X1_orderAsNumbered 7 (ins := .iload_n 1) rfl)) (
  tkc (s_iload_n (at_ dl_X1_orderAsNumbered 8 (ins := .iload_n 1) rfl)) (
  tkc (s_ias (at_ dl_X1_orderAsNumbered 9 (ins := .iastore) rfl)) (
  tkc (s_iinc (at_ dl_X1_orderAsNumbered 10 (ins := .iinc 1 1) rfl) (by decide) (by first | rfl | decide)) (
  tkc (s_goto (at_ dl_X1_orderAsNumbered 11 (ins := .goto (-16)) rfl) (by decide)) (
  tkc (s_r0 (at_ dl_X1_orderAsNumbered 12 (ins := .return_) rfl) rfl) ( tk0)))))))))))))
theorem lf_X1_orderAsNumbered : lk (tb_X1_orderAsNumbered) 0 = (x_c 1 (.int 0), false) ∧ lk (tb_X1_orderAsNumbered) 1 = (x_is 2 1, false) ∧ lk (tb_X1_orderAsNumbered) 2 = (x_il 3 1, true) ∧ lk (tb_X1_orderAsNumbered) 3 = (x_c 5 (.int 6), false) ∧ lk (tb_X1_orderAsNumbered) 5 = (x_ic 21 8 (fun x y : Int32 => y ≤ x), false) ∧ lk (tb_X1_orderAsNumbered) 8 = (x_al 9 0, false) ∧ lk (tb_X1_orderAsNumbered) 9 = (x_gR 1 0 12, false) ∧ lk (tb_X1_orderAsNumbered) 12 = (x_il 13 1, false) ∧ lk (tb_X1_orderAsNumbered) 13 = (x_il 14 1, false) ∧ lk (tb_X1_orderAsNumbered) 14 = (x_ias 15, false) ∧ lk (tb_X1_orderAsNumbered) 15 = (x_inc 18 1 1, false) ∧ lk (tb_X1_orderAsNumbered) 18 = (x_go 2, false) ∧ lk (tb_X1_orderAsNumbered) 21 = (x_r0, false) := ⟨rfl, rfl, rfl, rfl, rfl, rfl, rfl, rfl, rfl, rfl, rfl, rfl, rfl⟩
/-- numbered from 0 on, the first n -/
def idr (f : Nat → Int32) (n : Nat) : Nat → Int32 := fun j => if j < n then nI j else f j
theorem idr_0 (f : Nat → Int32) : idr f 0 = f := by funext j; simp [idr]
theorem idr_s (f : Nat → Int32) (i : Nat) : upd (idr f i) i (nI i) = idr f (i + 1) := by
  funext j
  simp only [upd, idr]
  by_cases h : j = i
  · subst h; simp
  · by_cases h2 : j < i
    · simp [h, h2, show j < i + 1 by omega]
    · simp [h, h2, show ¬ j < i + 1 by omega]
def P_X1_orderAsNumbered : PTT := fun as M R => match as with
  | [.ref d] => d = 15 ∧ tO M.1 15 1 ∧ sR M.1 15 0 = 16 ∧ tA M.1 16 1 ∧ ln M.1 16 = 6 ∧ R none (M.1, mS M.2.1 16 (idr (M.2.1 16) 6), M.2.2)
  | _ => False
set_option maxRecDepth 20000 in
theorem ok_X1_orderAsNumbered : Ok yX1_orderAsNumbered mt_X1_orderAsNumbered P_X1_orderAsNumbered := by
  refine Ok.of (by decide) rfl rfl rfl rfl fun av ⟨S, I, L⟩ R hP => ?_
  unfold P_X1_orderAsNumbered at hP
  split at hP
  case h_2 => exact hP.elim
  rename_i d
  obtain ⟨d, rfl⟩ : ∃ q : Nat, q = d := ⟨d, rfl⟩
  refine ⟨by simp [ent, wide, mt_X1_orderAsNumbered], ?_⟩
  show J mt_X1_orderAsNumbered R 0 [some (.ref d), none] [] (S, I, L)
  try dsimp only at hP
  obtain ⟨rfl, h1, h2, h3, h4, hR⟩ := hP
  refine J.of tk_X1_orderAsNumbered 200 fun ρ hρ => ?_
  simp only [hρ, x_c, x_il, x_ll, x_al, x_is, x_as, x_ls, x_inc, x_ii, x_iq, x_i1, x_l2, x_lq, x_lh, x_i2l, x_l2i, x_lcmp, x_dup, x_dup2, x_pop, x_if, x_ifn, x_ic, x_icn, x_go, x_sw, swc, x_l01, x_mx, x_gI, x_gL, x_gR, x_pI, x_pZ, x_pL, x_pR, x_ia, x_za, x_aa, x_ias, x_zas, x_aas, x_fac, x_fa, x_slen, x_sa, x_ac, x_oi, x_new, x_na, x_cS, x_cV, x_cI, x_rI, x_rZ, x_rL, x_r0, pa, short, oc, lg, lset, lset2, wide, cond_true, cond_false, true_and, and_true, ↓reduceIte, Bool.false_eq_true, true_or, or_true, lf_X1_orderAsNumbered]
  have key := up (P := fun i => J mt_X1_orderAsNumbered R 2 [some (.ref 15), some (.int (nI i))] [] (S, mS I 16 (idr (I 16) i), L)) (n := 6) (fun i hi ih => ?_) 0 (Nat.zero_le _)
  · rw [idr_0, mS_id] at key
    exact key
  refine J.of tk_X1_orderAsNumbered 200 fun ρ hρ => ?_
  simp only [hρ, x_c, x_il, x_ll, x_al, x_is, x_as, x_ls, x_inc, x_ii, x_iq, x_i1, x_l2, x_lq, x_lh, x_i2l, x_l2i, x_lcmp, x_dup, x_dup2, x_pop, x_if, x_ifn, x_ic, x_icn, x_go, x_sw, swc, x_l01, x_mx, x_gI, x_gL, x_gR, x_pI, x_pZ, x_pL, x_pR, x_ia, x_za, x_aa, x_ias, x_zas, x_aas, x_fac, x_fa, x_slen, x_sa, x_ac, x_oi, x_new, x_na, x_cS, x_cV, x_cI, x_rI, x_rZ, x_rL, x_r0, pa, short, oc, lg, lset, lset2, wide, cond_true, cond_false, true_and, and_true, ↓reduceIte, Bool.false_eq_true, true_or, or_true, lf_X1_orderAsNumbered, h1, h2, h3, h4, nI6, nI_leI (show 6 < 2 ^ 31 by omega) (show i < 2 ^ 31 by omega), ncl (show i < 2 ^ 31 by omega), nI_1, mS_s, mS_ss, idr_s]
  refine ⟨fun h => ?_, fun h => ⟨vp_in_nI (by omega) (by omega), ih (by omega)⟩⟩
  have : i = 6 := by omega
  subst this
  exact hR
/-- a figure of a number, from behind -/
def dg (r j : Nat) : Nat := r / 10 ^ j % 10
def rowOk (m r : Nat) : Prop := r / 10 ^ m = 0 ∧ (∀ j, j < m → dg r j < m) ∧ ∀ i j, i < j → j < m → dg r i ≠ dg r j
/-- the figures met so far, as bits -/
def met (r : Nat) : Nat → Nat
  | 0 => 0
  | j + 1 => met r j ||| 2 ^ dg r j
theorem dg_lt (r j : Nat) : dg r j < 10 := Nat.mod_lt _ (by omega)
theorem met_lt (r : Nat) : ∀ j, met r j < 1024
  | 0 => by simp [met]
  | j + 1 => by
    have h := met_lt r j
    have h2 : 2 ^ dg r j < 2 ^ 10 := Nat.pow_lt_pow_right (by omega) (dg_lt r j)
    exact Nat.or_lt_two_pow (n := 10) h h2
theorem met_bit (r x : Nat) : ∀ j, (met r j).testBit x = true ↔ ∃ i, i < j ∧ dg r i = x
  | 0 => by simp [met]
  | j + 1 => by
    rw [met, Nat.testBit_or, Bool.or_eq_true, met_bit r x j, Nat.testBit_two_pow]
    constructor
    · rintro (⟨i, h1, h2⟩ | h)
      · exact ⟨i, by omega, h2⟩
      · exact ⟨j, by omega, by simpa using h⟩
    · rintro ⟨i, h1, h2⟩
      by_cases e : i = j
      · subst e; right; simpa using h2
      · left; exact ⟨i, by omega, h2⟩
theorem dg_div (r j : Nat) : r / 10 ^ j / 10 = r / 10 ^ (j + 1) := by rw [Nat.div_div_eq_div_mul, Nat.pow_succ]
/-- the first figures are fit -/
def rowTo (m r j : Nat) : Prop := (∀ i, i < j → dg r i < m) ∧ ∀ a b, a < b → b < j → dg r a ≠ dg r b
def il_X1_orderBy : List (Nat × Instr × Nat) := [(0, .iload_n 1, 1), (1, .ifCond .ge 5, 3), (4, .iconst 0, 1), (5, .ireturn, 1), (6, .iload_n 1, 1), (7, .istore_n 3, 1), (8, .iconst 0, 1), (9, .istore 4, 2), (11, .iload_n 2, 1), (12, .iconst 1, 1), (13, .isub, 1), (14, .istore 5, 2), (16, .iload 5, 2), (18, .ifCond .lt 56, 3), (21, .iload_n 3, 1), (22, .bipush 10, 2), (24, .irem, 1), (25, .istore 6, 2), (27, .iload 6, 2), (29, .iload_n 2, 1), (30, .if_icmp .ge 13, 3), (33, .iload 4, 2), (35, .iload 6, 2), (37, .ishr, 1), (38, .iconst 1, 1), (39, .iand, 1), (40, .ifCond .eq 5, 3), (43, .iconst 0, 1), (44, .ireturn, 1), (45, .aload_n 0, 1), (46, .getfield 9, 3), (49, .iload 5, 2), (51, .iload 6, 2), (53, .iastore, 1), (54, .iload 4, 2), (56, .iconst 1, 1), (57, .iload 6, 2), (59, .ishl, 1), (60, .ior, 1), (61, .istore 4, 2), (63, .iload_n 3, 1), (64, .bipush 10, 2), (66, .idiv, 1), (67, .istore_n 3, 1), (68, .iinc 5 (-1), 3), (71, .goto (-55), 3), (74, .iload_n 3, 1), (75, .ifCond .ne 7, 3), (78, .iconst 1, 1), (79, .goto 4, 3), (82, .iconst 0, 1), (83, .ireturn, 1)]
def mt_X1_orderBy : Mt := (cX1_orderBy, RX1, 7, (some .boolean), ({ frames := 0, cells := 0, slots := 0, locals := 0 } : Room), false, none, none)
set_option maxRecDepth 100000 in
theorem dl_X1_orderBy : ∀ q ∈ il_X1_orderBy, decode (mt_X1_orderBy).1 q.1 = .ok q.2 := by decide +kernel
def tb_X1_orderBy : Tb := [(0, x_il 1 1, false),
  (1, x_if 6 4 (fun x : Int32 => 0 ≤ x), false),
  (4, x_c 5 (.int 0), false),
  (5, x_rZ, false),
  (6, x_il 7 1, false),
  (7, x_is 8 3, false),
  (8, x_c 9 (.int 0), false),
  (9, x_is 11 4, false),
  (11, x_il 12 2, false),
  (12, x_c 13 (.int 1), false),
  (13, x_ii 14 (fun x y : Int32 => x - y), false),
  (14, x_is 16 5, false),
  (16, x_il 18 5, true),
  (18, x_if 74 21 (fun x : Int32 => x < 0), false),
  (21, x_il 22 3, false),
  (22, x_c 24 (.int 10), false),
  (24, x_iq 25 (fun x y : Int32 => x - x / y * y), false),
  (25, x_is 27 6, false),
  (27, x_il 29 6, false),
  (29, x_il 30 2, false),
  (30, x_ic 43 33 (fun x y : Int32 => y ≤ x), false),
  (33, x_il 35 4, false),
  (35, x_il 37 6, false),
  (37, x_ii 38 (fun x y : Int32 => x >>> (y &&& 31)), false),
  (38, x_c 39 (.int 1), false),
  (39, x_ii 40 (fun x y : Int32 => x &&& y), false),
  (40, x_if 45 43 (fun x : Int32 => x = 0), false),
  (43, x_c 44 (.int 0), false),
  (44, x_rZ, false),
  (45, x_al 46 0, false),
  (46, x_gR 1 0 49, false),
  (49, x_il 51 5, false),
  (51, x_il 53 6, false),
  (53, x_ias 54, false),
  (54, x_il 56 4, false),
  (56, x_c 57 (.int 1), false),
  (57, x_il 59 6, false),
  (59, x_ii 60 (fun x y : Int32 => x <<< (y &&& 31)), false),
  (60, x_ii 61 (fun x y : Int32 => x ||| y), false),
  (61, x_is 63 4, false),
  (63, x_il 64 3, false),
  (64, x_c 66 (.int 10), false),
  (66, x_iq 67 (fun x y : Int32 => x / y), false),
  (67, x_is 68 3, false),
  (68, x_inc 71 5 (-1), false),
  (71, x_go 16, false),
  (74, x_il 75 3, false),
  (75, x_ifn 82 78 (fun x : Int32 => x = 0), false),
  (78, x_c 79 (.int 1), false),
  (79, x_go 83, false),
  (82, x_c 83 (.int 0), false),
  (83, x_rZ, false)]
set_option maxRecDepth 100000 in
theorem tk_X1_orderBy : TbOk (mt_X1_orderBy) (tb_X1_orderBy) :=
  tkc (s_iload_n (at_ dl_X1_orderBy 0 (ins := .iload_n 1) rfl)) (
  tkc (s_if_ge (at_ dl_X1_orderBy 1 (ins := .ifCond .ge 5) rfl) (by decide)) (
  tkc (s_iconst (at_ dl_X1_orderBy 2 (ins := .iconst 0) rfl) (by first | rfl | decide)) (
  tkc (s_rZ (at_ dl_X1_orderBy 3 (ins := .ireturn) rfl) rfl) (
  tkc (s_iload_n (at_ dl_X1_orderBy 4 (ins := .iload_n 1) rfl)) (
  tkc (s_istore_n (at_ dl_X1_orderBy 5 (ins := .istore_n 3) rfl) (by decide)) (
  tkc (s_iconst (at_ dl_X1_orderBy 6 (ins := .iconst 0) rfl) (by first | rfl | decide)) (
  tkc (s_istore (at_ dl_X1_orderBy 7 (ins := .istore 4) rfl) (by decide)) (
  tkc (s_iload_n (at_ dl_X1_orderBy 8 (ins := .iload_n 2) rfl)) (
  tkc (s_iconst (at_ dl_X1_orderBy 9 (ins := .iconst 1) rfl) (by first | rfl | decide)) (
  tkc (s_isub (at_ dl_X1_orderBy 10 (ins := .isub) rfl)) (
  tkc (s_istore (at_ dl_X1_orderBy 11 (ins := .istore 5) rfl) (by decide)) (
  tkc (s_iload (at_ dl_X1_orderBy 12 (ins := .iload 5) rfl)) (
  tkc (s_if_lt (at_ dl_X1_orderBy 13 (ins := .ifCond .lt 56) rfl) (by decide)) (
  tkc (s_iload_n (at_ dl_X1_orderBy 14 (ins := .iload_n 3) rfl)) (
  tkc (s_bipush (at_ dl_X1_orderBy 15 (ins := .bipush 10) rfl) (by first | rfl | decide)) (
  tkc (s_irem (at_ dl_X1_orderBy 16 (ins := .irem) rfl)) (
  tkc (s_istore (at_ dl_X1_orderBy 17 (ins := .istore 6) rfl) (by decide)) (
  tkc (s_iload (at_ dl_X1_orderBy 18 (ins := .iload 6) rfl)) (
  tkc (s_iload_n (at_ dl_X1_orderBy 19 (ins := .iload_n 2) rfl)) (
  tkc (s_ic_ge (at_ dl_X1_orderBy 20 (ins := .if_icmp .ge 13) rfl) (by decide)) (
  tkc (s_iload (at_ dl_X1_orderBy 21 (ins := .iload 4) rfl)) (
  tkc (s_iload (at_ dl_X1_orderBy 22 (ins := .iload 6) rfl)) (
  tkc (s_ishr (at_ dl_X1_orderBy 23 (ins := .ishr) rfl)) (
  tkc (s_iconst (at_ dl_X1_orderBy 24 (ins := .iconst 1) rfl) (by first | rfl | decide)) (
  tkc (s_iand (at_ dl_X1_orderBy 25 (ins := .iand) rfl)) (
  tkc (s_if_eq (at_ dl_X1_orderBy 26 (ins := .ifCond .eq 5) rfl) (by decide)) (
  tkc (s_iconst (at_ dl_X1_orderBy 27 (ins := .iconst 0) rfl) (by first | rfl | decide)) (
  tkc (s_rZ (at_ dl_X1_orderBy 28 (ins := .ireturn) rfl) rfl) (
  tkc (s_aload_n (at_ dl_X1_orderBy 29 (ins := .aload_n 0) rfl)) (
  tkc (s_gR (at_ dl_X1_orderBy 30 (ins := .getfield 9) rfl) (by decide) (by decide) (by decide) (tg 178 (by decide +kernel) (by decide +kernel))) (
  tkc (s_iload (at_ dl_X1_orderBy 31 (ins := .iload 5) rfl)) (
  tkc (s_iload (at_ dl_X1_orderBy 32 (ins := .iload 6) rfl)) (
  tkc (s_ias (at_ dl_X1_orderBy 33 (ins := .iastore) rfl)) (
  tkc (s_iload (at_ dl_X1_orderBy 34 (ins := .iload 4) rfl)) (
  tkc (s_iconst (at_ dl_X1_orderBy 35 (ins := .iconst 1) rfl) (by first | rfl | decide)) (
  tkc (s_iload (at_ dl_X1_orderBy 36 (ins := .iload 6) rfl)) (
  tkc (s_ishl (at_ dl_X1_orderBy 37 (ins := .ishl) rfl)) (
  tkc (s_ior (at_ dl_X1_orderBy 38 (ins := .ior) rfl)) (
  tkc (s_istore (at_ dl_X1_orderBy 39 (ins := .istore 4) rfl) (by decide)) (
  tkc (s_iload_n (at_ dl_X1_orderBy 40 (ins := .iload_n 3) rfl)) (
  tkc (s_bipush (at_ dl_X1_orderBy 41 (ins := .bipush 10) rfl) (by first | rfl | decide)) (
  tkc (s_idiv (at_ dl_X1_orderBy 42 (ins := .idiv) rfl)) (
  tkc (s_istore_n (at_ dl_X1_orderBy 43 (ins := .istore_n 3) rfl) (by decide)) (
  tkc (s_iinc (at_ dl_X1_orderBy 44 (ins := .iinc 5 (-1)) rfl) (by decide) (by first | rfl | decide)) (
  tkc (s_goto (at_ dl_X1_orderBy 45 (ins := .goto (-55)) rfl) (by decide)) (
  tkc (s_iload_n (at_ dl_X1_orderBy 46 (ins := .iload_n 3) rfl)) (
  tkc (s_if_ne (at_ dl_X1_orderBy 47 (ins := .ifCond .ne 7) rfl) (by decide)) (
  tkc (s_iconst (at_ dl_X1_orderBy 48 (ins := .iconst 1) rfl) (by first | rfl | decide)) (
  tkc (s_goto (at_ dl_X1_orderBy 49 (ins := .goto 4) rfl) (by decide)) (
  tkc (s_iconst (at_ dl_X1_orderBy 50 (ins := .iconst 0) rfl) (by first | rfl | decide)) (
  tkc (s_rZ (at_ dl_X1_orderBy 51 (ins := .ireturn) rfl) rfl) ( tk0))))))))))))))))))))))))))))))))))))))))))))))))))))
theorem lf_X1_orderBy : lk (tb_X1_orderBy) 0 = (x_il 1 1, false) ∧ lk (tb_X1_orderBy) 1 = (x_if 6 4 (fun x : Int32 => 0 ≤ x), false) ∧ lk (tb_X1_orderBy) 4 = (x_c 5 (.int 0), false) ∧ lk (tb_X1_orderBy) 5 = (x_rZ, false) ∧ lk (tb_X1_orderBy) 6 = (x_il 7 1, false) ∧ lk (tb_X1_orderBy) 7 = (x_is 8 3, false) ∧ lk (tb_X1_orderBy) 8 = (x_c 9 (.int 0), false) ∧ lk (tb_X1_orderBy) 9 = (x_is 11 4, false) ∧ lk (tb_X1_orderBy) 11 = (x_il 12 2, false) ∧ lk (tb_X1_orderBy) 12 = (x_c 13 (.int 1), false) ∧ lk (tb_X1_orderBy) 13 = (x_ii 14 (fun x y : Int32 => x - y), false) ∧ lk (tb_X1_orderBy) 14 = (x_is 16 5, false) ∧ lk (tb_X1_orderBy) 16 = (x_il 18 5, true) ∧ lk (tb_X1_orderBy) 18 = (x_if 74 21 (fun x : Int32 => x < 0), false) ∧ lk (tb_X1_orderBy) 21 = (x_il 22 3, false) ∧ lk (tb_X1_orderBy) 22 = (x_c 24 (.int 10), false) ∧ lk (tb_X1_orderBy) 24 = (x_iq 25 (fun x y : Int32 => x - x / y * y), false) ∧ lk (tb_X1_orderBy) 25 = (x_is 27 6, false) ∧ lk (tb_X1_orderBy) 27 = (x_il 29 6, false) ∧ lk (tb_X1_orderBy) 29 = (x_il 30 2, false) ∧ lk (tb_X1_orderBy) 30 = (x_ic 43 33 (fun x y : Int32 => y ≤ x), false) ∧ lk (tb_X1_orderBy) 33 = (x_il 35 4, false) ∧ lk (tb_X1_orderBy) 35 = (x_il 37 6, false) ∧ lk (tb_X1_orderBy) 37 = (x_ii 38 (fun x y : Int32 => x >>> (y &&& 31)), false) ∧ lk (tb_X1_orderBy) 38 = (x_c 39 (.int 1), false) ∧ lk (tb_X1_orderBy) 39 = (x_ii 40 (fun x y : Int32 => x &&& y), false) ∧ lk (tb_X1_orderBy) 40 = (x_if 45 43 (fun x : Int32 => x = 0), false) ∧ lk (tb_X1_orderBy) 43 = (x_c 44 (.int 0), false) ∧ lk (tb_X1_orderBy) 44 = (x_rZ, false) ∧ lk (tb_X1_orderBy) 45 = (x_al 46 0, false) ∧ lk (tb_X1_orderBy) 46 = (x_gR 1 0 49, false) ∧ lk (tb_X1_orderBy) 49 = (x_il 51 5, false) ∧ lk (tb_X1_orderBy) 51 = (x_il 53 6, false) ∧ lk (tb_X1_orderBy) 53 = (x_ias 54, false) ∧ lk (tb_X1_orderBy) 54 = (x_il 56 4, false) ∧ lk (tb_X1_orderBy) 56 = (x_c 57 (.int 1), false) ∧ lk (tb_X1_orderBy) 57 = (x_il 59 6, false) ∧ lk (tb_X1_orderBy) 59 = (x_ii 60 (fun x y : Int32 => x <<< (y &&& 31)), false) ∧ lk (tb_X1_orderBy) 60 = (x_ii 61 (fun x y : Int32 => x ||| y), false) ∧ lk (tb_X1_orderBy) 61 = (x_is 63 4, false) ∧ lk (tb_X1_orderBy) 63 = (x_il 64 3, false) ∧ lk (tb_X1_orderBy) 64 = (x_c 66 (.int 10), false) ∧ lk (tb_X1_orderBy) 66 = (x_iq 67 (fun x y : Int32 => x / y), false) ∧ lk (tb_X1_orderBy) 67 = (x_is 68 3, false) ∧ lk (tb_X1_orderBy) 68 = (x_inc 71 5 (-1), false) ∧ lk (tb_X1_orderBy) 71 = (x_go 16, false) ∧ lk (tb_X1_orderBy) 74 = (x_il 75 3, false) ∧ lk (tb_X1_orderBy) 75 = (x_ifn 82 78 (fun x : Int32 => x = 0), false) ∧ lk (tb_X1_orderBy) 78 = (x_c 79 (.int 1), false) ∧ lk (tb_X1_orderBy) 79 = (x_go 83, false) ∧ lk (tb_X1_orderBy) 82 = (x_c 83 (.int 0), false) ∧ lk (tb_X1_orderBy) 83 = (x_rZ, false) := ⟨rfl, rfl, rfl, rfl, rfl, rfl, rfl, rfl, rfl, rfl, rfl, rfl, rfl, rfl, rfl, rfl, rfl, rfl, rfl, rfl, rfl, rfl, rfl, rfl, rfl, rfl, rfl, rfl, rfl, rfl, rfl, rfl, rfl, rfl, rfl, rfl, rfl, rfl, rfl, rfl, rfl, rfl, rfl, rfl, rfl, rfl, rfl, rfl, rfl, rfl, rfl, rfl⟩
def P_X1_orderBy : PTT := fun as M R => match as with
  | [.ref d, .int row, .int chk] => d = 15 ∧ IsDc M.1 ∧ ∃ m, m ≤ 6 ∧ chk = nI m ∧ (row < 0 → R (some (.int 0)) M) ∧ (∀ r, r < 2 ^ 31 → row = nI r → ∀ I', (∀ q, q ≠ 16 → I' q = M.2.1 q) → (¬ rowOk m r → R (some (.int 0)) (M.1, I', M.2.2)) ∧ (rowOk m r → (∀ i, i < m → I' 16 i = nI (dg r (m - 1 - i))) → R (some (.int 1)) (M.1, I', M.2.2)))
  | _ => False
theorem nI10 : (10 : Int32) = nI 10 := by decide
theorem ten0 : ¬ nI 10 = 0 := by decide
set_option maxRecDepth 20000 in
theorem ok_X1_orderBy : Ok yX1_orderBy mt_X1_orderBy P_X1_orderBy := by
  refine Ok.of (by decide) rfl rfl rfl rfl fun av ⟨S, I, L⟩ R hP => ?_
  unfold P_X1_orderBy at hP
  split at hP
  case h_2 => exact hP.elim
  rename_i d row chk
  obtain ⟨d, rfl⟩ : ∃ q : Nat, q = d := ⟨d, rfl⟩
  refine ⟨by simp [ent, wide, mt_X1_orderBy], ?_⟩
  show J mt_X1_orderBy R 0 [some (.ref d), some (.int row), some (.int chk), none, none, none, none] [] (S, I, L)
  try dsimp only at hP
  obtain ⟨rfl, hd, m, m6, rfl, hneg, hR⟩ := hP
  refine J.of tk_X1_orderBy 200 fun ρ hρ => ?_
  simp only [hρ, x_c, x_il, x_ll, x_al, x_is, x_as, x_ls, x_inc, x_ii, x_iq, x_i1, x_l2, x_lq, x_lh, x_i2l, x_l2i, x_lcmp, x_dup, x_dup2, x_pop, x_if, x_ifn, x_ic, x_icn, x_go, x_sw, swc, x_l01, x_mx, x_gI, x_gL, x_gR, x_pI, x_pZ, x_pL, x_pR, x_ia, x_za, x_aa, x_ias, x_zas, x_aas, x_fac, x_fa, x_slen, x_sa, x_ac, x_oi, x_new, x_na, x_cS, x_cV, x_cI, x_rI, x_rZ, x_rL, x_r0, pa, short, oc, lg, lset, lset2, wide, cond_true, cond_false, true_and, and_true, ↓reduceIte, Bool.false_eq_true, true_or, or_true, lf_X1_orderBy]
  refine ⟨fun h0 => ?_, fun h0 => hneg (Int32.not_le.mp h0)⟩
  obtain ⟨r, hr, rfl⟩ := nI_of (Int32.not_lt.mpr h0)
  have hR := hR r hr rfl
  have key : ∀ jj, jj ≤ m → ∀ I', (∀ q, q ≠ 16 → I' q = I q) → (∀ i, m - jj ≤ i → i < m → I' 16 i = nI (dg r (m - 1 - i))) → rowTo m r jj → J mt_X1_orderBy R 16 [some (.ref 15), some (.int (nI r)), some (.int (nI m)), some (.int (nI (r / 10 ^ jj))), some (.int (nI (met r jj))), some (.int (nI (m - jj) - 1)), none] [] (S, I', L) := by
    refine up (fun jj hjj ih => ?_)
    intro I' hf hI hto
    have hd31 : r / 10 ^ jj < 2 ^ 31 := Nat.lt_of_le_of_lt (Nat.div_le_self _ _) hr
    have hdl := dg_lt r jj
    have hml := met_lt r jj
    have hdiv : nI (r / 10 ^ jj) / nI 10 = nI (r / 10 ^ (jj + 1)) := by rw [pk_div hd31 (by omega) (by omega), dg_div]
    have hrem : nI (r / 10 ^ jj) - nI (r / 10 ^ (jj + 1)) * nI 10 = nI (dg r jj) := by rw [← hdiv]; exact pk_rem hd31 (by omega) (by omega)
    by_cases hlt : jj < m
    · have hix : nI (m - jj) - 1 = nI (m - jj - 1) := by rw [show m - jj = (m - jj - 1) + 1 by omega, nI_pred]; rfl
      have hix2 : nI (m - jj - 1) + -1 = nI (m - (jj + 1)) - 1 := by rw [show m - (jj + 1) = m - jj - 1 by omega, Int32.sub_eq_add_neg]
      have hpos : nI (m - jj - 1) < 0 ↔ False := ⟨fun h => nI_pos (by omega) h, False.elim⟩
      have hw := ih hlt
      refine J.of tk_X1_orderBy 200 fun ρ hρ => ?_
      simp only [hρ, x_c, x_il, x_ll, x_al, x_is, x_as, x_ls, x_inc, x_ii, x_iq, x_i1, x_l2, x_lq, x_lh, x_i2l, x_l2i, x_lcmp, x_dup, x_dup2, x_pop, x_if, x_ifn, x_ic, x_icn, x_go, x_sw, swc, x_l01, x_mx, x_gI, x_gL, x_gR, x_pI, x_pZ, x_pL, x_pR, x_ia, x_za, x_aa, x_ias, x_zas, x_aas, x_fac, x_fa, x_slen, x_sa, x_ac, x_oi, x_new, x_na, x_cS, x_cV, x_cI, x_rI, x_rZ, x_rL, x_r0, pa, short, oc, lg, lset, lset2, wide, cond_true, cond_false, true_and, and_true, ↓reduceIte, Bool.false_eq_true, true_or, or_true, lf_X1_orderBy, hd.f, nI10, ten0, hix, hix2, hpos, hrem, hdiv, nI_leI (show m < 2 ^ 31 by omega) (show dg r jj < 2 ^ 31 by omega), bit_c (show met r jj < 2 ^ 31 by omega) (show dg r jj < 31 by omega), ncl (show m - jj - 1 < 2 ^ 31 by omega), shl1 (show dg r jj < 31 by omega), nI_or, not_false_eq_true, false_implies, true_implies, Classical.not_not]
      refine ⟨fun h => ?_, fun h => ⟨fun h2 => ?_, fun h2 => ?_⟩⟩
      · exact (hR I' hf).1 (fun q => by have := q.2.1 jj hlt; omega)
      · refine ⟨vp_in_nI (by omega) (by omega), J.weak (by simp [lsub, met]) (hw _ (fun q hq => ?_) (fun i h3 h4 => ?_) ⟨fun i hi => ?_, fun a b hab hb => ?_⟩)⟩
        · rw [mS_n hq]; exact hf q hq
        · rw [mS_s, upd_app]
          by_cases e : i = m - jj - 1
          · rw [if_pos e, e, show m - 1 - (m - jj - 1) = jj by omega]
          · rw [if_neg e]; exact hI i (by omega) h4
        · by_cases e : i = jj
          · subst e; omega
          · exact hto.1 i (by omega)
        · by_cases e : b = jj
          · subst e; intro q; exact h2 ((met_bit r (dg r b) b).mpr ⟨a, hab, q⟩)
          · exact hto.2 a b hab (by omega)
      · refine (hR I' hf).1 (fun q => ?_)
        obtain ⟨i, h3, h4⟩ := (met_bit r (dg r jj) jj).mp h2
        exact q.2.2 i jj h3 hlt h4
    · have : jj = m := by omega
      subst this
      have hz : nI (r / 10 ^ jj) = 0 ↔ r / 10 ^ jj = 0 := nI_z hd31
      have hng : nI (jj - jj) - 1 < 0 ↔ True := by rw [Nat.sub_self]; decide
      refine J.of tk_X1_orderBy 200 fun ρ hρ => ?_
      simp only [hρ, x_c, x_il, x_ll, x_al, x_is, x_as, x_ls, x_inc, x_ii, x_iq, x_i1, x_l2, x_lq, x_lh, x_i2l, x_l2i, x_lcmp, x_dup, x_dup2, x_pop, x_if, x_ifn, x_ic, x_icn, x_go, x_sw, swc, x_l01, x_mx, x_gI, x_gL, x_gR, x_pI, x_pZ, x_pL, x_pR, x_ia, x_za, x_aa, x_ias, x_zas, x_aas, x_fac, x_fa, x_slen, x_sa, x_ac, x_oi, x_new, x_na, x_cS, x_cV, x_cI, x_rI, x_rZ, x_rL, x_r0, pa, short, oc, lg, lset, lset2, wide, cond_true, cond_false, true_and, and_true, ↓reduceIte, Bool.false_eq_true, true_or, or_true, lf_X1_orderBy, hng, hz, true_implies, not_true_eq_false, false_implies]
      refine ⟨fun h => (hR I' hf).1 (fun q => h q.1), fun h => (hR I' hf).2 ⟨h, hto.1, hto.2⟩ (fun i hi => hI i (by omega) hi)⟩
  have := key 0 (by omega) I (fun _ _ => rfl) (fun i h1 h2 => by omega) ⟨fun i hi => by omega, fun a b _ hb => by omega⟩
  rw [Nat.pow_zero, Nat.div_one, Nat.sub_zero] at this
  exact this
end
section
/-! SEEN, at 93 (rounds 94, open 95) -/
def IsSe (S : Sh) : Prop := tO S 93 4 ∧ sR S 93 0 = 94 ∧ sR S 93 1 = 95 ∧ tA S 94 1 ∧ ln S 94 = 6 ∧ tA S 95 1 ∧ ln S 95 = 6
theorem IsSe.f {S : Sh} (h : IsSe S) : tO S 93 4 ∧ sR S 93 0 = 94 ∧ sR S 93 1 = 95 ∧ tA S 94 1 ∧ ln S 94 = 6 ∧ tA S 95 1 ∧ ln S 95 = 6 := h
/-- what is seen: c times, rounds at most 20 -/
def SeV (I : MI) (c : Nat) : Prop := c ≤ 6 ∧ I 93 2 = nI c ∧ ∀ i, i < c → tn (I 94 i) ≤ 20
def il_X4_add : List (Nat × Instr × Nat) := [(0, .aload_n 0, 1), (1, .getfield 18, 3), (4, .bipush 6, 2), (6, .if_icmp .ge 33, 3), (9, .aload_n 0, 1), (10, .getfield 9, 3), (13, .aload_n 0, 1), (14, .getfield 18, 3), (17, .iload_n 1, 1), (18, .iastore, 1), (19, .aload_n 0, 1), (20, .getfield 15, 3), (23, .aload_n 0, 1), (24, .getfield 18, 3), (27, .iload_n 2, 1), (28, .iastore, 1), (29, .aload_n 0, 1), (30, .dup, 1), (31, .getfield 18, 3), (34, .iconst 1, 1), (35, .iadd, 1), (36, .putfield 18, 3), (39, .aload_n 0, 1), (40, .getfield 18, 3), (43, .ireturn, 1)]
def mt_X4_add : Mt := (cX4_add, RX4, 3, (some .int), ({ frames := 0, cells := 0, slots := 0, locals := 0 } : Room), false, none, none)
set_option maxRecDepth 100000 in
theorem dl_X4_add : ∀ q ∈ il_X4_add, decode (mt_X4_add).1 q.1 = .ok q.2 := by decide +kernel
def tb_X4_add : Tb := [(0, x_al 1 0, false),
  (1, x_gI 4 2 4, false),
  (4, x_c 6 (.int 6), false),
  (6, x_ic 39 9 (fun x y : Int32 => y ≤ x), false),
  (9, x_al 10 0, false),
  (10, x_gR 4 0 13, false),
  (13, x_al 14 0, false),
  (14, x_gI 4 2 17, false),
  (17, x_il 18 1, false),
  (18, x_ias 19, false),
  (19, x_al 20 0, false),
  (20, x_gR 4 1 23, false),
  (23, x_al 24 0, false),
  (24, x_gI 4 2 27, false),
  (27, x_il 28 2, false),
  (28, x_ias 29, false),
  (29, x_al 30 0, false),
  (30, x_dup 31, false),
  (31, x_gI 4 2 34, false),
  (34, x_c 35 (.int 1), false),
  (35, x_ii 36 (fun x y : Int32 => x + y), false),
  (36, x_pI 4 2 39, false),
  (39, x_al 40 0, false),
  (40, x_gI 4 2 43, false),
  (43, x_rI, false)]
set_option maxRecDepth 100000 in
theorem tk_X4_add : TbOk (mt_X4_add) (tb_X4_add) :=
  tkc (s_aload_n (at_ dl_X4_add 0 (ins := .aload_n 0) rfl)) (
  tkc (s_gI (at_ dl_X4_add 1 (ins := .getfield 18) rfl) (by decide) (by decide) (by decide) (tg 245 (by decide +kernel) (by decide +kernel))) (
  tkc (s_bipush (at_ dl_X4_add 2 (ins := .bipush 6) rfl) (by first | rfl | decide)) (
  tkc (s_ic_ge (at_ dl_X4_add 3 (ins := .if_icmp .ge 33) rfl) (by decide)) (
  tkc (s_aload_n (at_ dl_X4_add 4 (ins := .aload_n 0) rfl)) (
  tkc (s_gR (at_ dl_X4_add 5 (ins := .getfield 9) rfl) (by decide) (by decide) (by decide) (tg 243 (by decide +kernel) (by decide +kernel))) (
  tkc (s_aload_n (at_ dl_X4_add 6 (ins := .aload_n 0) rfl)) (
  tkc (s_gI (at_ dl_X4_add 7 (ins := .getfield 18) rfl) (by decide) (by decide) (by decide) (tg 245 (by decide +kernel) (by decide +kernel))) (
  tkc (s_iload_n (at_ dl_X4_add 8 (ins := .iload_n 1) rfl)) (
  tkc (s_ias (at_ dl_X4_add 9 (ins := .iastore) rfl)) (
  tkc (s_aload_n (at_ dl_X4_add 10 (ins := .aload_n 0) rfl)) (
  tkc (s_gR (at_ dl_X4_add 11 (ins := .getfield 15) rfl) (by decide) (by decide) (by decide) (tg 244 (by decide +kernel) (by decide +kernel))) (
  tkc (s_aload_n (at_ dl_X4_add 12 (ins := .aload_n 0) rfl)) (
  tkc (s_gI (at_ dl_X4_add 13 (ins := .getfield 18) rfl) (by decide) (by decide) (by decide) (tg 245 (by decide +kernel) (by decide +kernel))) (
  tkc (s_iload_n (at_ dl_X4_add 14 (ins := .iload_n 2) rfl)) (
  tkc (s_ias (at_ dl_X4_add 15 (ins := .iastore) rfl)) (
  tkc (s_aload_n (at_ dl_X4_add 16 (ins := .aload_n 0) rfl)) (
  tkc (s_dup (at_ dl_X4_add 17 (ins := .dup) rfl)) (
  tkc (s_gI (at_ dl_X4_add 18 (ins := .getfield 18) rfl) (by decide) (by decide) (by decide) (tg 245 (by decide +kernel) (by decide +kernel))) (
  tkc (s_iconst (at_ dl_X4_add 19 (ins := .iconst 1) rfl) (by first | rfl | decide)) (
  tkc (s_iadd (at_ dl_X4_add 20 (ins := .iadd) rfl)) (
  tkc (s_pI (at_ dl_X4_add 21 (ins := .putfield 18) rfl) (by decide) (by decide) (by decide) (by decide) (tg 245 (by decide +kernel) (by decide +kernel))) (
  tkc (s_aload_n (at_ dl_X4_add 22 (ins := .aload_n 0) rfl)) (
  tkc (s_gI (at_ dl_X4_add 23 (ins := .getfield 18) rfl) (by decide) (by decide) (by decide) (tg 245 (by decide +kernel) (by decide +kernel))) (
  tkc (s_rI (at_ dl_X4_add 24 (ins := .ireturn) rfl) rfl) ( tk0)))))))))))))))))))))))))
theorem lf_X4_add : lk (tb_X4_add) 0 = (x_al 1 0, false) ∧ lk (tb_X4_add) 1 = (x_gI 4 2 4, false) ∧ lk (tb_X4_add) 4 = (x_c 6 (.int 6), false) ∧ lk (tb_X4_add) 6 = (x_ic 39 9 (fun x y : Int32 => y ≤ x), false) ∧ lk (tb_X4_add) 9 = (x_al 10 0, false) ∧ lk (tb_X4_add) 10 = (x_gR 4 0 13, false) ∧ lk (tb_X4_add) 13 = (x_al 14 0, false) ∧ lk (tb_X4_add) 14 = (x_gI 4 2 17, false) ∧ lk (tb_X4_add) 17 = (x_il 18 1, false) ∧ lk (tb_X4_add) 18 = (x_ias 19, false) ∧ lk (tb_X4_add) 19 = (x_al 20 0, false) ∧ lk (tb_X4_add) 20 = (x_gR 4 1 23, false) ∧ lk (tb_X4_add) 23 = (x_al 24 0, false) ∧ lk (tb_X4_add) 24 = (x_gI 4 2 27, false) ∧ lk (tb_X4_add) 27 = (x_il 28 2, false) ∧ lk (tb_X4_add) 28 = (x_ias 29, false) ∧ lk (tb_X4_add) 29 = (x_al 30 0, false) ∧ lk (tb_X4_add) 30 = (x_dup 31, false) ∧ lk (tb_X4_add) 31 = (x_gI 4 2 34, false) ∧ lk (tb_X4_add) 34 = (x_c 35 (.int 1), false) ∧ lk (tb_X4_add) 35 = (x_ii 36 (fun x y : Int32 => x + y), false) ∧ lk (tb_X4_add) 36 = (x_pI 4 2 39, false) ∧ lk (tb_X4_add) 39 = (x_al 40 0, false) ∧ lk (tb_X4_add) 40 = (x_gI 4 2 43, false) ∧ lk (tb_X4_add) 43 = (x_rI, false) := ⟨rfl, rfl, rfl, rfl, rfl, rfl, rfl, rfl, rfl, rfl, rfl, rfl, rfl, rfl, rfl, rfl, rfl, rfl, rfl, rfl, rfl, rfl, rfl, rfl, rfl⟩
def P_X4_add : PTT := fun as M R => match as with
  | [.ref k, .int n, .int v] => k = 93 ∧ IsSe M.1 ∧ ∃ c, c < 6 ∧ M.2.1 93 2 = nI c ∧ R (some (.int (nI (c + 1)))) (M.1, mS (mS (mS M.2.1 94 (upd (M.2.1 94) c n)) 95 (upd (M.2.1 95) c v)) 93 (upd (M.2.1 93) 2 (nI (c + 1))), M.2.2)
  | _ => False
set_option maxRecDepth 20000 in
theorem ok_X4_add : Ok yX4_add mt_X4_add P_X4_add := by
  refine Ok.of (by decide) rfl rfl rfl rfl fun av ⟨S, I, L⟩ R hP => ?_
  unfold P_X4_add at hP
  split at hP
  case h_2 => exact hP.elim
  rename_i k n v
  obtain ⟨k, rfl⟩ : ∃ q : Nat, q = k := ⟨k, rfl⟩
  refine ⟨by simp [ent, wide, mt_X4_add], ?_⟩
  show J mt_X4_add R 0 [some (.ref k), some (.int n), some (.int v)] [] (S, I, L)
  try dsimp only at hP
  obtain ⟨rfl, hk, c, h6, hc, hR⟩ := hP
  refine J.of tk_X4_add 200 fun ρ hρ => ?_
  simp only [hρ, x_c, x_il, x_ll, x_al, x_is, x_as, x_ls, x_inc, x_ii, x_iq, x_i1, x_l2, x_lq, x_lh, x_i2l, x_l2i, x_lcmp, x_dup, x_dup2, x_pop, x_if, x_ifn, x_ic, x_icn, x_go, x_sw, swc, x_l01, x_mx, x_gI, x_gL, x_gR, x_pI, x_pZ, x_pL, x_pR, x_ia, x_za, x_aa, x_ias, x_zas, x_aas, x_fac, x_fa, x_slen, x_sa, x_ac, x_oi, x_new, x_na, x_cS, x_cV, x_cI, x_rI, x_rZ, x_rL, x_r0, pa, short, oc, lg, lset, lset2, wide, cond_true, cond_false, true_and, and_true, ↓reduceIte, Bool.false_eq_true, true_or, or_true, lf_X4_add, hk.f, hc, nI6, nI_leI (show 6 < 2 ^ 31 by omega) (show c < 2 ^ 31 by omega), ncl (show c < 2 ^ 31 by omega), nI_1, mS_app, Nat.reduceEqDiff, upd_s]
  have hv : vp_in (nI c) 6 := vp_in_nI (by omega) (by omega)
  exact ⟨fun h => absurd h (by omega), fun _ => ⟨hv, hv, hR⟩⟩
def mxR (f : Nat → Int32) : Nat → Nat
  | 0 => 0
  | i + 1 => if mxR f i < tn (f i) then tn (f i) else mxR f i
theorem mxR_ge {f : Nat → Int32} : ∀ {i j : Nat}, j < i → tn (f j) ≤ mxR f i
  | 0, j, h => by omega
  | i + 1, j, h => by
    simp only [mxR]
    by_cases e : j = i
    · subst e; split <;> omega
    · have := mxR_ge (f := f) (i := i) (j := j) (by omega)
      split <;> omega
theorem mxR_le {f : Nat → Int32} : ∀ {i : Nat}, (∀ j, j < i → tn (f j) ≤ 20) → mxR f i ≤ 20
  | 0, _ => by simp [mxR]
  | i + 1, h => by
    have h1 := mxR_le (f := f) (i := i) (fun j hj => h j (by omega))
    have h2 := h i (by omega)
    simp only [mxR]
    split <;> omega
def il_X4_mostRounds : List (Nat × Instr × Nat) := [(0, .iconst 0, 1), (1, .istore_n 1, 1), (2, .iconst 0, 1), (3, .istore_n 2, 1), (4, .iload_n 2, 1), (5, .aload_n 0, 1), (6, .getfield 18, 3), (9, .if_icmp .ge 20, 3), (12, .iload_n 1, 1), (13, .aload_n 0, 1), (14, .getfield 9, 3), (17, .iload_n 2, 1), (18, .iaload, 1), (19, .invokestatic 43, 3), (22, .istore_n 1, 1), (23, .iinc 2 1, 3), (26, .goto (-22), 3), (29, .iload_n 1, 1), (30, .ireturn, 1)]
def mt_X4_mostRounds : Mt := (cX4_mostRounds, RX4, 3, (some .int), ({ frames := 1, cells := 0, slots := 0, locals := 13 } : Room), false, none, none)
set_option maxRecDepth 100000 in
theorem dl_X4_mostRounds : ∀ q ∈ il_X4_mostRounds, decode (mt_X4_mostRounds).1 q.1 = .ok q.2 := by decide +kernel
def tb_X4_mostRounds : Tb := [(0, x_c 1 (.int 0), false),
  (1, x_is 2 1, false),
  (2, x_c 3 (.int 0), false),
  (3, x_is 4 2, false),
  (4, x_il 5 2, true),
  (5, x_al 6 0, false),
  (6, x_gI 4 2 9, false),
  (9, x_ic 29 12 (fun x y : Int32 => y ≤ x), false),
  (12, x_il 13 1, false),
  (13, x_al 14 0, false),
  (14, x_gR 4 0 17, false),
  (17, x_il 18 2, false),
  (18, x_ia 19, false),
  (19, x_mx 22, false),
  (22, x_is 23 1, false),
  (23, x_inc 26 2 1, false),
  (26, x_go 4, false),
  (29, x_il 30 1, false),
  (30, x_rI, false)]
set_option maxRecDepth 100000 in
theorem tk_X4_mostRounds : TbOk (mt_X4_mostRounds) (tb_X4_mostRounds) :=
  tkc (s_iconst (at_ dl_X4_mostRounds 0 (ins := .iconst 0) rfl) (by first | rfl | decide)) (
  tkc (s_istore_n (at_ dl_X4_mostRounds 1 (ins := .istore_n 1) rfl) (by decide)) (
  tkc (s_iconst (at_ dl_X4_mostRounds 2 (ins := .iconst 0) rfl) (by first | rfl | decide)) (
  tkc (s_istore_n (at_ dl_X4_mostRounds 3 (ins := .istore_n 2) rfl) (by decide)) (
  tkc (s_iload_n (at_ dl_X4_mostRounds 4 (ins := .iload_n 2) rfl)) (
  tkc (s_aload_n (at_ dl_X4_mostRounds 5 (ins := .aload_n 0) rfl)) (
  tkc (s_gI (at_ dl_X4_mostRounds 6 (ins := .getfield 18) rfl) (by decide) (by decide) (by decide) (tg 245 (by decide +kernel) (by decide +kernel))) (
  tkc (s_ic_ge (at_ dl_X4_mostRounds 7 (ins := .if_icmp .ge 20) rfl) (by decide)) (
  tkc (s_iload_n (at_ dl_X4_mostRounds 8 (ins := .iload_n 1) rfl)) (
  tkc (s_aload_n (at_ dl_X4_mostRounds 9 (ins := .aload_n 0) rfl)) (
  tkc (s_gR (at_ dl_X4_mostRounds 10 (ins := .getfield 9) rfl) (by decide) (by decide) (by decide) (tg 243 (by decide +kernel) (by decide +kernel))) (
  tkc (s_iload_n (at_ dl_X4_mostRounds 11 (ins := .iload_n 2) rfl)) (
  tkc (s_ia (at_ dl_X4_mostRounds 12 (ins := .iaload) rfl)) (
  tkc (s_mx (at_ dl_X4_mostRounds 13 (ins := .invokestatic 43) rfl) (tg 630 (by decide +kernel) (by decide +kernel)) (by decide) (by decide)) (
  tkc (s_istore_n (at_ dl_X4_mostRounds 14 (ins := .istore_n 1) rfl) (by decide)) (
  tkc (s_iinc (at_ dl_X4_mostRounds 15 (ins := .iinc 2 1) rfl) (by decide) (by first | rfl | decide)) (
  tkc (s_goto (at_ dl_X4_mostRounds 16 (ins := .goto (-22)) rfl) (by decide)) (
  tkc (s_iload_n (at_ dl_X4_mostRounds 17 (ins := .iload_n 1) rfl)) (
  tkc (s_rI (at_ dl_X4_mostRounds 18 (ins := .ireturn) rfl) rfl) ( tk0)))))))))))))))))))
theorem lf_X4_mostRounds : lk (tb_X4_mostRounds) 0 = (x_c 1 (.int 0), false) ∧ lk (tb_X4_mostRounds) 1 = (x_is 2 1, false) ∧ lk (tb_X4_mostRounds) 2 = (x_c 3 (.int 0), false) ∧ lk (tb_X4_mostRounds) 3 = (x_is 4 2, false) ∧ lk (tb_X4_mostRounds) 4 = (x_il 5 2, true) ∧ lk (tb_X4_mostRounds) 5 = (x_al 6 0, false) ∧ lk (tb_X4_mostRounds) 6 = (x_gI 4 2 9, false) ∧ lk (tb_X4_mostRounds) 9 = (x_ic 29 12 (fun x y : Int32 => y ≤ x), false) ∧ lk (tb_X4_mostRounds) 12 = (x_il 13 1, false) ∧ lk (tb_X4_mostRounds) 13 = (x_al 14 0, false) ∧ lk (tb_X4_mostRounds) 14 = (x_gR 4 0 17, false) ∧ lk (tb_X4_mostRounds) 17 = (x_il 18 2, false) ∧ lk (tb_X4_mostRounds) 18 = (x_ia 19, false) ∧ lk (tb_X4_mostRounds) 19 = (x_mx 22, false) ∧ lk (tb_X4_mostRounds) 22 = (x_is 23 1, false) ∧ lk (tb_X4_mostRounds) 23 = (x_inc 26 2 1, false) ∧ lk (tb_X4_mostRounds) 26 = (x_go 4, false) ∧ lk (tb_X4_mostRounds) 29 = (x_il 30 1, false) ∧ lk (tb_X4_mostRounds) 30 = (x_rI, false) := ⟨rfl, rfl, rfl, rfl, rfl, rfl, rfl, rfl, rfl, rfl, rfl, rfl, rfl, rfl, rfl, rfl, rfl, rfl, rfl⟩
def P_X4_mostRounds : PTT := fun as M R => match as with
  | [.ref k] => k = 93 ∧ IsSe M.1 ∧ (∃ c, SeV M.2.1 c) ∧ R (some (.int (nI (mxR (M.2.1 94) (tn (M.2.1 93 2)))))) M
  | _ => False
set_option maxRecDepth 20000 in
theorem ok_X4_mostRounds : Ok yX4_mostRounds mt_X4_mostRounds P_X4_mostRounds := by
  refine Ok.of (by decide) rfl rfl rfl rfl fun av ⟨S, I, L⟩ R hP => ?_
  unfold P_X4_mostRounds at hP
  split at hP
  case h_2 => exact hP.elim
  rename_i k
  obtain ⟨k, rfl⟩ : ∃ q : Nat, q = k := ⟨k, rfl⟩
  refine ⟨by simp [ent, wide, mt_X4_mostRounds], ?_⟩
  show J mt_X4_mostRounds R 0 [some (.ref k), none, none] [] (S, I, L)
  try dsimp only at hP
  obtain ⟨rfl, hk, ⟨c, h6, hc, h20⟩, hR⟩ := hP
  rw [hc, tn_nI (by omega)] at hR
  refine J.of tk_X4_mostRounds 200 fun ρ hρ => ?_
  simp only [hρ, x_c, x_il, x_ll, x_al, x_is, x_as, x_ls, x_inc, x_ii, x_iq, x_i1, x_l2, x_lq, x_lh, x_i2l, x_l2i, x_lcmp, x_dup, x_dup2, x_pop, x_if, x_ifn, x_ic, x_icn, x_go, x_sw, swc, x_l01, x_mx, x_gI, x_gL, x_gR, x_pI, x_pZ, x_pL, x_pR, x_ia, x_za, x_aa, x_ias, x_zas, x_aas, x_fac, x_fa, x_slen, x_sa, x_ac, x_oi, x_new, x_na, x_cS, x_cV, x_cI, x_rI, x_rZ, x_rL, x_r0, pa, short, oc, lg, lset, lset2, wide, cond_true, cond_false, true_and, and_true, ↓reduceIte, Bool.false_eq_true, true_or, or_true, lf_X4_mostRounds]
  refine up (P := fun i => J mt_X4_mostRounds R 4 [some (.ref 93), some (.int (nI (mxR (I 94) i))), some (.int (nI i))] [] (S, I, L)) (n := c) (fun i hi ih => ?_) 0 (Nat.zero_le _)
  refine J.of tk_X4_mostRounds 200 fun ρ hρ => ?_
  simp only [hρ, x_c, x_il, x_ll, x_al, x_is, x_as, x_ls, x_inc, x_ii, x_iq, x_i1, x_l2, x_lq, x_lh, x_i2l, x_l2i, x_lcmp, x_dup, x_dup2, x_pop, x_if, x_ifn, x_ic, x_icn, x_go, x_sw, swc, x_l01, x_mx, x_gI, x_gL, x_gR, x_pI, x_pZ, x_pL, x_pR, x_ia, x_za, x_aa, x_ias, x_zas, x_aas, x_fac, x_fa, x_slen, x_sa, x_ac, x_oi, x_new, x_na, x_cS, x_cV, x_cI, x_rI, x_rZ, x_rL, x_r0, pa, short, oc, lg, lset, lset2, wide, cond_true, cond_false, true_and, and_true, ↓reduceIte, Bool.false_eq_true, true_or, or_true, lf_X4_mostRounds, hk.f, hc, nI_leI (show c < 2 ^ 31 by omega) (show i < 2 ^ 31 by omega), ncl (show i < 2 ^ 31 by omega), nI_1]
  refine ⟨fun h => ?_, fun h => ⟨vp_in_nI (by omega) (by omega), ?_⟩⟩
  · have : i = c := by omega
    subst this
    exact hR
  · have hw := ih (by omega)
    have h1 := mxR_le (f := I 94) (i := i) (fun j hj => h20 j (by omega))
    have h2 := h20 i (by omega)
    have e : (if nI (mxR (I 94) i) < I 94 i then I 94 i else nI (mxR (I 94) i)) = nI (mxR (I 94) (i + 1)) := by
      have e1 : I 94 i = nI (tn (I 94 i)) := (nI_tn _).symm
      simp only [mxR]
      rw [e1, tn_nI (n := tn (I 94 i)) (by omega)]
      by_cases hl : mxR (I 94) i < tn (I 94 i)
      · rw [if_pos hl, if_pos ((nI_ltI (by omega) (by omega)).mpr hl)]
      · rw [if_neg hl, if_neg (fun q => hl ((nI_ltI (by omega) (by omega)).mp q))]
    rw [e]
    exact hw
def bB (b : Bool) : Int32 := if b = true then 1 else 0
theorem bB_0 {b : Bool} : bB b = 0 ↔ ¬ b = true := by cases b <;> decide
theorem bB_t {b : Bool} (h : b = true) : bB b = 1 := by rw [h]; rfl
theorem bB_f {b : Bool} (h : ¬ b = true) : bB b = 0 := by cases b; rfl; exact absurd rfl h
theorem bB_or {b : Bool} : bB b = 0 ∨ bB b = 1 := by cases b <;> decide
theorem bB_congr {a b : Bool} (h : a = true ↔ b = true) : bB a = bB b := by cases a <;> cases b <;> simp_all
def sbB (rw op : Nat → Int32) (n v : Int32) : Nat → Bool
  | 0 => true
  | i + 1 => sbB rw op n v i && (!(rw i == n) || (op i == v))
theorem sbB_iff (rw op : Nat → Int32) (n v : Int32) : ∀ c, sbB rw op n v c = true ↔ ∀ i, i < c → rw i = n → op i = v
  | 0 => by simp [sbB]
  | c + 1 => by
    simp only [sbB, Bool.and_eq_true, sbB_iff rw op n v c, Bool.or_eq_true, Bool.not_eq_true', beq_eq_false_iff_ne, beq_iff_eq]
    constructor
    · rintro ⟨h1, h2⟩ i hi e
      by_cases ei : i = c
      · subst ei; exact h2.resolve_left (fun z => z e)
      · exact h1 i (by omega) e
    · intro h
      refine ⟨fun i hi => h i (by omega), ?_⟩
      by_cases e : rw c = n
      · exact Or.inr (h c (by omega) e)
      · exact Or.inl e
def il_X4_isSoBehind : List (Nat × Instr × Nat) := [(0, .iconst 0, 1), (1, .istore_n 3, 1), (2, .iload_n 3, 1), (3, .aload_n 0, 1), (4, .getfield 18, 3), (7, .if_icmp .ge 31, 3), (10, .aload_n 0, 1), (11, .getfield 9, 3), (14, .iload_n 3, 1), (15, .iaload, 1), (16, .iload_n 1, 1), (17, .if_icmp .ne 15, 3), (20, .aload_n 0, 1), (21, .getfield 15, 3), (24, .iload_n 3, 1), (25, .iaload, 1), (26, .iload_n 2, 1), (27, .if_icmp .eq 5, 3), (30, .iconst 0, 1), (31, .ireturn, 1), (32, .iinc 3 1, 3), (35, .goto (-33), 3), (38, .iconst 1, 1), (39, .ireturn, 1)]
def mt_X4_isSoBehind : Mt := (cX4_isSoBehind, RX4, 4, (some .boolean), ({ frames := 0, cells := 0, slots := 0, locals := 0 } : Room), false, none, none)
set_option maxRecDepth 100000 in
theorem dl_X4_isSoBehind : ∀ q ∈ il_X4_isSoBehind, decode (mt_X4_isSoBehind).1 q.1 = .ok q.2 := by decide +kernel
def tb_X4_isSoBehind : Tb := [(0, x_c 1 (.int 0), false),
  (1, x_is 2 3, false),
  (2, x_il 3 3, true),
  (3, x_al 4 0, false),
  (4, x_gI 4 2 7, false),
  (7, x_ic 38 10 (fun x y : Int32 => y ≤ x), false),
  (10, x_al 11 0, false),
  (11, x_gR 4 0 14, false),
  (14, x_il 15 3, false),
  (15, x_ia 16, false),
  (16, x_il 17 1, false),
  (17, x_icn 32 20 (fun x y : Int32 => x = y), false),
  (20, x_al 21 0, false),
  (21, x_gR 4 1 24, false),
  (24, x_il 25 3, false),
  (25, x_ia 26, false),
  (26, x_il 27 2, false),
  (27, x_ic 32 30 (fun x y : Int32 => x = y), false),
  (30, x_c 31 (.int 0), false),
  (31, x_rZ, false),
  (32, x_inc 35 3 1, false),
  (35, x_go 2, false),
  (38, x_c 39 (.int 1), false),
  (39, x_rZ, false)]
set_option maxRecDepth 100000 in
theorem tk_X4_isSoBehind : TbOk (mt_X4_isSoBehind) (tb_X4_isSoBehind) :=
  tkc (s_iconst (at_ dl_X4_isSoBehind 0 (ins := .iconst 0) rfl) (by first | rfl | decide)) (
  tkc (s_istore_n (at_ dl_X4_isSoBehind 1 (ins := .istore_n 3) rfl) (by decide)) (
  tkc (s_iload_n (at_ dl_X4_isSoBehind 2 (ins := .iload_n 3) rfl)) (
  tkc (s_aload_n (at_ dl_X4_isSoBehind 3 (ins := .aload_n 0) rfl)) (
  tkc (s_gI (at_ dl_X4_isSoBehind 4 (ins := .getfield 18) rfl) (by decide) (by decide) (by decide) (tg 245 (by decide +kernel) (by decide +kernel))) (
  tkc (s_ic_ge (at_ dl_X4_isSoBehind 5 (ins := .if_icmp .ge 31) rfl) (by decide)) (
  tkc (s_aload_n (at_ dl_X4_isSoBehind 6 (ins := .aload_n 0) rfl)) (
  tkc (s_gR (at_ dl_X4_isSoBehind 7 (ins := .getfield 9) rfl) (by decide) (by decide) (by decide) (tg 243 (by decide +kernel) (by decide +kernel))) (
  tkc (s_iload_n (at_ dl_X4_isSoBehind 8 (ins := .iload_n 3) rfl)) (
  tkc (s_ia (at_ dl_X4_isSoBehind 9 (ins := .iaload) rfl)) (
  tkc (s_iload_n (at_ dl_X4_isSoBehind 10 (ins := .iload_n 1) rfl)) (
  tkc (s_ic_ne (at_ dl_X4_isSoBehind 11 (ins := .if_icmp .ne 15) rfl) (by decide)) (
  tkc (s_aload_n (at_ dl_X4_isSoBehind 12 (ins := .aload_n 0) rfl)) (
  tkc (s_gR (at_ dl_X4_isSoBehind 13 (ins := .getfield 15) rfl) (by decide) (by decide) (by decide) (tg 244 (by decide +kernel) (by decide +kernel))) (
  tkc (s_iload_n (at_ dl_X4_isSoBehind 14 (ins := .iload_n 3) rfl)) (
  tkc (s_ia (at_ dl_X4_isSoBehind 15 (ins := .iaload) rfl)) (
  tkc (s_iload_n (at_ dl_X4_isSoBehind 16 (ins := .iload_n 2) rfl)) (
  tkc (s_ic_eq (at_ dl_X4_isSoBehind 17 (ins := .if_icmp .eq 5) rfl) (by decide)) (
  tkc (s_iconst (at_ dl_X4_isSoBehind 18 (ins := .iconst 0) rfl) (by first | rfl | decide)) (
  tkc (s_rZ (at_ dl_X4_isSoBehind 19 (ins := .ireturn) rfl) rfl) (
  tkc (s_iinc (at_ dl_X4_isSoBehind 20 (ins := .iinc 3 1) rfl) (by decide) (by first | rfl | decide)) (
  tkc (s_goto (at_ dl_X4_isSoBehind 21 (ins := .goto (-33)) rfl) (by decide)) (
  tkc (s_iconst (at_ dl_X4_isSoBehind 22 (ins := .iconst 1) rfl) (by first | rfl | decide)) (
  tkc (s_rZ (at_ dl_X4_isSoBehind 23 (ins := .ireturn) rfl) rfl) ( tk0))))))))))))))))))))))))
theorem lf_X4_isSoBehind : lk (tb_X4_isSoBehind) 0 = (x_c 1 (.int 0), false) ∧ lk (tb_X4_isSoBehind) 1 = (x_is 2 3, false) ∧ lk (tb_X4_isSoBehind) 2 = (x_il 3 3, true) ∧ lk (tb_X4_isSoBehind) 3 = (x_al 4 0, false) ∧ lk (tb_X4_isSoBehind) 4 = (x_gI 4 2 7, false) ∧ lk (tb_X4_isSoBehind) 7 = (x_ic 38 10 (fun x y : Int32 => y ≤ x), false) ∧ lk (tb_X4_isSoBehind) 10 = (x_al 11 0, false) ∧ lk (tb_X4_isSoBehind) 11 = (x_gR 4 0 14, false) ∧ lk (tb_X4_isSoBehind) 14 = (x_il 15 3, false) ∧ lk (tb_X4_isSoBehind) 15 = (x_ia 16, false) ∧ lk (tb_X4_isSoBehind) 16 = (x_il 17 1, false) ∧ lk (tb_X4_isSoBehind) 17 = (x_icn 32 20 (fun x y : Int32 => x = y), false) ∧ lk (tb_X4_isSoBehind) 20 = (x_al 21 0, false) ∧ lk (tb_X4_isSoBehind) 21 = (x_gR 4 1 24, false) ∧ lk (tb_X4_isSoBehind) 24 = (x_il 25 3, false) ∧ lk (tb_X4_isSoBehind) 25 = (x_ia 26, false) ∧ lk (tb_X4_isSoBehind) 26 = (x_il 27 2, false) ∧ lk (tb_X4_isSoBehind) 27 = (x_ic 32 30 (fun x y : Int32 => x = y), false) ∧ lk (tb_X4_isSoBehind) 30 = (x_c 31 (.int 0), false) ∧ lk (tb_X4_isSoBehind) 31 = (x_rZ, false) ∧ lk (tb_X4_isSoBehind) 32 = (x_inc 35 3 1, false) ∧ lk (tb_X4_isSoBehind) 35 = (x_go 2, false) ∧ lk (tb_X4_isSoBehind) 38 = (x_c 39 (.int 1), false) ∧ lk (tb_X4_isSoBehind) 39 = (x_rZ, false) := ⟨rfl, rfl, rfl, rfl, rfl, rfl, rfl, rfl, rfl, rfl, rfl, rfl, rfl, rfl, rfl, rfl, rfl, rfl, rfl, rfl, rfl, rfl, rfl, rfl⟩
def P_X4_isSoBehind : PTT := fun as M R => match as with
  | [.ref k, .int n, .int v] => k = 93 ∧ IsSe M.1 ∧ (∃ c, SeV M.2.1 c) ∧ R (some (.int (bB (sbB (M.2.1 94) (M.2.1 95) n v (tn (M.2.1 93 2)))))) M
  | _ => False
set_option maxRecDepth 20000 in
theorem ok_X4_isSoBehind : Ok yX4_isSoBehind mt_X4_isSoBehind P_X4_isSoBehind := by
  refine Ok.of (by decide) rfl rfl rfl rfl fun av ⟨S, I, L⟩ R hP => ?_
  unfold P_X4_isSoBehind at hP
  split at hP
  case h_2 => exact hP.elim
  rename_i k n v
  obtain ⟨k, rfl⟩ : ∃ q : Nat, q = k := ⟨k, rfl⟩
  refine ⟨by simp [ent, wide, mt_X4_isSoBehind], ?_⟩
  show J mt_X4_isSoBehind R 0 [some (.ref k), some (.int n), some (.int v), none] [] (S, I, L)
  try dsimp only at hP
  obtain ⟨rfl, hk, ⟨c, h6, hc, h20⟩, hR⟩ := hP
  rw [hc, tn_nI (by omega)] at hR
  refine J.of tk_X4_isSoBehind 200 fun ρ hρ => ?_
  simp only [hρ, x_c, x_il, x_ll, x_al, x_is, x_as, x_ls, x_inc, x_ii, x_iq, x_i1, x_l2, x_lq, x_lh, x_i2l, x_l2i, x_lcmp, x_dup, x_dup2, x_pop, x_if, x_ifn, x_ic, x_icn, x_go, x_sw, swc, x_l01, x_mx, x_gI, x_gL, x_gR, x_pI, x_pZ, x_pL, x_pR, x_ia, x_za, x_aa, x_ias, x_zas, x_aas, x_fac, x_fa, x_slen, x_sa, x_ac, x_oi, x_new, x_na, x_cS, x_cV, x_cI, x_rI, x_rZ, x_rL, x_r0, pa, short, oc, lg, lset, lset2, wide, cond_true, cond_false, true_and, and_true, ↓reduceIte, Bool.false_eq_true, true_or, or_true, lf_X4_isSoBehind]
  have key := up (P := fun i => (∀ j, j < i → I 94 j = n → I 95 j = v) → J mt_X4_isSoBehind R 2 [some (.ref 93), some (.int n), some (.int v), some (.int (nI i))] [] (S, I, L)) (n := c) (fun i hi ih => ?_) 0 (Nat.zero_le _)
  · exact key (fun j hj => by omega)
  intro hall
  have hv : i < c → vp_in (nI i) 6 := fun h => vp_in_nI (by omega) (by omega)
  refine J.of tk_X4_isSoBehind 200 fun ρ hρ => ?_
  simp only [hρ, x_c, x_il, x_ll, x_al, x_is, x_as, x_ls, x_inc, x_ii, x_iq, x_i1, x_l2, x_lq, x_lh, x_i2l, x_l2i, x_lcmp, x_dup, x_dup2, x_pop, x_if, x_ifn, x_ic, x_icn, x_go, x_sw, swc, x_l01, x_mx, x_gI, x_gL, x_gR, x_pI, x_pZ, x_pL, x_pR, x_ia, x_za, x_aa, x_ias, x_zas, x_aas, x_fac, x_fa, x_slen, x_sa, x_ac, x_oi, x_new, x_na, x_cS, x_cV, x_cI, x_rI, x_rZ, x_rL, x_r0, pa, short, oc, lg, lset, lset2, wide, cond_true, cond_false, true_and, and_true, ↓reduceIte, Bool.false_eq_true, true_or, or_true, lf_X4_isSoBehind, hk.f, hc, nI_leI (show c < 2 ^ 31 by omega) (show i < 2 ^ 31 by omega), ncl (show i < 2 ^ 31 by omega), nI_1]
  refine ⟨fun h => ?_, fun h => ⟨hv (by omega), fun h2 => ih (by omega) (fun j hj e => ?_), fun h2 => ⟨hv (by omega), fun h3 => ih (by omega) (fun j hj e => ?_), fun h3 => ?_⟩⟩⟩
  · have : i = c := by omega
    subst this
    rwa [bB_t ((sbB_iff _ _ _ _ _).mpr hall)] at hR
  · by_cases ej : j = i
    · subst ej; exact absurd e h2
    · exact hall j (by omega) e
  · by_cases ej : j = i
    · subst ej; exact h3
    · exact hall j (by omega) e
  · rwa [bB_f (fun q => h3 ((sbB_iff _ _ _ _ _).mp q i (by omega) h2))] at hR
def soB (opR : Nat → Nat) (rw op : Nat → Int32) : Nat → Bool
  | 0 => true
  | i + 1 => soB opR rw op i && (nI (opR (tn (rw i))) == op i)
theorem soB_iff (opR : Nat → Nat) (rw op : Nat → Int32) : ∀ c, soB opR rw op c = true ↔ ∀ i, i < c → nI (opR (tn (rw i))) = op i
  | 0 => by simp [soB]
  | c + 1 => by
    simp only [soB, Bool.and_eq_true, soB_iff opR rw op c, beq_iff_eq]
    constructor
    · rintro ⟨h1, h2⟩ i hi
      by_cases ei : i = c
      · subst ei; exact h2
      · exact h1 i (by omega)
    · intro h
      exact ⟨fun i hi => h i (by omega), h c (by omega)⟩
def opR (n m : Nat) (off : Int32) (ov ord : Nat → Nat) (d : DS) : Nat → Nat := fun r => opD n m ov (itD n m off ov ord r d)
def ap93 (k : Nat) : Prop := k + 5 ≤ 93 ∨ 96 ≤ k
def il_X4_isSoBy : List (Nat × Instr × Nat) := [(0, .aload_n 0, 1), (1, .invokevirtual 22, 3), (4, .istore_n 3, 1), (5, .aload_n 1, 1), (6, .invokevirtual 26, 3), (9, .iconst 0, 1), (10, .istore 4, 2), (12, .iload 4, 2), (14, .iload_n 3, 1), (15, .if_icmp .ge 30, 3), (18, .aload_n 0, 1), (19, .iload 4, 2), (21, .aload_n 1, 1), (22, .invokevirtual 31, 3), (25, .invokevirtual 33, 3), (28, .ifCond .ne 5, 3), (31, .iconst 0, 1), (32, .ireturn, 1), (33, .aload_n 2, 1), (34, .aload_n 1, 1), (35, .invokevirtual 37, 3), (38, .pop, 1), (39, .iinc 4 1, 3), (42, .goto (-30), 3), (45, .aload_n 0, 1), (46, .iload_n 3, 1), (47, .aload_n 1, 1), (48, .invokevirtual 31, 3), (51, .invokevirtual 33, 3), (54, .ireturn, 1)]
def mt_X4_isSoBy : Mt := (cX4_isSoBy, RX4, 5, (some .boolean), ({ frames := 3, cells := 0, slots := 0, locals := 77 } : Room), false, none, none)
set_option maxRecDepth 100000 in
theorem dl_X4_isSoBy : ∀ q ∈ il_X4_isSoBy, decode (mt_X4_isSoBy).1 q.1 = .ok q.2 := by decide +kernel
def tb_X4_isSoBy : Tb := [(0, x_al 1 0, false),
  (1, x_cV 4 0 P_X4_mostRounds 4, false),
  (4, x_is 5 3, false),
  (5, x_al 6 1, false),
  (6, x_cV 5 0 P_X5_beginAnew 9, false),
  (9, x_c 10 (.int 0), false),
  (10, x_is 12 4, false),
  (12, x_il 14 4, true),
  (14, x_il 15 3, false),
  (15, x_ic 45 18 (fun x y : Int32 => y ≤ x), false),
  (18, x_al 19 0, false),
  (19, x_il 21 4, false),
  (21, x_al 22 1, false),
  (22, x_cV 5 0 P_X5_open 25, false),
  (25, x_cV 4 2 P_X4_isSoBehind 28, false),
  (28, x_ifn 33 31 (fun x : Int32 => x = 0), false),
  (31, x_c 32 (.int 0), false),
  (32, x_rZ, false),
  (33, x_al 34 2, false),
  (34, x_al 35 1, false),
  (35, x_cV 1 1 P_X1_runRound 38, false),
  (38, x_pop 39, false),
  (39, x_inc 42 4 1, false),
  (42, x_go 12, false),
  (45, x_al 46 0, false),
  (46, x_il 47 3, false),
  (47, x_al 48 1, false),
  (48, x_cV 5 0 P_X5_open 51, false),
  (51, x_cV 4 2 P_X4_isSoBehind 54, false),
  (54, x_rZ, false)]
set_option maxRecDepth 100000 in
theorem tk_X4_isSoBy : TbOk (mt_X4_isSoBy) (tb_X4_isSoBy) :=
  tkc (s_aload_n (at_ dl_X4_isSoBy 0 (ins := .aload_n 0) rfl)) (
  tkc (s_cV ok_X4_mostRounds (at_ dl_X4_isSoBy 1 (ins := .invokevirtual 22) rfl) (by decide) rfl (tg 626 (by decide +kernel) (by decide +kernel)) (tg 628 (by decide +kernel) (by decide +kernel)) (tg 15 (by decide +kernel) (by decide +kernel)) (tg 50 (by decide +kernel) (by decide +kernel)) (tg 629 (by decide +kernel) (by decide +kernel)) (⟨by decide, by decide, by decide +kernel⟩) (⟨by decide, by decide⟩) rfl rfl) (
  tkc (s_istore_n (at_ dl_X4_isSoBy 2 (ins := .istore_n 3) rfl) (by decide)) (
  tkc (s_aload_n (at_ dl_X4_isSoBy 3 (ins := .aload_n 1) rfl)) (
  tkc (s_cV ok_X5_beginAnew (at_ dl_X4_isSoBy 4 (ins := .invokevirtual 26) rfl) (by decide) rfl (tg 633 (by decide +kernel) (by decide +kernel)) (tg 349 (by decide +kernel) (by decide +kernel)) (tg 350 (by decide +kernel) (by decide +kernel)) (tg 45 (by decide +kernel) (by decide +kernel)) (tg 351 (by decide +kernel) (by decide +kernel)) (⟨by decide, by decide, by decide +kernel⟩) (⟨by decide, by decide⟩) rfl rfl) (
  tkc (s_iconst (at_ dl_X4_isSoBy 5 (ins := .iconst 0) rfl) (by first | rfl | decide)) (
  tkc (s_istore (at_ dl_X4_isSoBy 6 (ins := .istore 4) rfl) (by decide)) (
  tkc (s_iload (at_ dl_X4_isSoBy 7 (ins := .iload 4) rfl)) (
  tkc (s_iload_n (at_ dl_X4_isSoBy 8 (ins := .iload_n 3) rfl)) (
  tkc (s_ic_ge (at_ dl_X4_isSoBy 9 (ins := .if_icmp .ge 30) rfl) (by decide)) (
  tkc (s_aload_n (at_ dl_X4_isSoBy 10 (ins := .aload_n 0) rfl)) (
  tkc (s_iload (at_ dl_X4_isSoBy 11 (ins := .iload 4) rfl)) (
  tkc (s_aload_n (at_ dl_X4_isSoBy 12 (ins := .aload_n 1) rfl)) (
  tkc (s_cV ok_X5_open (at_ dl_X4_isSoBy 13 (ins := .invokevirtual 31) rfl) (by decide) rfl (tg 634 (by decide +kernel) (by decide +kernel)) (tg 365 (by decide +kernel) (by decide +kernel)) (tg 366 (by decide +kernel) (by decide +kernel)) (tg 45 (by decide +kernel) (by decide +kernel)) (tg 367 (by decide +kernel) (by decide +kernel)) (⟨by decide, by decide, by decide +kernel⟩) (⟨by decide, by decide⟩) rfl rfl) (
  tkc (s_cV ok_X4_isSoBehind (at_ dl_X4_isSoBy 14 (ins := .invokevirtual 33) rfl) (by decide) rfl (tg 635 (by decide +kernel) (by decide +kernel)) (tg 637 (by decide +kernel) (by decide +kernel)) (tg 16 (by decide +kernel) (by decide +kernel)) (tg 50 (by decide +kernel) (by decide +kernel)) (tg 638 (by decide +kernel) (by decide +kernel)) (⟨by decide, by decide, by decide +kernel⟩) (⟨by decide, by decide⟩) rfl rfl) (
  tkc (s_if_ne (at_ dl_X4_isSoBy 15 (ins := .ifCond .ne 5) rfl) (by decide)) (
  tkc (s_iconst (at_ dl_X4_isSoBy 16 (ins := .iconst 0) rfl) (by first | rfl | decide)) (
  tkc (s_rZ (at_ dl_X4_isSoBy 17 (ins := .ireturn) rfl) rfl) (
  tkc (s_aload_n (at_ dl_X4_isSoBy 18 (ins := .aload_n 2) rfl)) (
  tkc (s_aload_n (at_ dl_X4_isSoBy 19 (ins := .aload_n 1) rfl)) (
  tkc (s_cV ok_X1_runRound (at_ dl_X4_isSoBy 20 (ins := .invokevirtual 37) rfl) (by decide) rfl (tg 639 (by decide +kernel) (by decide +kernel)) (tg 454 (by decide +kernel) (by decide +kernel)) (tg 455 (by decide +kernel) (by decide +kernel)) (tg 46 (by decide +kernel) (by decide +kernel)) (tg 456 (by decide +kernel) (by decide +kernel)) (⟨by decide, by decide, by decide +kernel⟩) (⟨by decide, by decide⟩) rfl rfl) (
  tkc (s_pop (at_ dl_X4_isSoBy 21 (ins := .pop) rfl)) (
  tkc (s_iinc (at_ dl_X4_isSoBy 22 (ins := .iinc 4 1) rfl) (by decide) (by first | rfl | decide)) (
  tkc (s_goto (at_ dl_X4_isSoBy 23 (ins := .goto (-30)) rfl) (by decide)) (
  tkc (s_aload_n (at_ dl_X4_isSoBy 24 (ins := .aload_n 0) rfl)) (
  tkc (s_iload_n (at_ dl_X4_isSoBy 25 (ins := .iload_n 3) rfl)) (
  tkc (s_aload_n (at_ dl_X4_isSoBy 26 (ins := .aload_n 1) rfl)) (
  tkc (s_cV ok_X5_open (at_ dl_X4_isSoBy 27 (ins := .invokevirtual 31) rfl) (by decide) rfl (tg 634 (by decide +kernel) (by decide +kernel)) (tg 365 (by decide +kernel) (by decide +kernel)) (tg 366 (by decide +kernel) (by decide +kernel)) (tg 45 (by decide +kernel) (by decide +kernel)) (tg 367 (by decide +kernel) (by decide +kernel)) (⟨by decide, by decide, by decide +kernel⟩) (⟨by decide, by decide⟩) rfl rfl) (
  tkc (s_cV ok_X4_isSoBehind (at_ dl_X4_isSoBy 28 (ins := .invokevirtual 33) rfl) (by decide) rfl (tg 635 (by decide +kernel) (by decide +kernel)) (tg 637 (by decide +kernel) (by decide +kernel)) (tg 16 (by decide +kernel) (by decide +kernel)) (tg 50 (by decide +kernel) (by decide +kernel)) (tg 638 (by decide +kernel) (by decide +kernel)) (⟨by decide, by decide, by decide +kernel⟩) (⟨by decide, by decide⟩) rfl rfl) (
  tkc (s_rZ (at_ dl_X4_isSoBy 29 (ins := .ireturn) rfl) rfl) ( tk0))))))))))))))))))))))))))))))
theorem lf_X4_isSoBy : lk (tb_X4_isSoBy) 0 = (x_al 1 0, false) ∧ lk (tb_X4_isSoBy) 1 = (x_cV 4 0 P_X4_mostRounds 4, false) ∧ lk (tb_X4_isSoBy) 4 = (x_is 5 3, false) ∧ lk (tb_X4_isSoBy) 5 = (x_al 6 1, false) ∧ lk (tb_X4_isSoBy) 6 = (x_cV 5 0 P_X5_beginAnew 9, false) ∧ lk (tb_X4_isSoBy) 9 = (x_c 10 (.int 0), false) ∧ lk (tb_X4_isSoBy) 10 = (x_is 12 4, false) ∧ lk (tb_X4_isSoBy) 12 = (x_il 14 4, true) ∧ lk (tb_X4_isSoBy) 14 = (x_il 15 3, false) ∧ lk (tb_X4_isSoBy) 15 = (x_ic 45 18 (fun x y : Int32 => y ≤ x), false) ∧ lk (tb_X4_isSoBy) 18 = (x_al 19 0, false) ∧ lk (tb_X4_isSoBy) 19 = (x_il 21 4, false) ∧ lk (tb_X4_isSoBy) 21 = (x_al 22 1, false) ∧ lk (tb_X4_isSoBy) 22 = (x_cV 5 0 P_X5_open 25, false) ∧ lk (tb_X4_isSoBy) 25 = (x_cV 4 2 P_X4_isSoBehind 28, false) ∧ lk (tb_X4_isSoBy) 28 = (x_ifn 33 31 (fun x : Int32 => x = 0), false) ∧ lk (tb_X4_isSoBy) 31 = (x_c 32 (.int 0), false) ∧ lk (tb_X4_isSoBy) 32 = (x_rZ, false) ∧ lk (tb_X4_isSoBy) 33 = (x_al 34 2, false) ∧ lk (tb_X4_isSoBy) 34 = (x_al 35 1, false) ∧ lk (tb_X4_isSoBy) 35 = (x_cV 1 1 P_X1_runRound 38, false) ∧ lk (tb_X4_isSoBy) 38 = (x_pop 39, false) ∧ lk (tb_X4_isSoBy) 39 = (x_inc 42 4 1, false) ∧ lk (tb_X4_isSoBy) 42 = (x_go 12, false) ∧ lk (tb_X4_isSoBy) 45 = (x_al 46 0, false) ∧ lk (tb_X4_isSoBy) 46 = (x_il 47 3, false) ∧ lk (tb_X4_isSoBy) 47 = (x_al 48 1, false) ∧ lk (tb_X4_isSoBy) 48 = (x_cV 5 0 P_X5_open 51, false) ∧ lk (tb_X4_isSoBy) 51 = (x_cV 4 2 P_X4_isSoBehind 54, false) ∧ lk (tb_X4_isSoBy) 54 = (x_rZ, false) := ⟨rfl, rfl, rfl, rfl, rfl, rfl, rfl, rfl, rfl, rfl, rfl, rfl, rfl, rfl, rfl, rfl, rfl, rfl, rfl, rfl, rfl, rfl, rfl, rfl, rfl, rfl, rfl, rfl, rfl, rfl⟩
def P_X4_isSoBy : PTT := fun as M R => match as with
  | [.ref z, .ref k, .ref d] => z = 93 ∧ d = 15 ∧ IsSe M.1 ∧ IsDc M.1 ∧ IsSt M.1 k ∧ ap15 k ∧ ap93 k ∧ ∃ n m c, SV M.2.1 k n m ∧ OrdV M.2.1 m ∧ SeV M.2.1 c ∧ ∀ I', frR k M.2.1 I' → I' k = upd (M.2.1 k) 7 0 → DSok (I' (k + 3), I' (k + 4)) → R (some (.int (bB (soB (opR n m (M.2.1 k 6) (ovS M.2.1 k) (ordI M.2.1) (d0S M.2.1 k)) (M.2.1 94) (M.2.1 95) c)))) (M.1, I', M.2.2)
  | _ => False
set_option maxRecDepth 20000 in
theorem ok_X4_isSoBy : Ok yX4_isSoBy mt_X4_isSoBy P_X4_isSoBy := by
  refine Ok.of (by decide) rfl rfl rfl rfl fun av ⟨S, I, L⟩ R hP => ?_
  unfold P_X4_isSoBy at hP
  split at hP
  case h_2 => exact hP.elim
  rename_i z k d
  obtain ⟨z, rfl⟩ : ∃ q : Nat, q = z := ⟨z, rfl⟩
  obtain ⟨k, rfl⟩ : ∃ q : Nat, q = k := ⟨k, rfl⟩
  obtain ⟨d, rfl⟩ : ∃ q : Nat, q = d := ⟨d, rfl⟩
  refine ⟨by simp [ent, wide, mt_X4_isSoBy], ?_⟩
  show J mt_X4_isSoBy R 0 [some (.ref z), some (.ref k), some (.ref d), none, none] [] (S, I, L)
  try dsimp only at hP
  obtain ⟨rfl, rfl, hz, hd, hk, hj0, hj1, n, m, c, hv, ho, hse, hR⟩ := hP
  have hj : (k : Nat) + 5 ≤ 15 ∨ 18 ≤ (k : Nat) := hj0
  have hj9 : (k : Nat) + 5 ≤ 93 ∨ 96 ≤ (k : Nat) := hj1
  obtain ⟨⟨n2, n9, m6⟩, -⟩ := id hv
  have hsex : ∃ c, SeV I c := ⟨c, hse⟩
  have hc9 : tn (I 93 2) = c := by rw [hse.2.1]; exact tn_nI (by have := hse.1; omega)
  refine J.of tk_X4_isSoBy 200 fun ρ hρ => ?_
  simp only [hρ, x_c, x_il, x_ll, x_al, x_is, x_as, x_ls, x_inc, x_ii, x_iq, x_i1, x_l2, x_lq, x_lh, x_i2l, x_l2i, x_lcmp, x_dup, x_dup2, x_pop, x_if, x_ifn, x_ic, x_icn, x_go, x_sw, swc, x_l01, x_mx, x_gI, x_gL, x_gR, x_pI, x_pZ, x_pL, x_pR, x_ia, x_za, x_aa, x_ias, x_zas, x_aas, x_fac, x_fa, x_slen, x_sa, x_ac, x_oi, x_new, x_na, x_cS, x_cV, x_cI, x_rI, x_rZ, x_rL, x_r0, pa, short, oc, lg, lset, lset2, wide, cond_true, cond_false, true_and, and_true, ↓reduceIte, Bool.false_eq_true, true_or, or_true, lf_X4_isSoBy, hz, hz.f, hk, hk.f, P_X5_beginAnew, P_X4_mostRounds, hsex, hc9]
  have hmx := mxR_le hse.2.2
  generalize hM : mxR (I 94) c = mx at hmx
  have hmge : ∀ i, i < c → tn (I 94 i) ≤ mx := fun i hi => by rw [← hM]; exact mxR_ge hi
  have hvb := SV_beg hv
  generalize hB : begI I k = B at hvb
  have hBk : B k = upd (I k) 7 0 := by rw [← hB, beg_k]
  have hB1 : B (k + 1) = I (k + 1) := by rw [← hB]; exact beg_r (by omega) (by omega) (by omega)
  have hB16 : B 16 = I 16 := by rw [← hB]; exact beg_r (by omega) (by omega) (by omega)
  have hB93 : B 93 = I 93 := by rw [← hB]; exact beg_r (by omega) (by omega) (by omega)
  have hB94 : B 94 = I 94 := by rw [← hB]; exact beg_r (by omega) (by omega) (by omega)
  have hB95 : B 95 = I 95 := by rw [← hB]; exact beg_r (by omega) (by omega) (by omega)
  have hBd : (B (k + 3), B (k + 4)) = d0S I k := by rw [← hB, beg_3, beg_4]; rfl
  have hBo : OrdV B m := by intro j hj; rw [hB16]; exact ho j hj
  have hoff : B k 6 = I k 6 := by rw [hBk]; rfl
  have hBor : ordI B = ordI I := by funext j; simp only [ordI, hB16]
  have key := up (P := fun i => ∀ I', frD k B I' → (I' (k + 3), I' (k + 4)) = itD n m (I k 6) (ovS I k) (ordI I) i (d0S I k) → (∀ j, j < c → tn (I 94 j) < i → nI (opR n m (I k 6) (ovS I k) (ordI I) (d0S I k) (tn (I 94 j))) = I 95 j) → J mt_X4_isSoBy R 12 [some (.ref 93), some (.ref k), some (.ref 15), some (.int (nI mx)), some (.int (nI i))] [] (S, I', L)) (n := mx) (fun i hi ih => ?_) 0 (Nat.zero_le _)
  · exact key B (fun _ _ _ _ _ => rfl) hBd (fun j _ h => by omega)
  intro I' hf hD hall
  have e0 : I' k = B k := hf k (by omega) (by omega) (by omega) (by omega)
  have e1 : I' (k + 1) = B (k + 1) := hf (k + 1) (by omega) (by omega) (by omega) (by omega)
  have e2 : I' (k + 2) = B (k + 2) := hf (k + 2) (by omega) (by omega) (by omega) (by omega)
  have e16 : I' 16 = B 16 := hf 16 (by omega) (by omega) (by omega) (by omega)
  have e93 : I' 93 = I 93 := (hf 93 (by omega) (by omega) (by omega) (by omega)).trans hB93
  have e94 : I' 94 = I 94 := (hf 94 (by omega) (by omega) (by omega) (by omega)).trans hB94
  have e95 : I' 95 = I 95 := (hf 95 (by omega) (by omega) (by omega) (by omega)).trans hB95
  have hok := itD_ok (n := n) (m := m) (off := I k 6) (ov := ovS I k) (ord := ordI I) (d0_ok hv) i
  have hv' : SV I' k n m := SV_D hvb e0 e1 e2 (by rw [hD]; exact hok)
  have ho' : OrdV I' m := by intro j hj; rw [e16]; exact hBo j hj
  have hse' : ∃ c, SeV I' c := ⟨c, hse.1, by rw [e93]; exact hse.2.1, by rw [e94]; exact hse.2.2⟩
  have hs : opS I' k = opR n m (I k 6) (ovS I k) (ordI I) (d0S I k) i := by
    simp only [opR, opD]
    rw [← hD]
    unfold opS
    rw [hv'.2.1.1, hv'.2.1.2, tn_nI (n := n) (by omega), tn_nI (n := m) (by omega), ov_eq (I := I) (e1.trans hB1)]
  have hfr : frR k I I' := fun q a b c d e => by rw [hf q b c d e, ← hB]; exact beg_r a b c
  have hRI : ∀ v, bB (soB (opR n m (I k 6) (ovS I k) (ordI I) (d0S I k)) (I 94) (I 95) c) = v → R (some (.int v)) (S, I', L) := fun v hv => by
    have := hR I' hfr (by rw [e0, hBk]) (by rw [hD]; exact hok)
    rwa [hv] at this
  refine J.of tk_X4_isSoBy 200 fun ρ hρ => ?_
  simp only [hρ, x_c, x_il, x_ll, x_al, x_is, x_as, x_ls, x_inc, x_ii, x_iq, x_i1, x_l2, x_lq, x_lh, x_i2l, x_l2i, x_lcmp, x_dup, x_dup2, x_pop, x_if, x_ifn, x_ic, x_icn, x_go, x_sw, swc, x_l01, x_mx, x_gI, x_gL, x_gR, x_pI, x_pZ, x_pL, x_pR, x_ia, x_za, x_aa, x_ias, x_zas, x_aas, x_fac, x_fa, x_slen, x_sa, x_ac, x_oi, x_new, x_na, x_cS, x_cV, x_cI, x_rI, x_rZ, x_rL, x_r0, pa, short, oc, lg, lset, lset2, wide, cond_true, cond_false, true_and, and_true, ↓reduceIte, Bool.false_eq_true, true_or, or_true, lf_X4_isSoBy, hz, hd, hk, hj0, hz.f, hd.f, hk.f, P_X5_open, P_X4_isSoBehind, P_X1_runRound, hv'.q, hse', hs, e93, e94, e95, hc9, nI_leI (show mx < 2 ^ 31 by omega) (show i < 2 ^ 31 by omega), bB_0, bB_or, Classical.not_not, nI_1]
  refine ⟨fun h => ?_, fun h => ⟨fun h2 => ?_, fun h2 => hRI _ (bB_f (fun q => ?_))⟩⟩
  · have : i = mx := by omega
    subst this
    refine ⟨bB_or.imp_left bB_0.mp, hRI _ (bB_congr ?_)⟩
    rw [soB_iff, sbB_iff]
    constructor
    · intro q j hj e
      have := q j hj
      rw [e, tn_nI (by omega)] at this
      exact this.symm
    · intro q j hj
      by_cases e : tn (I 94 j) < i
      · exact hall j hj e
      · have : tn (I 94 j) = i := by have := hmge j hj; omega
        rw [this]
        exact (q j hj (by rw [← this, nI_tn])).symm
  · rw [sbB_iff] at h2
    refine ⟨n, m, hv', ho', fun I2 ch2 hf2 hD2 hch2 hz2 => ?_⟩
    rw [e0, hoff, ov_eq (I := I) (e1.trans hB1), show ordI I' = ordI I by rw [← hBor]; funext j; simp only [ordI, e16], hD] at hD2
    refine ih (by omega) I2 (fun q a b c d => (hf2 q a b c d).trans (hf q a b c d)) hD2 (fun j hj h3 => ?_)
    by_cases e : tn (I 94 j) < i
    · exact hall j hj e
    · have : tn (I 94 j) = i := by omega
      rw [this]
      exact (h2 j hj (by rw [← this, nI_tn])).symm
  · apply h2
    rw [sbB_iff]
    intro j hj e
    have := (soB_iff _ _ _ _).mp q j hj
    rw [e, tn_nI (by omega)] at this
    exact this.symm
end
section
/-! ACTS, at 21 (array 22, states from 23 on) -/
def IsAc (S : Sh) : Prop := tO S 21 0 ∧ sR S 21 0 = 22 ∧ tA S 22 3 ∧ ln S 22 = 14 ∧ ∀ i, i < 14 → sR S 22 i = 23 + 5 * i ∧ IsSt S (23 + 5 * i)
theorem IsAc.f {S : Sh} (h : IsAc S) : tO S 21 0 ∧ sR S 21 0 = 22 ∧ tA S 22 3 ∧ ln S 22 = 14 := ⟨h.1, h.2.1, h.2.2.1, h.2.2.2.1⟩
/-- state k of I' holds what state o of I holds -/
def StCp (I' : MI) (k : Nat) (I : MI) (o : Nat) : Prop := (I' k 4 = I o 4 ∧ I' k 5 = I o 5 ∧ I' k 6 = I o 6 ∧ I' k 7 = I o 7) ∧ (∀ j, j < 6 → I' (k + 1) j = I (o + 1) j) ∧ (∀ j, j < 9 → I' (k + 2) j = I (o + 2) j) ∧ (∀ j, j < 9 → I' (k + 3) j = I (o + 3) j) ∧ (∀ j, j < 54 → I' (k + 4) j = I (o + 4) j)
theorem cpI_cp (I : MI) (k o : Nat) : StCp (cpI I k o) k I o := by
  have e0 : cpI I k o k = upd (upd (upd (upd (I k) 4 (I o 4)) 5 (I o 5)) 6 (I o 6)) 7 (I o 7) := by simp only [cpI, mS_app, kj, if_false, if_true]
  have e1 : cpI I k o (k + 1) = cpy (I (o + 1)) (I (k + 1)) 6 := by simp only [cpI, mS_app, kj, if_false, if_true]
  have e2 : cpI I k o (k + 2) = cpy (I (o + 2)) (I (k + 2)) 9 := by simp only [cpI, mS_app, kj, if_false, if_true]
  have e3 : cpI I k o (k + 3) = cpy (I (o + 3)) (I (k + 3)) 9 := by simp only [cpI, mS_app, kj, if_false, if_true]
  have e4 : cpI I k o (k + 4) = cpy (I (o + 4)) (I (k + 4)) 54 := by simp only [cpI, mS_app, if_true]
  refine ⟨⟨by rw [e0]; rfl, by rw [e0]; rfl, by rw [e0]; rfl, by rw [e0]; rfl⟩, fun j hj => by rw [e1, cpy_in hj], fun j hj => by rw [e2, cpy_in hj], fun j hj => by rw [e3, cpy_in hj], fun j hj => by rw [e4, cpy_in hj]⟩
theorem cpI_fr {I : MI} {k o q : Nat} (h : q < k ∨ k + 5 ≤ q) : cpI I k o q = I q := by
  unfold cpI
  rw [mS_n (by omega), mS_n (by omega), mS_n (by omega), mS_n (by omega), mS_n (by omega)]
theorem StCp.trans {A B C : MI} {k l o : Nat} (h1 : StCp A k B l) (h2 : StCp B l C o) : StCp A k C o := by
  obtain ⟨⟨a1, a2, a3, a4⟩, a5, a6, a7, a8⟩ := h1
  obtain ⟨⟨b1, b2, b3, b4⟩, b5, b6, b7, b8⟩ := h2
  exact ⟨⟨a1.trans b1, a2.trans b2, a3.trans b3, a4.trans b4⟩, fun j hj => (a5 j hj).trans (b5 j hj), fun j hj => (a6 j hj).trans (b6 j hj), fun j hj => (a7 j hj).trans (b7 j hj), fun j hj => (a8 j hj).trans (b8 j hj)⟩
theorem StCp.fr {A B C : MI} {k o : Nat} (h : StCp B k C o) (hf : ∀ q, k ≤ q → q < k + 5 → A q = B q) : StCp A k C o := by
  unfold StCp at h ⊢
  rw [hf k (by omega) (by omega), hf (k + 1) (by omega) (by omega), hf (k + 2) (by omega) (by omega), hf (k + 3) (by omega) (by omega), hf (k + 4) (by omega) (by omega)]
  exact h
theorem StCp.fr' {A B C : MI} {k o : Nat} (h : StCp A k B o) (hf : ∀ q, o ≤ q → q < o + 5 → C q = B q) : StCp A k C o := by
  unfold StCp at h ⊢
  rw [hf o (by omega) (by omega), hf (o + 1) (by omega) (by omega), hf (o + 2) (by omega) (by omega), hf (o + 3) (by omega) (by omega), hf (o + 4) (by omega) (by omega)]
  exact h
theorem SV_cp {I' I : MI} {k o n m : Nat} (h : StCp I' k I o) (hv : SV I o n m) : SV I' k n m := by
  obtain ⟨⟨a1, a2, a3, a4⟩, a5, a6, a7, a8⟩ := h
  obtain ⟨b1, b2, b3, ⟨of, b4, b4'⟩, b5, b6, b7⟩ := hv
  exact ⟨b1, ⟨a1.trans b2.1, a2.trans b2.2⟩, fun c hc => by rw [a5 c (by omega)]; exact b3 c hc, ⟨of, b4, a3.trans b4'⟩, fun b hb => by rw [a6 b hb]; exact b5 b hb, fun b hb => by rw [a7 b hb]; exact b6 b hb, fun j hj => by rw [a8 j hj]; exact b7 j hj⟩
def AcV (I : MI) (f c : Nat) : Prop := f < 14 ∧ c ≤ 14 ∧ I 21 1 = nI f ∧ I 21 2 = nI c
theorem nI14 : (14 : Int32) = nI 14 := by decide
theorem f14 : ¬ nI 14 = 0 := by decide
theorem rem14 {a : Nat} (h : a < 1000) : nI a - nI a / nI 14 * nI 14 = nI (a % 14) := pk_rem (by omega) (by omega) (by omega)
def il_X0_forgetAll : List (Nat × Instr × Nat) := [(0, .aload_n 0, 1), (1, .iconst 0, 1), (2, .putfield 22, 3), (5, .return_, 1)]
def mt_X0_forgetAll : Mt := (cX0_forgetAll, RX0, 1, none, ({ frames := 0, cells := 0, slots := 0, locals := 0 } : Room), false, none, none)
set_option maxRecDepth 100000 in
theorem dl_X0_forgetAll : ∀ q ∈ il_X0_forgetAll, decode (mt_X0_forgetAll).1 q.1 = .ok q.2 := by decide +kernel
def tb_X0_forgetAll : Tb := [(0, x_al 1 0, false),
  (1, x_c 2 (.int 0), false),
  (2, x_pI 0 2 5, false),
  (5, x_r0, false)]
set_option maxRecDepth 100000 in
theorem tk_X0_forgetAll : TbOk (mt_X0_forgetAll) (tb_X0_forgetAll) :=
  tkc (s_aload_n (at_ dl_X0_forgetAll 0 (ins := .aload_n 0) rfl)) (
  tkc (s_iconst (at_ dl_X0_forgetAll 1 (ins := .iconst 0) rfl) (by first | rfl | decide)) (
  tkc (s_pI (at_ dl_X0_forgetAll 2 (ins := .putfield 22) rfl) (by decide) (by decide) (by decide) (by decide) (tg 228 (by decide +kernel) (by decide +kernel))) (
  tkc (s_r0 (at_ dl_X0_forgetAll 3 (ins := .return_) rfl) rfl) ( tk0))))
theorem lf_X0_forgetAll : lk (tb_X0_forgetAll) 0 = (x_al 1 0, false) ∧ lk (tb_X0_forgetAll) 1 = (x_c 2 (.int 0), false) ∧ lk (tb_X0_forgetAll) 2 = (x_pI 0 2 5, false) ∧ lk (tb_X0_forgetAll) 5 = (x_r0, false) := ⟨rfl, rfl, rfl, rfl⟩
def P_X0_forgetAll : PTT := fun as M R => match as with
  | [.ref a] => a = 21 ∧ IsAc M.1 ∧ R none (M.1, mS M.2.1 21 (upd (M.2.1 21) 2 0), M.2.2)
  | _ => False
set_option maxRecDepth 20000 in
theorem ok_X0_forgetAll : Ok yX0_forgetAll mt_X0_forgetAll P_X0_forgetAll := by
  refine Ok.of (by decide) rfl rfl rfl rfl fun av ⟨S, I, L⟩ R hP => ?_
  unfold P_X0_forgetAll at hP
  split at hP
  case h_2 => exact hP.elim
  rename_i a
  obtain ⟨a, rfl⟩ : ∃ q : Nat, q = a := ⟨a, rfl⟩
  refine ⟨by simp [ent, wide, mt_X0_forgetAll], ?_⟩
  show J mt_X0_forgetAll R 0 [some (.ref a)] [] (S, I, L)
  try dsimp only at hP
  obtain ⟨rfl, ha, hR⟩ := hP
  refine J.of tk_X0_forgetAll 200 fun ρ hρ => ?_
  simp only [hρ, x_c, x_il, x_ll, x_al, x_is, x_as, x_ls, x_inc, x_ii, x_iq, x_i1, x_l2, x_lq, x_lh, x_i2l, x_l2i, x_lcmp, x_dup, x_dup2, x_pop, x_if, x_ifn, x_ic, x_icn, x_go, x_sw, swc, x_l01, x_mx, x_gI, x_gL, x_gR, x_pI, x_pZ, x_pL, x_pR, x_ia, x_za, x_aa, x_ias, x_zas, x_aas, x_fac, x_fa, x_slen, x_sa, x_ac, x_oi, x_new, x_na, x_cS, x_cV, x_cI, x_rI, x_rZ, x_rL, x_r0, pa, short, oc, lg, lset, lset2, wide, cond_true, cond_false, true_and, and_true, ↓reduceIte, Bool.false_eq_true, true_or, or_true, lf_X0_forgetAll, ha.f]
  exact hR
def il_X0_remember : List (Nat × Instr × Nat) := [(0, .aload_n 0, 1), (1, .getfield 22, 3), (4, .bipush 14, 2), (6, .if_icmp .ne 26, 3), (9, .aload_n 0, 1), (10, .aload_n 0, 1), (11, .getfield 18, 3), (14, .iconst 1, 1), (15, .iadd, 1), (16, .bipush 14, 2), (18, .irem, 1), (19, .putfield 18, 3), (22, .aload_n 0, 1), (23, .dup, 1), (24, .getfield 22, 3), (27, .iconst 1, 1), (28, .isub, 1), (29, .putfield 22, 3), (32, .aload_n 0, 1), (33, .getfield 11, 3), (36, .aload_n 0, 1), (37, .getfield 18, 3), (40, .aload_n 0, 1), (41, .getfield 22, 3), (44, .iadd, 1), (45, .bipush 14, 2), (47, .irem, 1), (48, .aaload, 1), (49, .aload_n 1, 1), (50, .invokevirtual 25, 3), (53, .aload_n 0, 1), (54, .dup, 1), (55, .getfield 22, 3), (58, .iconst 1, 1), (59, .iadd, 1), (60, .putfield 22, 3), (63, .return_, 1)]
def mt_X0_remember : Mt := (cX0_remember, RX0, 2, none, ({ frames := 2, cells := 0, slots := 0, locals := 39 } : Room), false, none, none)
set_option maxRecDepth 100000 in
theorem dl_X0_remember : ∀ q ∈ il_X0_remember, decode (mt_X0_remember).1 q.1 = .ok q.2 := by decide +kernel
def tb_X0_remember : Tb := [(0, x_al 1 0, false),
  (1, x_gI 0 2 4, false),
  (4, x_c 6 (.int 14), false),
  (6, x_icn 32 9 (fun x y : Int32 => x = y), false),
  (9, x_al 10 0, false),
  (10, x_al 11 0, false),
  (11, x_gI 0 1 14, false),
  (14, x_c 15 (.int 1), false),
  (15, x_ii 16 (fun x y : Int32 => x + y), false),
  (16, x_c 18 (.int 14), false),
  (18, x_iq 19 (fun x y : Int32 => x - x / y * y), false),
  (19, x_pI 0 1 22, false),
  (22, x_al 23 0, false),
  (23, x_dup 24, false),
  (24, x_gI 0 2 27, false),
  (27, x_c 28 (.int 1), false),
  (28, x_ii 29 (fun x y : Int32 => x - y), false),
  (29, x_pI 0 2 32, false),
  (32, x_al 33 0, true),
  (33, x_gR 0 0 36, false),
  (36, x_al 37 0, false),
  (37, x_gI 0 1 40, false),
  (40, x_al 41 0, false),
  (41, x_gI 0 2 44, false),
  (44, x_ii 45 (fun x y : Int32 => x + y), false),
  (45, x_c 47 (.int 14), false),
  (47, x_iq 48 (fun x y : Int32 => x - x / y * y), false),
  (48, x_aa 49, false),
  (49, x_al 50 1, false),
  (50, x_cV 5 1 P_X5_becomeLike 53, false),
  (53, x_al 54 0, false),
  (54, x_dup 55, false),
  (55, x_gI 0 2 58, false),
  (58, x_c 59 (.int 1), false),
  (59, x_ii 60 (fun x y : Int32 => x + y), false),
  (60, x_pI 0 2 63, false),
  (63, x_r0, false)]
set_option maxRecDepth 100000 in
theorem tk_X0_remember : TbOk (mt_X0_remember) (tb_X0_remember) :=
  tkc (s_aload_n (at_ dl_X0_remember 0 (ins := .aload_n 0) rfl)) (
  tkc (s_gI (at_ dl_X0_remember 1 (ins := .getfield 22) rfl) (by decide) (by decide) (by decide) (tg 228 (by decide +kernel) (by decide +kernel))) (
  tkc (s_bipush (at_ dl_X0_remember 2 (ins := .bipush 14) rfl) (by first | rfl | decide)) (
  tkc (s_ic_ne (at_ dl_X0_remember 3 (ins := .if_icmp .ne 26) rfl) (by decide)) (
  tkc (s_aload_n (at_ dl_X0_remember 4 (ins := .aload_n 0) rfl)) (
  tkc (s_aload_n (at_ dl_X0_remember 5 (ins := .aload_n 0) rfl)) (
  tkc (s_gI (at_ dl_X0_remember 6 (ins := .getfield 18) rfl) (by decide) (by decide) (by decide) (tg 227 (by decide +kernel) (by decide +kernel))) (
  tkc (s_iconst (at_ dl_X0_remember 7 (ins := .iconst 1) rfl) (by first | rfl | decide)) (
  tkc (s_iadd (at_ dl_X0_remember 8 (ins := .iadd) rfl)) (
  tkc (s_bipush (at_ dl_X0_remember 9 (ins := .bipush 14) rfl) (by first | rfl | decide)) (
  tkc (s_irem (at_ dl_X0_remember 10 (ins := .irem) rfl)) (
  tkc (s_pI (at_ dl_X0_remember 11 (ins := .putfield 18) rfl) (by decide) (by decide) (by decide) (by decide) (tg 227 (by decide +kernel) (by decide +kernel))) (
  tkc (s_aload_n (at_ dl_X0_remember 12 (ins := .aload_n 0) rfl)) (
  tkc (s_dup (at_ dl_X0_remember 13 (ins := .dup) rfl)) (
  tkc (s_gI (at_ dl_X0_remember 14 (ins := .getfield 22) rfl) (by decide) (by decide) (by decide) (tg 228 (by decide +kernel) (by decide +kernel))) (
  tkc (s_iconst (at_ dl_X0_remember 15 (ins := .iconst 1) rfl) (by first | rfl | decide)) (
  tkc (s_isub (at_ dl_X0_remember 16 (ins := .isub) rfl)) (
  tkc (s_pI (at_ dl_X0_remember 17 (ins := .putfield 22) rfl) (by decide) (by decide) (by decide) (by decide) (tg 228 (by decide +kernel) (by decide +kernel))) (
  tkc (s_aload_n (at_ dl_X0_remember 18 (ins := .aload_n 0) rfl)) (
  tkc (s_gR (at_ dl_X0_remember 19 (ins := .getfield 11) rfl) (by decide) (by decide) (by decide) (tg 226 (by decide +kernel) (by decide +kernel))) (
  tkc (s_aload_n (at_ dl_X0_remember 20 (ins := .aload_n 0) rfl)) (
  tkc (s_gI (at_ dl_X0_remember 21 (ins := .getfield 18) rfl) (by decide) (by decide) (by decide) (tg 227 (by decide +kernel) (by decide +kernel))) (
  tkc (s_aload_n (at_ dl_X0_remember 22 (ins := .aload_n 0) rfl)) (
  tkc (s_gI (at_ dl_X0_remember 23 (ins := .getfield 22) rfl) (by decide) (by decide) (by decide) (tg 228 (by decide +kernel) (by decide +kernel))) (
  tkc (s_iadd (at_ dl_X0_remember 24 (ins := .iadd) rfl)) (
  tkc (s_bipush (at_ dl_X0_remember 25 (ins := .bipush 14) rfl) (by first | rfl | decide)) (
  tkc (s_irem (at_ dl_X0_remember 26 (ins := .irem) rfl)) (
  tkc (s_aa (at_ dl_X0_remember 27 (ins := .aaload) rfl)) (
  tkc (s_aload_n (at_ dl_X0_remember 28 (ins := .aload_n 1) rfl)) (
  tkc (s_cV ok_X5_becomeLike (at_ dl_X0_remember 29 (ins := .invokevirtual 25) rfl) (by decide) rfl (tg 500 (by decide +kernel) (by decide +kernel)) (tg 444 (by decide +kernel) (by decide +kernel)) (tg 445 (by decide +kernel) (by decide +kernel)) (tg 45 (by decide +kernel) (by decide +kernel)) (tg 446 (by decide +kernel) (by decide +kernel)) (⟨by decide, by decide, by decide +kernel⟩) (⟨by decide, by decide⟩) rfl rfl) (
  tkc (s_aload_n (at_ dl_X0_remember 30 (ins := .aload_n 0) rfl)) (
  tkc (s_dup (at_ dl_X0_remember 31 (ins := .dup) rfl)) (
  tkc (s_gI (at_ dl_X0_remember 32 (ins := .getfield 22) rfl) (by decide) (by decide) (by decide) (tg 228 (by decide +kernel) (by decide +kernel))) (
  tkc (s_iconst (at_ dl_X0_remember 33 (ins := .iconst 1) rfl) (by first | rfl | decide)) (
  tkc (s_iadd (at_ dl_X0_remember 34 (ins := .iadd) rfl)) (
  tkc (s_pI (at_ dl_X0_remember 35 (ins := .putfield 22) rfl) (by decide) (by decide) (by decide) (by decide) (tg 228 (by decide +kernel) (by decide +kernel))) (
  tkc (s_r0 (at_ dl_X0_remember 36 (ins := .return_) rfl) rfl) ( tk0)))))))))))))))))))))))))))))))))))))
theorem lf_X0_remember : lk (tb_X0_remember) 0 = (x_al 1 0, false) ∧ lk (tb_X0_remember) 1 = (x_gI 0 2 4, false) ∧ lk (tb_X0_remember) 4 = (x_c 6 (.int 14), false) ∧ lk (tb_X0_remember) 6 = (x_icn 32 9 (fun x y : Int32 => x = y), false) ∧ lk (tb_X0_remember) 9 = (x_al 10 0, false) ∧ lk (tb_X0_remember) 10 = (x_al 11 0, false) ∧ lk (tb_X0_remember) 11 = (x_gI 0 1 14, false) ∧ lk (tb_X0_remember) 14 = (x_c 15 (.int 1), false) ∧ lk (tb_X0_remember) 15 = (x_ii 16 (fun x y : Int32 => x + y), false) ∧ lk (tb_X0_remember) 16 = (x_c 18 (.int 14), false) ∧ lk (tb_X0_remember) 18 = (x_iq 19 (fun x y : Int32 => x - x / y * y), false) ∧ lk (tb_X0_remember) 19 = (x_pI 0 1 22, false) ∧ lk (tb_X0_remember) 22 = (x_al 23 0, false) ∧ lk (tb_X0_remember) 23 = (x_dup 24, false) ∧ lk (tb_X0_remember) 24 = (x_gI 0 2 27, false) ∧ lk (tb_X0_remember) 27 = (x_c 28 (.int 1), false) ∧ lk (tb_X0_remember) 28 = (x_ii 29 (fun x y : Int32 => x - y), false) ∧ lk (tb_X0_remember) 29 = (x_pI 0 2 32, false) ∧ lk (tb_X0_remember) 32 = (x_al 33 0, true) ∧ lk (tb_X0_remember) 33 = (x_gR 0 0 36, false) ∧ lk (tb_X0_remember) 36 = (x_al 37 0, false) ∧ lk (tb_X0_remember) 37 = (x_gI 0 1 40, false) ∧ lk (tb_X0_remember) 40 = (x_al 41 0, false) ∧ lk (tb_X0_remember) 41 = (x_gI 0 2 44, false) ∧ lk (tb_X0_remember) 44 = (x_ii 45 (fun x y : Int32 => x + y), false) ∧ lk (tb_X0_remember) 45 = (x_c 47 (.int 14), false) ∧ lk (tb_X0_remember) 47 = (x_iq 48 (fun x y : Int32 => x - x / y * y), false) ∧ lk (tb_X0_remember) 48 = (x_aa 49, false) ∧ lk (tb_X0_remember) 49 = (x_al 50 1, false) ∧ lk (tb_X0_remember) 50 = (x_cV 5 1 P_X5_becomeLike 53, false) ∧ lk (tb_X0_remember) 53 = (x_al 54 0, false) ∧ lk (tb_X0_remember) 54 = (x_dup 55, false) ∧ lk (tb_X0_remember) 55 = (x_gI 0 2 58, false) ∧ lk (tb_X0_remember) 58 = (x_c 59 (.int 1), false) ∧ lk (tb_X0_remember) 59 = (x_ii 60 (fun x y : Int32 => x + y), false) ∧ lk (tb_X0_remember) 60 = (x_pI 0 2 63, false) ∧ lk (tb_X0_remember) 63 = (x_r0, false) := ⟨rfl, rfl, rfl, rfl, rfl, rfl, rfl, rfl, rfl, rfl, rfl, rfl, rfl, rfl, rfl, rfl, rfl, rfl, rfl, rfl, rfl, rfl, rfl, rfl, rfl, rfl, rfl, rfl, rfl, rfl, rfl, rfl, rfl, rfl, rfl, rfl, rfl⟩
def P_X0_remember : PTT := fun as M R => match as with
  | [.ref a, .ref k] => a = 21 ∧ k = 5 ∧ IsAc M.1 ∧ IsSt M.1 5 ∧ ∃ f c, AcV M.2.1 f c ∧ ∀ I' f' c', (c < 14 → f' = f ∧ c' = c + 1) → (c = 14 → f' = (f + 1) % 14 ∧ c' = 14) → AcV I' f' c' → StCp I' (23 + 5 * ((f' + c' - 1) % 14)) M.2.1 5 → (∀ q, q ≠ 21 → (q < 23 + 5 * ((f' + c' - 1) % 14) ∨ 23 + 5 * ((f' + c' - 1) % 14) + 5 ≤ q) → I' q = M.2.1 q) → R none (M.1, I', M.2.2)
  | _ => False
set_option maxRecDepth 20000 in
theorem ok_X0_remember : Ok yX0_remember mt_X0_remember P_X0_remember := by
  refine Ok.of (by decide) rfl rfl rfl rfl fun av ⟨S, I, L⟩ R hP => ?_
  unfold P_X0_remember at hP
  split at hP
  case h_2 => exact hP.elim
  rename_i a k
  obtain ⟨a, rfl⟩ : ∃ q : Nat, q = a := ⟨a, rfl⟩
  obtain ⟨k, rfl⟩ : ∃ q : Nat, q = k := ⟨k, rfl⟩
  refine ⟨by simp [ent, wide, mt_X0_remember], ?_⟩
  show J mt_X0_remember R 0 [some (.ref a), some (.ref k)] [] (S, I, L)
  try dsimp only at hP
  obtain ⟨rfl, rfl, ha, h5, f, c, ⟨hf14, hc14, hf, hc⟩, hR⟩ := hP
  have key : ∀ (I1 : MI) (f' c0 : Nat), f' < 14 → c0 < 14 → (c < 14 → f' = f ∧ c0 = c) → (c = 14 → f' = (f + 1) % 14 ∧ c0 = 13) → I1 21 1 = nI f' → I1 21 2 = nI c0 → (∀ q, q ≠ 21 → I1 q = I q) → J mt_X0_remember R 32 [some (.ref 21), some (.ref 5)] [] (S, I1, L) := by
    intro I1 f' c0 hf' hc0 h1 h2 e1 e2 hfr
    obtain ⟨hsr, hst⟩ := ha.2.2.2.2 ((f' + c0) % 14) (Nat.mod_lt _ (by omega))
    have hap : apart5 (23 + 5 * ((f' + c0) % 14)) 5 := Or.inr (by omega)
    have h21 : cpI I1 (23 + 5 * ((f' + c0) % 14)) 5 21 = I1 21 := cpI_fr (Or.inl (by omega))
    have hml : (f' + c0) % 14 < 14 := Nat.mod_lt _ (by omega)
    refine J.of tk_X0_remember 200 fun ρ hρ => ?_
    simp only [hρ, x_c, x_il, x_ll, x_al, x_is, x_as, x_ls, x_inc, x_ii, x_iq, x_i1, x_l2, x_lq, x_lh, x_i2l, x_l2i, x_lcmp, x_dup, x_dup2, x_pop, x_if, x_ifn, x_ic, x_icn, x_go, x_sw, swc, x_l01, x_mx, x_gI, x_gL, x_gR, x_pI, x_pZ, x_pL, x_pR, x_ia, x_za, x_aa, x_ias, x_zas, x_aas, x_fac, x_fa, x_slen, x_sa, x_ac, x_oi, x_new, x_na, x_cS, x_cV, x_cI, x_rI, x_rZ, x_rL, x_r0, pa, short, oc, lg, lset, lset2, wide, cond_true, cond_false, true_and, and_true, ↓reduceIte, Bool.false_eq_true, true_or, or_true, lf_X0_remember, ha.f, h5, hst, hap, e1, e2, nI_add, nI14, f14, rem14 (show f' + c0 < 1000 by omega), ncl (show (f' + c0) % 14 < 2 ^ 31 by omega), hsr, hst.f, P_X5_becomeLike, h21, nI_1, not_false_eq_true]
    refine ⟨vp_in_nI (by omega) (by omega), hR _ f' (c0 + 1) (fun h => ⟨(h1 h).1, by rw [(h1 h).2]⟩) (fun h => ⟨(h2 h).1, by rw [(h2 h).2]⟩) ⟨hf', by omega, by simpa [mS_s, upd_app] using e1, by simp [mS_s, upd_app]⟩ ?_ ?_⟩
    · rw [show f' + (c0 + 1) - 1 = f' + c0 by omega]
      refine StCp.fr (B := cpI I1 (23 + 5 * ((f' + c0) % 14)) 5) (StCp.fr' (cpI_cp I1 _ 5) (fun q h1 h2 => (hfr q (by omega)).symm)) (fun q h1 h2 => mS_n (by omega))
    · intro q hq h3
      rw [show f' + (c0 + 1) - 1 = f' + c0 by omega] at h3
      rw [mS_n hq, cpI_fr (by omega)]
      exact hfr q hq
  refine J.of tk_X0_remember 200 fun ρ hρ => ?_
  simp only [hρ, x_c, x_il, x_ll, x_al, x_is, x_as, x_ls, x_inc, x_ii, x_iq, x_i1, x_l2, x_lq, x_lh, x_i2l, x_l2i, x_lcmp, x_dup, x_dup2, x_pop, x_if, x_ifn, x_ic, x_icn, x_go, x_sw, swc, x_l01, x_mx, x_gI, x_gL, x_gR, x_pI, x_pZ, x_pL, x_pR, x_ia, x_za, x_aa, x_ias, x_zas, x_aas, x_fac, x_fa, x_slen, x_sa, x_ac, x_oi, x_new, x_na, x_cS, x_cV, x_cI, x_rI, x_rZ, x_rL, x_r0, pa, short, oc, lg, lset, lset2, wide, cond_true, cond_false, true_and, and_true, ↓reduceIte, Bool.false_eq_true, true_or, or_true, lf_X0_remember, ha.f, hf, hc, nI14, f14, nI_eq (show c < 2 ^ 31 by omega) (show 14 < 2 ^ 31 by omega), rem14 (show f + 1 < 1000 by omega), nI_1, mS_app, upd_app, Nat.reduceEqDiff, mS_ss, not_false_eq_true]
  refine ⟨fun h => key I f c hf14 (by omega) (fun _ => ⟨rfl, rfl⟩) (fun q => absurd q h) hf hc (fun _ _ => rfl), fun h => ?_⟩
  subst h
  refine key _ ((f + 1) % 14) 13 (Nat.mod_lt _ (by omega)) (by omega) (fun q => absurd q (by omega)) (fun _ => ⟨rfl, rfl⟩) (by simp [mS_s, upd_app]) (by simp [mS_s, upd_app]; exact nI_pred 13) (fun q hq => mS_n hq)
def il_X0_giveBackLast : List (Nat × Instr × Nat) := [(0, .aload_n 0, 1), (1, .getfield 22, 3), (4, .ifCond .le 34, 3), (7, .aload_n 0, 1), (8, .dup, 1), (9, .getfield 22, 3), (12, .iconst 1, 1), (13, .isub, 1), (14, .putfield 22, 3), (17, .aload_n 1, 1), (18, .aload_n 0, 1), (19, .getfield 11, 3), (22, .aload_n 0, 1), (23, .getfield 18, 3), (26, .aload_n 0, 1), (27, .getfield 22, 3), (30, .iadd, 1), (31, .bipush 14, 2), (33, .irem, 1), (34, .aaload, 1), (35, .invokevirtual 25, 3), (38, .return_, 1)]
def mt_X0_giveBackLast : Mt := (cX0_giveBackLast, RX0, 2, none, ({ frames := 2, cells := 0, slots := 0, locals := 39 } : Room), false, none, none)
set_option maxRecDepth 100000 in
theorem dl_X0_giveBackLast : ∀ q ∈ il_X0_giveBackLast, decode (mt_X0_giveBackLast).1 q.1 = .ok q.2 := by decide +kernel
def tb_X0_giveBackLast : Tb := [(0, x_al 1 0, false),
  (1, x_gI 0 2 4, false),
  (4, x_if 38 7 (fun x : Int32 => x ≤ 0), false),
  (7, x_al 8 0, false),
  (8, x_dup 9, false),
  (9, x_gI 0 2 12, false),
  (12, x_c 13 (.int 1), false),
  (13, x_ii 14 (fun x y : Int32 => x - y), false),
  (14, x_pI 0 2 17, false),
  (17, x_al 18 1, false),
  (18, x_al 19 0, false),
  (19, x_gR 0 0 22, false),
  (22, x_al 23 0, false),
  (23, x_gI 0 1 26, false),
  (26, x_al 27 0, false),
  (27, x_gI 0 2 30, false),
  (30, x_ii 31 (fun x y : Int32 => x + y), false),
  (31, x_c 33 (.int 14), false),
  (33, x_iq 34 (fun x y : Int32 => x - x / y * y), false),
  (34, x_aa 35, false),
  (35, x_cV 5 1 P_X5_becomeLike 38, false),
  (38, x_r0, false)]
set_option maxRecDepth 100000 in
theorem tk_X0_giveBackLast : TbOk (mt_X0_giveBackLast) (tb_X0_giveBackLast) :=
  tkc (s_aload_n (at_ dl_X0_giveBackLast 0 (ins := .aload_n 0) rfl)) (
  tkc (s_gI (at_ dl_X0_giveBackLast 1 (ins := .getfield 22) rfl) (by decide) (by decide) (by decide) (tg 228 (by decide +kernel) (by decide +kernel))) (
  tkc (s_if_le (at_ dl_X0_giveBackLast 2 (ins := .ifCond .le 34) rfl) (by decide)) (
  tkc (s_aload_n (at_ dl_X0_giveBackLast 3 (ins := .aload_n 0) rfl)) (
  tkc (s_dup (at_ dl_X0_giveBackLast 4 (ins := .dup) rfl)) (
  tkc (s_gI (at_ dl_X0_giveBackLast 5 (ins := .getfield 22) rfl) (by decide) (by decide) (by decide) (tg 228 (by decide +kernel) (by decide +kernel))) (
  tkc (s_iconst (at_ dl_X0_giveBackLast 6 (ins := .iconst 1) rfl) (by first | rfl | decide)) (
  tkc (s_isub (at_ dl_X0_giveBackLast 7 (ins := .isub) rfl)) (
  tkc (s_pI (at_ dl_X0_giveBackLast 8 (ins := .putfield 22) rfl) (by decide) (by decide) (by decide) (by decide) (tg 228 (by decide +kernel) (by decide +kernel))) (
  tkc (s_aload_n (at_ dl_X0_giveBackLast 9 (ins := .aload_n 1) rfl)) (
  tkc (s_aload_n (at_ dl_X0_giveBackLast 10 (ins := .aload_n 0) rfl)) (
  tkc (s_gR (at_ dl_X0_giveBackLast 11 (ins := .getfield 11) rfl) (by decide) (by decide) (by decide) (tg 226 (by decide +kernel) (by decide +kernel))) (
  tkc (s_aload_n (at_ dl_X0_giveBackLast 12 (ins := .aload_n 0) rfl)) (
  tkc (s_gI (at_ dl_X0_giveBackLast 13 (ins := .getfield 18) rfl) (by decide) (by decide) (by decide) (tg 227 (by decide +kernel) (by decide +kernel))) (
  tkc (s_aload_n (at_ dl_X0_giveBackLast 14 (ins := .aload_n 0) rfl)) (
  tkc (s_gI (at_ dl_X0_giveBackLast 15 (ins := .getfield 22) rfl) (by decide) (by decide) (by decide) (tg 228 (by decide +kernel) (by decide +kernel))) (
  tkc (s_iadd (at_ dl_X0_giveBackLast 16 (ins := .iadd) rfl)) (
  tkc (s_bipush (at_ dl_X0_giveBackLast 17 (ins := .bipush 14) rfl) (by first | rfl | decide)) (
  tkc (s_irem (at_ dl_X0_giveBackLast 18 (ins := .irem) rfl)) (
  tkc (s_aa (at_ dl_X0_giveBackLast 19 (ins := .aaload) rfl)) (
  tkc (s_cV ok_X5_becomeLike (at_ dl_X0_giveBackLast 20 (ins := .invokevirtual 25) rfl) (by decide) rfl (tg 500 (by decide +kernel) (by decide +kernel)) (tg 444 (by decide +kernel) (by decide +kernel)) (tg 445 (by decide +kernel) (by decide +kernel)) (tg 45 (by decide +kernel) (by decide +kernel)) (tg 446 (by decide +kernel) (by decide +kernel)) (⟨by decide, by decide, by decide +kernel⟩) (⟨by decide, by decide⟩) rfl rfl) (
  tkc (s_r0 (at_ dl_X0_giveBackLast 21 (ins := .return_) rfl) rfl) ( tk0))))))))))))))))))))))
theorem lf_X0_giveBackLast : lk (tb_X0_giveBackLast) 0 = (x_al 1 0, false) ∧ lk (tb_X0_giveBackLast) 1 = (x_gI 0 2 4, false) ∧ lk (tb_X0_giveBackLast) 4 = (x_if 38 7 (fun x : Int32 => x ≤ 0), false) ∧ lk (tb_X0_giveBackLast) 7 = (x_al 8 0, false) ∧ lk (tb_X0_giveBackLast) 8 = (x_dup 9, false) ∧ lk (tb_X0_giveBackLast) 9 = (x_gI 0 2 12, false) ∧ lk (tb_X0_giveBackLast) 12 = (x_c 13 (.int 1), false) ∧ lk (tb_X0_giveBackLast) 13 = (x_ii 14 (fun x y : Int32 => x - y), false) ∧ lk (tb_X0_giveBackLast) 14 = (x_pI 0 2 17, false) ∧ lk (tb_X0_giveBackLast) 17 = (x_al 18 1, false) ∧ lk (tb_X0_giveBackLast) 18 = (x_al 19 0, false) ∧ lk (tb_X0_giveBackLast) 19 = (x_gR 0 0 22, false) ∧ lk (tb_X0_giveBackLast) 22 = (x_al 23 0, false) ∧ lk (tb_X0_giveBackLast) 23 = (x_gI 0 1 26, false) ∧ lk (tb_X0_giveBackLast) 26 = (x_al 27 0, false) ∧ lk (tb_X0_giveBackLast) 27 = (x_gI 0 2 30, false) ∧ lk (tb_X0_giveBackLast) 30 = (x_ii 31 (fun x y : Int32 => x + y), false) ∧ lk (tb_X0_giveBackLast) 31 = (x_c 33 (.int 14), false) ∧ lk (tb_X0_giveBackLast) 33 = (x_iq 34 (fun x y : Int32 => x - x / y * y), false) ∧ lk (tb_X0_giveBackLast) 34 = (x_aa 35, false) ∧ lk (tb_X0_giveBackLast) 35 = (x_cV 5 1 P_X5_becomeLike 38, false) ∧ lk (tb_X0_giveBackLast) 38 = (x_r0, false) := ⟨rfl, rfl, rfl, rfl, rfl, rfl, rfl, rfl, rfl, rfl, rfl, rfl, rfl, rfl, rfl, rfl, rfl, rfl, rfl, rfl, rfl, rfl⟩
def P_X0_giveBackLast : PTT := fun as M R => match as with
  | [.ref a, .ref k] => a = 21 ∧ k = 5 ∧ IsAc M.1 ∧ IsSt M.1 5 ∧ ∃ f c, AcV M.2.1 f (c + 1) ∧ ∀ I', AcV I' f c → StCp I' 5 M.2.1 (23 + 5 * ((f + c) % 14)) → (∀ q, q ≠ 21 → (q < 5 ∨ 10 ≤ q) → I' q = M.2.1 q) → R none (M.1, I', M.2.2)
  | _ => False
set_option maxRecDepth 20000 in
theorem ok_X0_giveBackLast : Ok yX0_giveBackLast mt_X0_giveBackLast P_X0_giveBackLast := by
  refine Ok.of (by decide) rfl rfl rfl rfl fun av ⟨S, I, L⟩ R hP => ?_
  unfold P_X0_giveBackLast at hP
  split at hP
  case h_2 => exact hP.elim
  rename_i a k
  obtain ⟨a, rfl⟩ : ∃ q : Nat, q = a := ⟨a, rfl⟩
  obtain ⟨k, rfl⟩ : ∃ q : Nat, q = k := ⟨k, rfl⟩
  refine ⟨by simp [ent, wide, mt_X0_giveBackLast], ?_⟩
  show J mt_X0_giveBackLast R 0 [some (.ref a), some (.ref k)] [] (S, I, L)
  try dsimp only at hP
  obtain ⟨rfl, rfl, ha, h5, f, c, ⟨hf14, hc14, hf, hc⟩, hR⟩ := hP
  obtain ⟨hsr, hst⟩ := ha.2.2.2.2 ((f + c) % 14) (Nat.mod_lt _ (by omega))
  have hap : apart5 5 (23 + 5 * ((f + c) % 14)) := Or.inl (by omega)
  have hml : (f + c) % 14 < 14 := Nat.mod_lt _ (by omega)
  have hpos : nI (c + 1) ≤ 0 ↔ False := ⟨fun h => nI_nle (by omega) (by omega) h, False.elim⟩
  refine J.of tk_X0_giveBackLast 200 fun ρ hρ => ?_
  simp only [hρ, x_c, x_il, x_ll, x_al, x_is, x_as, x_ls, x_inc, x_ii, x_iq, x_i1, x_l2, x_lq, x_lh, x_i2l, x_l2i, x_lcmp, x_dup, x_dup2, x_pop, x_if, x_ifn, x_ic, x_icn, x_go, x_sw, swc, x_l01, x_mx, x_gI, x_gL, x_gR, x_pI, x_pZ, x_pL, x_pR, x_ia, x_za, x_aa, x_ias, x_zas, x_aas, x_fac, x_fa, x_slen, x_sa, x_ac, x_oi, x_new, x_na, x_cS, x_cV, x_cI, x_rI, x_rZ, x_rL, x_r0, pa, short, oc, lg, lset, lset2, wide, cond_true, cond_false, true_and, and_true, ↓reduceIte, Bool.false_eq_true, true_or, or_true, lf_X0_giveBackLast, ha.f, h5, h5.f, hst, hap, hf, hc, hpos, nI_pred, nI_add, nI14, f14, rem14 (show f + c < 1000 by omega), ncl (show (f + c) % 14 < 2 ^ 31 by omega), hsr, hst.f, P_X5_becomeLike, mS_app, upd_app, Nat.reduceEqDiff, not_false_eq_true, false_implies, true_implies]
  refine ⟨vp_in_nI (by omega) (by omega), hR _ ⟨hf14, by omega, ?_, ?_⟩ ?_ ?_⟩
  · rw [cpI_fr (by omega), mS_s]; simpa [upd_app] using hf
  · rw [cpI_fr (by omega), mS_s]; simp [upd_app]
  · exact StCp.fr' (cpI_cp _ 5 _) (fun q h1 h2 => (mS_n (by omega)).symm)
  · intro q hq h3
    rw [cpI_fr (by omega), mS_n hq]
end
section
/-! THE ABSTRACT STATE: bits, checks, offset, rounds, sets, levels, totals and messages; what is in range counts alone -/
def DSeq (d e : DS) : Prop := (∀ b, b < 9 → d.1 b = e.1 b) ∧ (∀ j, j < 54 → d.2 j = e.2 j)
theorem DSeq.symm {d e : DS} (h : DSeq d e) : DSeq e d := ⟨fun b hb => (h.1 b hb).symm, fun j hj => (h.2 j hj).symm⟩
theorem DSeq.trans {d e f : DS} (h : DSeq d e) (h' : DSeq e f) : DSeq d f := ⟨fun b hb => (h.1 b hb).trans (h'.1 b hb), fun j hj => (h.2 j hj).trans (h'.2 j hj)⟩
theorem DSeq.ok {d e : DS} (h : DSeq d e) (ho : DSok e) : DSok d := ⟨fun b hb => by rw [h.1 b hb]; exact ho.1 b hb, fun j hj => by rw [h.2 j hj]; exact ho.2 j hj⟩
theorem lsO_congr {Q Q' : Nat → Int32} {s b : Nat} : ∀ {n : Nat}, (∀ i, i < n → Q i = Q' i) → lsO Q s b n = lsO Q' s b n
  | 0, _ => rfl
  | n + 1, h => by rw [lsO, lsO, lsO_congr (fun i hi => h i (by omega)), h n (by omega)]
theorem sgO_congr {Q Q' : Nat → Int32} {s b : Nat} : ∀ {n : Nat}, (∀ i, i < n → Q i = Q' i) → sgO Q s b n = sgO Q' s b n
  | 0, _ => rfl
  | n + 1, h => by rw [sgO, sgO, sgO_congr (fun i hi => h i (by omega)), h n (by omega)]
theorem nmS_congr {Q Q' : Nat → Int32} {s b n : Nat} {off : Int32} (h : ∀ i, i < n → Q i = Q' i) : nmS Q s b n off = nmS Q' s b n off := by
  unfold nmS; rw [lsO_congr h, sgO_congr h]
theorem QD_congr {d e : DS} {c n : Nat} (hn : n ≤ 9) (hc : c < 6) (h : DSeq d e) : ∀ i, i < n → QD d c i = QD e c i := by
  intro i hi
  simp only [QD]
  rw [h.1 i (by omega), h.2 (9 * c + i) (by omega)]
theorem stpD_congr {n s c : Nat} {off : Int32} {d e : DS} (hn : n ≤ 9) (hc : c < 6) (h : DSeq d e) : DSeq (stpD n off s c d) (stpD n off s c e) := by
  have hq := QD_congr hn hc h
  refine ⟨fun b hb => ?_, fun j hj => ?_⟩
  · simp only [stpD]
    by_cases h1 : b < n ∧ s.testBit b = true
    · rw [if_pos h1, if_pos h1, hq b h1.1, nmS_congr hq]
    · rw [if_neg h1, if_neg h1, h.1 b hb]
  · simp only [stpD]
    by_cases h1 : 9 * c ≤ j ∧ j < 9 * c + n ∧ s.testBit (j - 9 * c) = true
    · rw [if_pos h1, if_pos h1, nmS_congr hq]
    · rw [if_neg h1, if_neg h1, h.2 j hj]
theorem rndD_congr {n m : Nat} {off : Int32} {ov ov' ord ord' : Nat → Nat} {d e : DS} (hn : n ≤ 9) (hm : m ≤ 6) (ho : ∀ i, i < m → ord i < m ∧ ord i = ord' i) (hv : ∀ c, c < m → ov c = ov' c) (h : DSeq d e) : ∀ i, i ≤ m → DSeq (rndD n off ov ord i d) (rndD n off ov' ord' i e)
  | 0, _ => h
  | i + 1, hi => by
    obtain ⟨o1, o2⟩ := ho i (by omega)
    have := rndD_congr (off := off) hn hm ho hv h i (by omega)
    simp only [rndD]
    rw [← o2, ← hv (ord i) o1]
    exact stpD_congr hn (by omega) this
theorem itD_congr {n m : Nat} {off : Int32} {ov ov' ord ord' : Nat → Nat} {d e : DS} (hn : n ≤ 9) (hm : m ≤ 6) (ho : ∀ i, i < m → ord i < m ∧ ord i = ord' i) (hv : ∀ c, c < m → ov c = ov' c) (h : DSeq d e) : ∀ r, DSeq (itD n m off ov ord r d) (itD n m off ov' ord' r e)
  | 0 => h
  | r + 1 => rndD_congr hn hm ho hv (itD_congr hn hm ho hv h r) m (Nat.le_refl m)
theorem wdF_congr {t t' : Nat → Int32} {n : Nat} (h : ∀ b, b < n → t b = t' b) : wdF t n = wdF t' n := bs_congr (fun i hi => by rw [h i hi])
theorem opB_congr {ov ov' : Nat → Nat} {m w : Nat} (h : ∀ c, c < m → ov c = ov' c) : opB ov m w = opB ov' m w := bs_congr (fun i hi => by rw [h i hi])
theorem opD_congr {n m : Nat} {ov ov' : Nat → Nat} {d e : DS} (hn : n ≤ 9) (hv : ∀ c, c < m → ov c = ov' c) (h : DSeq d e) : opD n m ov d = opD n m ov' e := by
  unfold opD
  rw [opB_congr hv, wdF_congr (fun b hb => h.1 b (by omega))]
theorem solS_congr {n m : Nat} {off : Int32} {ov ov' ord ord' : Nat → Nat} {d e : DS} (hn : n ≤ 9) (hm : m ≤ 6) (ho : ∀ i, i < m → ord i < m ∧ ord i = ord' i) (hv : ∀ c, c < m → ov c = ov' c) (h : DSeq d e) (r : Nat) : solS n m off ov ord d r = solS n m off ov' ord' e r := by
  unfold solS
  rw [opD_congr hn hv (itD_congr hn hm ho hv h r)]
/-- bits, checks, offset, rounds, sets, levels, totals and messages -/
abbrev AS : Type := Nat × Nat × Int32 × Int32 × (Nat → Nat) × (Nat → Int32) × DS
abbrev aN (a : AS) : Nat := a.1
abbrev aM (a : AS) : Nat := a.2.1
abbrev aO (a : AS) : Int32 := a.2.2.1
abbrev aR (a : AS) : Int32 := a.2.2.2.1
abbrev aV (a : AS) : Nat → Nat := a.2.2.2.2.1
abbrev aL (a : AS) : Nat → Int32 := a.2.2.2.2.2.1
abbrev aD (a : AS) : DS := a.2.2.2.2.2.2
def AOk (a : AS) : Prop := (2 ≤ aN a ∧ aN a ≤ 9 ∧ aM a ≤ 6) ∧ (∀ c, c < aM a → aV a c < 2 ^ aN a) ∧ (∃ o, o ≤ 9 ∧ aO a = nI o) ∧ (∀ b, b < 9 → inR 31 (aL a b)) ∧ DSok (aD a)
/-- the state at k is a -/
def SR (I : MI) (k : Nat) (a : AS) : Prop := I k 4 = nI (aN a) ∧ I k 5 = nI (aM a) ∧ I k 6 = aO a ∧ I k 7 = aR a ∧ (∀ c, c < aM a → I (k + 1) c = nI (aV a c)) ∧ (∀ b, b < 9 → I (k + 2) b = aL a b) ∧ DSeq (I (k + 3), I (k + 4)) (aD a)
theorem AOk.v {a : AS} (h : AOk a) {c : Nat} (hc : c < aM a) : aV a c < 512 := Nat.lt_of_lt_of_le (h.2.1 c hc) (pow9 h.1.2.1)
theorem SR.SV {I : MI} {k : Nat} {a : AS} (h : SR I k a) (ho : AOk a) : SV I k (aN a) (aM a) := by
  obtain ⟨h1, h2, h3, h4, h5, h6, h7⟩ := h
  refine ⟨ho.1, ⟨h1, h2⟩, fun c hc => ?_, ?_, fun b hb => by rw [h6 b hb]; exact ho.2.2.2.1 b hb, (h7.ok ho.2.2.2.2).1, (h7.ok ho.2.2.2.2).2⟩
  · rw [h5 c hc, tn_nI (by have := ho.v hc; omega)]; exact ho.2.1 c hc
  · obtain ⟨o, h8, h9⟩ := ho.2.2.1
    exact ⟨o, h8, h3.trans h9⟩
theorem SR.ov {I : MI} {k : Nat} {a : AS} (h : SR I k a) (ho : AOk a) : ∀ c, c < aM a → ovS I k c = aV a c := fun c hc => by
  unfold ovS; rw [h.2.2.2.2.1 c hc]; exact tn_nI (by have := ho.v hc; omega)
theorem SR.cp {I' I : MI} {k o : Nat} {a : AS} (h : StCp I' k I o) (hr : SR I o a) (hm : aM a ≤ 6) : SR I' k a := by
  obtain ⟨⟨a1, a2, a3, a4⟩, a5, a6, a7, a8⟩ := h
  obtain ⟨h1, h2, h3, h4, h5, h6, h7⟩ := hr
  exact ⟨a1.trans h1, a2.trans h2, a3.trans h3, a4.trans h4, fun c hc => (a5 c (by omega)).trans (h5 c hc), fun b hb => (a6 b hb).trans (h6 b hb), fun b hb => (a7 b hb).trans (h7.1 b hb), fun j hj => (a8 j hj).trans (h7.2 j hj)⟩
theorem SR.fr {I' I : MI} {k : Nat} {a : AS} (h : SR I k a) (hf : ∀ q, k ≤ q → q < k + 5 → I' q = I q) : SR I' k a := by
  unfold SR at h ⊢
  rw [hf k (by omega) (by omega), hf (k + 1) (by omega) (by omega), hf (k + 2) (by omega) (by omega), hf (k + 3) (by omega) (by omega), hf (k + 4) (by omega) (by omega)]
  exact h
theorem SR.cpI {I : MI} {k o : Nat} {a : AS} (hr : SR I o a) (hm : aM a ≤ 6) : SR (cpI I k o) k a := SR.cp (cpI_cp I k o) hr hm
/-- begun -/
def d0A (a : AS) : DS := (aL a, fun _ => 0)
def begA (a : AS) : AS := (a.1, a.2.1, a.2.2.1, 0, a.2.2.2.2.1, a.2.2.2.2.2.1, d0A a)
theorem d0_eq {I : MI} {k : Nat} {a : AS} (h : SR I k a) : DSeq (d0S I k) (d0A a) := by
  refine ⟨fun b hb => ?_, fun j hj => ?_⟩
  · simp only [d0S, d0A]; rw [cpy_in hb]; exact h.2.2.2.2.2.1 b hb
  · simp only [d0S, d0A, zr]; rw [if_pos hj]
theorem d0A_ok {a : AS} (h : AOk a) : DSok (d0A a) := by
  refine ⟨fun b hb => ?_, fun j hj => ⟨show (-31 : Int) ≤ (0 : Int32).toInt by decide, show (0 : Int32).toInt ≤ (31 : Int) by decide⟩⟩
  have := h.2.2.2.1 b hb
  exact ⟨by have := this.1; simp only [d0A]; omega, by have := this.2; simp only [d0A]; omega⟩
theorem begA_ok {a : AS} (h : AOk a) : AOk (begA a) := ⟨h.1, h.2.1, h.2.2.1, h.2.2.2.1, d0A_ok h⟩
theorem SR.beg {I : MI} {k : Nat} {a : AS} (h : SR I k a) : SR (begI I k) k (begA a) := by
  have hd := d0_eq h
  obtain ⟨h1, h2, h3, h4, h5, h6, h7⟩ := h
  have e1 : begI I k (k + 1) = I (k + 1) := beg_r (by omega) (by omega) (by omega)
  have e2 : begI I k (k + 2) = I (k + 2) := beg_r (by omega) (by omega) (by omega)
  refine ⟨by rw [beg_k]; exact h1, by rw [beg_k]; exact h2, by rw [beg_k]; exact h3, by rw [beg_k]; rfl, by rw [e1]; exact h5, by rw [e2]; exact h6, ?_⟩
  rw [beg_3, beg_4]
  exact hd
/-- checks in their own order -/
def OrdId (I : MI) : Prop := ∀ i, i < 6 → I 16 i = nI i
theorem OrdId.V {I : MI} (h : OrdId I) {m : Nat} (hm : m ≤ 6) : OrdV I m := fun i hi => by rw [h i (by omega), tn_nI (by omega)]; exact hi
theorem OrdId.e {I : MI} (h : OrdId I) {m : Nat} (hm : m ≤ 6) : ∀ i, i < m → ordI I i < m ∧ ordI I i = id i := fun i hi => by
  unfold ordI; rw [h i (by omega), tn_nI (by omega)]; exact ⟨hi, rfl⟩
/-- behind r more rounds -/
def itA (r : Nat) (a : AS) : AS := (a.1, a.2.1, a.2.2.1, a.2.2.2.1 + nI r, a.2.2.2.2.1, a.2.2.2.2.2.1, itD (aN a) (aM a) (aO a) (aV a) id r (aD a))
theorem itA_ok {r : Nat} {a : AS} (h : AOk a) : AOk (itA r a) := ⟨h.1, h.2.1, h.2.2.1, h.2.2.2.1, itD_ok h.2.2.2.2 r⟩
theorem SR.it {I I' : MI} {k r : Nat} {a : AS} (h : SR I k a) (ho : AOk a) (hor : OrdId I) (h1 : I' (k + 1) = I (k + 1)) (h2 : I' (k + 2) = I (k + 2)) (hk : I' k = upd (I k) 7 (I k 7 + nI r)) (hd : (I' (k + 3), I' (k + 4)) = itD (aN a) (aM a) (I k 6) (ovS I k) (ordI I) r (I (k + 3), I (k + 4))) : SR I' k (itA r a) := by
  have hv := h.ov ho
  obtain ⟨g1, g2, g3, g4, g5, g6, g7⟩ := h
  refine ⟨by rw [hk]; exact g1, by rw [hk]; exact g2, by rw [hk]; exact g3, by rw [hk]; show I k 7 + nI r = aR a + nI r; rw [g4], by rw [h1]; exact g5, by rw [h2]; exact g6, ?_⟩
  rw [hd, g3]
  exact itD_congr ho.1.2.1 ho.1.2.2 (hor.e ho.1.2.2) hv g7 r
/-- needs, ends -/
def solA (a : AS) : Nat → Bool := solS (aN a) (aM a) (aO a) (aV a) id (d0A a)
def ndA (a : AS) : Int32 × Nat := need (solA a)
/-- behind as many rounds as are needed, begun anew -/
def endA (a : AS) : DS := itD (aN a) (aM a) (aO a) (aV a) id (ndA a).2 (d0A a)
theorem SR.need {I : MI} {k : Nat} {a : AS} (h : SR I k a) (ho : AOk a) (hor : OrdId I) : need (solS (aN a) (aM a) (I k 6) (ovS I k) (ordI I) (d0S I k)) = ndA a := by
  unfold ndA solA
  refine need_congr (fun r _ => ?_)
  rw [h.2.2.1]
  exact solS_congr ho.1.2.1 ho.1.2.2 (hor.e ho.1.2.2) (h.ov ho) (d0_eq h) r
theorem SR.ends {I : MI} {k : Nat} {a : AS} (h : SR I k a) (ho : AOk a) (hor : OrdId I) : DSeq (itD (aN a) (aM a) (I k 6) (ovS I k) (ordI I) (ndA a).2 (d0S I k)) (endA a) := by
  rw [h.2.2.1]
  exact itD_congr ho.1.2.1 ho.1.2.2 (hor.e ho.1.2.2) (h.ov ho) (d0_eq h) _
/-- the word, what is open -/
def wdA (a : AS) : Nat := wdF (aD a).1 (aN a)
def opA (a : AS) : Nat := opD (aN a) (aM a) (aV a) (aD a)
theorem SR.wd {I : MI} {k : Nat} {a : AS} (h : SR I k a) (ho : AOk a) : wdF (I (k + 3)) (tn (I k 4)) = wdA a := by
  rw [h.1, tn_nI (n := aN a) (by have := ho.1; omega)]
  exact wdF_congr (fun b hb => h.2.2.2.2.2.2.1 b (by have := ho.1; omega))
theorem SR.op {I : MI} {k : Nat} {a : AS} (h : SR I k a) (ho : AOk a) : opS I k = opA a := by
  unfold opS opA opD
  rw [h.wd ho, h.2.1, tn_nI (n := aM a) (by have := ho.1; omega)]
  exact opB_congr (h.ov ho)
/-- put -/
def putA (a : AS) (c b : Nat) : AS := (a.1, a.2.1, a.2.2.1, a.2.2.2.1, va_up a.2.2.2.2.1 c (a.2.2.2.2.1 c ^^^ 2 ^ b), a.2.2.2.2.2.1, (aD a).1, upd (aD a).2 (9 * c + b) 0)
theorem putA_ok {a : AS} {c b : Nat} (h : AOk a) (hc : c < aM a) (hb : b < aN a) : AOk (putA a c b) := by
  refine ⟨h.1, fun x hx => ?_, h.2.2.1, h.2.2.2.1, h.2.2.2.2.1, fun j hj => ?_⟩
  · show va_up (aV a) c (aV a c ^^^ 2 ^ b) x < 2 ^ aN a
    unfold va_up
    split
    · exact Nat.xor_lt_two_pow (h.2.1 c hc) (Nat.pow_lt_pow_right (by omega) hb)
    · exact h.2.1 x hx
  · show inR 31 (upd (aD a).2 (9 * c + b) 0 j)
    rw [upd_app]
    split
    · exact ⟨by decide, by decide⟩
    · exact h.2.2.2.2.2 j hj
theorem SR.put {I : MI} {k c b : Nat} {a : AS} (h : SR I k a) (ho : AOk a) (hc : c < aM a) (hb : b < aN a) : SR (putI I k (nI c) (nI b)) k (putA a c b) := by
  obtain ⟨g1, g2, g3, g4, g5, g6, g7⟩ := h
  have h9 := ho.1
  have e0 : putI I k (nI c) (nI b) k = I k := by unfold putI; rw [mS_n (by omega), mS_n (by omega)]
  have e1 : putI I k (nI c) (nI b) (k + 1) = upd (I (k + 1)) c (nI (aV a c ^^^ 2 ^ b)) := by
    unfold putI
    rw [mS_n (by omega), mS_s, ncl (by omega), g5 c hc, shl1 (by omega), nI_xor]
  have e2 : putI I k (nI c) (nI b) (k + 2) = I (k + 2) := by unfold putI; rw [mS_n (by omega), mS_n (by omega)]
  have e3 : putI I k (nI c) (nI b) (k + 3) = I (k + 3) := by unfold putI; rw [mS_n (by omega), mS_n (by omega)]
  have e4 : putI I k (nI c) (nI b) (k + 4) = upd (I (k + 4)) (9 * c + b) 0 := by
    unfold putI
    rw [mS_s, nI9, pk_mul, nI_add, ncl (by omega), Nat.mul_comm]
  refine ⟨by rw [e0]; exact g1, by rw [e0]; exact g2, by rw [e0]; exact g3, by rw [e0]; exact g4, fun x hx => ?_, by rw [e2]; exact g6, ?_⟩
  · rw [e1, upd_app]
    show _ = nI (va_up (aV a) c (aV a c ^^^ 2 ^ b) x)
    unfold va_up
    split
    · rfl
    · exact g5 x hx
  · rw [e3, e4]
    refine ⟨g7.1, fun j hj => ?_⟩
    show upd (I (k + 4)) (9 * c + b) 0 j = upd (aD a).2 (9 * c + b) 0 j
    rw [upd_app, upd_app]
    split
    · rfl
    · exact g7.2 j hj
end
section
/-! DOINGS, on the trial state at 10 -/
def il_X2_withoutLast : List (Nat × Instr × Nat) := [(0, .lload_n 0, 1), (1, .lstore_n 3, 1), (2, .iconst 0, 1), (3, .istore 5, 2), (5, .iload 5, 2), (7, .iload_n 2, 1), (8, .if_icmp .ge 15, 3), (11, .lload_n 3, 1), (12, .ldc2_w 9, 3), (15, .ldiv, 1), (16, .lstore_n 3, 1), (17, .iinc 5 1, 3), (20, .goto (-15), 3), (23, .lload_n 3, 1), (24, .lreturn, 1)]
def mt_X2_withoutLast : Mt := (cX2_withoutLast, RX2, 6, (some .long), ({ frames := 0, cells := 0, slots := 0, locals := 0 } : Room), false, none, none)
set_option maxRecDepth 100000 in
theorem dl_X2_withoutLast : ∀ q ∈ il_X2_withoutLast, decode (mt_X2_withoutLast).1 q.1 = .ok q.2 := by decide +kernel
def tb_X2_withoutLast : Tb := [(0, x_ll 1 0, false),
  (1, x_ls 2 3, false),
  (2, x_c 3 (.int 0), false),
  (3, x_is 5 5, false),
  (5, x_il 7 5, true),
  (7, x_il 8 2, false),
  (8, x_ic 23 11 (fun x y : Int32 => y ≤ x), false),
  (11, x_ll 12 3, false),
  (12, x_c 15 (.long 1000), false),
  (15, x_lq 16 (fun x y : Int64 => x / y), false),
  (16, x_ls 17 3, false),
  (17, x_inc 20 5 1, false),
  (20, x_go 5, false),
  (23, x_ll 24 3, false),
  (24, x_rL, false)]
set_option maxRecDepth 100000 in
theorem tk_X2_withoutLast : TbOk (mt_X2_withoutLast) (tb_X2_withoutLast) :=
  tkc (s_lload_n (at_ dl_X2_withoutLast 0 (ins := .lload_n 0) rfl)) (
  tkc (s_lstore_n (at_ dl_X2_withoutLast 1 (ins := .lstore_n 3) rfl) (by decide)) (
  tkc (s_iconst (at_ dl_X2_withoutLast 2 (ins := .iconst 0) rfl) (by first | rfl | decide)) (
  tkc (s_istore (at_ dl_X2_withoutLast 3 (ins := .istore 5) rfl) (by decide)) (
  tkc (s_iload (at_ dl_X2_withoutLast 4 (ins := .iload 5) rfl)) (
  tkc (s_iload_n (at_ dl_X2_withoutLast 5 (ins := .iload_n 2) rfl)) (
  tkc (s_ic_ge (at_ dl_X2_withoutLast 6 (ins := .if_icmp .ge 15) rfl) (by decide)) (
  tkc (s_lload_n (at_ dl_X2_withoutLast 7 (ins := .lload_n 3) rfl)) (
  tkc (s_ldc2 (at_ dl_X2_withoutLast 8 (ins := .ldc2_w 9) rfl) (tg 581 (by decide +kernel) (by decide +kernel))) (
  tkc (s_ldiv (at_ dl_X2_withoutLast 9 (ins := .ldiv) rfl)) (
  tkc (s_lstore_n (at_ dl_X2_withoutLast 10 (ins := .lstore_n 3) rfl) (by decide)) (
  tkc (s_iinc (at_ dl_X2_withoutLast 11 (ins := .iinc 5 1) rfl) (by decide) (by first | rfl | decide)) (
  tkc (s_goto (at_ dl_X2_withoutLast 12 (ins := .goto (-15)) rfl) (by decide)) (
  tkc (s_lload_n (at_ dl_X2_withoutLast 13 (ins := .lload_n 3) rfl)) (
  tkc (s_rL (at_ dl_X2_withoutLast 14 (ins := .lreturn) rfl) rfl) ( tk0)))))))))))))))
theorem lf_X2_withoutLast : lk (tb_X2_withoutLast) 0 = (x_ll 1 0, false) ∧ lk (tb_X2_withoutLast) 1 = (x_ls 2 3, false) ∧ lk (tb_X2_withoutLast) 2 = (x_c 3 (.int 0), false) ∧ lk (tb_X2_withoutLast) 3 = (x_is 5 5, false) ∧ lk (tb_X2_withoutLast) 5 = (x_il 7 5, true) ∧ lk (tb_X2_withoutLast) 7 = (x_il 8 2, false) ∧ lk (tb_X2_withoutLast) 8 = (x_ic 23 11 (fun x y : Int32 => y ≤ x), false) ∧ lk (tb_X2_withoutLast) 11 = (x_ll 12 3, false) ∧ lk (tb_X2_withoutLast) 12 = (x_c 15 (.long 1000), false) ∧ lk (tb_X2_withoutLast) 15 = (x_lq 16 (fun x y : Int64 => x / y), false) ∧ lk (tb_X2_withoutLast) 16 = (x_ls 17 3, false) ∧ lk (tb_X2_withoutLast) 17 = (x_inc 20 5 1, false) ∧ lk (tb_X2_withoutLast) 20 = (x_go 5, false) ∧ lk (tb_X2_withoutLast) 23 = (x_ll 24 3, false) ∧ lk (tb_X2_withoutLast) 24 = (x_rL, false) := ⟨rfl, rfl, rfl, rfl, rfl, rfl, rfl, rfl, rfl, rfl, rfl, rfl, rfl, rfl, rfl⟩
def P_X2_withoutLast : PTT := fun as M R => match as with
  | [.long x, .int n] => ∃ r d, r < 2 ^ 63 ∧ x = lN r ∧ d ≤ 4 ∧ n = nI d ∧ R (some (.long (lN (r / 1000 ^ d)))) M
  | _ => False
theorem k1000 : (1000 : Int64) = lN 1000 := by decide
theorem k1000n : ¬ lN 1000 = 0 := by decide
set_option maxRecDepth 20000 in
theorem ok_X2_withoutLast : Ok yX2_withoutLast mt_X2_withoutLast P_X2_withoutLast := by
  refine Ok.of (by decide) rfl rfl rfl rfl fun av ⟨S, I, L⟩ R hP => ?_
  unfold P_X2_withoutLast at hP
  split at hP
  case h_2 => exact hP.elim
  rename_i x n
  refine ⟨by simp [ent, wide, mt_X2_withoutLast], ?_⟩
  show J mt_X2_withoutLast R 0 [some (.long x), none, some (.int n), none, none, none] [] (S, I, L)
  try dsimp only at hP
  obtain ⟨r, d, hr, rfl, hd, rfl, hR⟩ := hP
  refine J.of tk_X2_withoutLast 200 fun ρ hρ => ?_
  simp only [hρ, x_c, x_il, x_ll, x_al, x_is, x_as, x_ls, x_inc, x_ii, x_iq, x_i1, x_l2, x_lq, x_lh, x_i2l, x_l2i, x_lcmp, x_dup, x_dup2, x_pop, x_if, x_ifn, x_ic, x_icn, x_go, x_sw, swc, x_l01, x_mx, x_gI, x_gL, x_gR, x_pI, x_pZ, x_pL, x_pR, x_ia, x_za, x_aa, x_ias, x_zas, x_aas, x_fac, x_fa, x_slen, x_sa, x_ac, x_oi, x_new, x_na, x_cS, x_cV, x_cI, x_rI, x_rZ, x_rL, x_r0, pa, short, oc, lg, lset, lset2, wide, cond_true, cond_false, true_and, and_true, ↓reduceIte, Bool.false_eq_true, true_or, or_true, lf_X2_withoutLast]
  have key := up (P := fun i => J mt_X2_withoutLast R 5 [some (.long (lN r)), none, some (.int (nI d)), some (.long (lN (r / 1000 ^ i))), none, some (.int (nI i))] [] (S, I, L)) (n := d) (fun i hi ih => ?_) 0 (Nat.zero_le _)
  · rw [Nat.pow_zero, Nat.div_one] at key
    exact key
  have h1 : r / 1000 ^ i < 2 ^ 63 := Nat.lt_of_le_of_lt (Nat.div_le_self _ _) hr
  have h2 : lN (r / 1000 ^ i) / lN 1000 = lN (r / 1000 ^ (i + 1)) := by rw [pk_lDiv h1 (by omega) (by omega), Nat.div_div_eq_div_mul, Nat.pow_succ]
  refine J.of tk_X2_withoutLast 200 fun ρ hρ => ?_
  simp only [hρ, x_c, x_il, x_ll, x_al, x_is, x_as, x_ls, x_inc, x_ii, x_iq, x_i1, x_l2, x_lq, x_lh, x_i2l, x_l2i, x_lcmp, x_dup, x_dup2, x_pop, x_if, x_ifn, x_ic, x_icn, x_go, x_sw, swc, x_l01, x_mx, x_gI, x_gL, x_gR, x_pI, x_pZ, x_pL, x_pR, x_ia, x_za, x_aa, x_ias, x_zas, x_aas, x_fac, x_fa, x_slen, x_sa, x_ac, x_oi, x_new, x_na, x_cS, x_cV, x_cI, x_rI, x_rZ, x_rL, x_r0, pa, short, oc, lg, lset, lset2, wide, cond_true, cond_false, true_and, and_true, ↓reduceIte, Bool.false_eq_true, true_or, or_true, lf_X2_withoutLast, nI_leI (show d < 2 ^ 31 by omega) (show i < 2 ^ 31 by omega), k1000, k1000n, h2, nI_1, not_false_eq_true]
  refine ⟨fun h => ?_, fun h => ih (by omega)⟩
  have : i = d := by omega
  subst this
  exact hR
def il_X2_begins : List (Nat × Instr × Nat) := [(0, .aload_n 0, 1), (1, .invokevirtual 53, 3), (4, .iconst 1, 1), (5, .ireturn, 1)]
def mt_X2_begins : Mt := (cX2_begins, RX2, 1, (some .boolean), ({ frames := 2, cells := 0, slots := 0, locals := 39 } : Room), false, none, none)
set_option maxRecDepth 100000 in
theorem dl_X2_begins : ∀ q ∈ il_X2_begins, decode (mt_X2_begins).1 q.1 = .ok q.2 := by decide +kernel
def tb_X2_begins : Tb := [(0, x_al 1 0, false),
  (1, x_cV 5 0 P_X5_beginAnew 4, false),
  (4, x_c 5 (.int 1), false),
  (5, x_rZ, false)]
set_option maxRecDepth 100000 in
theorem tk_X2_begins : TbOk (mt_X2_begins) (tb_X2_begins) :=
  tkc (s_aload_n (at_ dl_X2_begins 0 (ins := .aload_n 0) rfl)) (
  tkc (s_cV ok_X5_beginAnew (at_ dl_X2_begins 1 (ins := .invokevirtual 53) rfl) (by decide) rfl (tg 593 (by decide +kernel) (by decide +kernel)) (tg 349 (by decide +kernel) (by decide +kernel)) (tg 350 (by decide +kernel) (by decide +kernel)) (tg 45 (by decide +kernel) (by decide +kernel)) (tg 351 (by decide +kernel) (by decide +kernel)) (⟨by decide, by decide, by decide +kernel⟩) (⟨by decide, by decide⟩) rfl rfl) (
  tkc (s_iconst (at_ dl_X2_begins 2 (ins := .iconst 1) rfl) (by first | rfl | decide)) (
  tkc (s_rZ (at_ dl_X2_begins 3 (ins := .ireturn) rfl) rfl) ( tk0))))
theorem lf_X2_begins : lk (tb_X2_begins) 0 = (x_al 1 0, false) ∧ lk (tb_X2_begins) 1 = (x_cV 5 0 P_X5_beginAnew 4, false) ∧ lk (tb_X2_begins) 4 = (x_c 5 (.int 1), false) ∧ lk (tb_X2_begins) 5 = (x_rZ, false) := ⟨rfl, rfl, rfl, rfl⟩
def P_X2_begins : PTT := fun as M R => match as with
  | [.ref k] => IsSt M.1 k ∧ R (some (.int 1)) (M.1, begI M.2.1 k, M.2.2)
  | _ => False
set_option maxRecDepth 20000 in
theorem ok_X2_begins : Ok yX2_begins mt_X2_begins P_X2_begins := by
  refine Ok.of (by decide) rfl rfl rfl rfl fun av ⟨S, I, L⟩ R hP => ?_
  unfold P_X2_begins at hP
  split at hP
  case h_2 => exact hP.elim
  rename_i k
  obtain ⟨k, rfl⟩ : ∃ q : Nat, q = k := ⟨k, rfl⟩
  refine ⟨by simp [ent, wide, mt_X2_begins], ?_⟩
  show J mt_X2_begins R 0 [some (.ref k)] [] (S, I, L)
  try dsimp only at hP
  refine J.of tk_X2_begins 200 fun ρ hρ => ?_
  simp only [hρ, x_c, x_il, x_ll, x_al, x_is, x_as, x_ls, x_inc, x_ii, x_iq, x_i1, x_l2, x_lq, x_lh, x_i2l, x_l2i, x_lcmp, x_dup, x_dup2, x_pop, x_if, x_ifn, x_ic, x_icn, x_go, x_sw, swc, x_l01, x_mx, x_gI, x_gL, x_gR, x_pI, x_pZ, x_pL, x_pR, x_ia, x_za, x_aa, x_ias, x_zas, x_aas, x_fac, x_fa, x_slen, x_sa, x_ac, x_oi, x_new, x_na, x_cS, x_cV, x_cI, x_rI, x_rZ, x_rL, x_r0, pa, short, oc, lg, lset, lset2, wide, cond_true, cond_false, true_and, and_true, ↓reduceIte, Bool.false_eq_true, true_or, or_true, lf_X2_begins, hP.1, hP.1.f, P_X5_beginAnew]
  exact hP.2
def il_X2_offsets : List (Nat × Instr × Nat) := [(0, .aload_n 1, 1), (1, .iload_n 0, 1), (2, .putfield 60, 3), (5, .iconst 1, 1), (6, .ireturn, 1)]
def mt_X2_offsets : Mt := (cX2_offsets, RX2, 2, (some .boolean), ({ frames := 0, cells := 0, slots := 0, locals := 0 } : Room), false, none, none)
set_option maxRecDepth 100000 in
theorem dl_X2_offsets : ∀ q ∈ il_X2_offsets, decode (mt_X2_offsets).1 q.1 = .ok q.2 := by decide +kernel
def tb_X2_offsets : Tb := [(0, x_al 1 1, false),
  (1, x_il 2 0, false),
  (2, x_pI 5 6 5, false),
  (5, x_c 6 (.int 1), false),
  (6, x_rZ, false)]
set_option maxRecDepth 100000 in
theorem tk_X2_offsets : TbOk (mt_X2_offsets) (tb_X2_offsets) :=
  tkc (s_aload_n (at_ dl_X2_offsets 0 (ins := .aload_n 1) rfl)) (
  tkc (s_iload_n (at_ dl_X2_offsets 1 (ins := .iload_n 0) rfl)) (
  tkc (s_pI (at_ dl_X2_offsets 2 (ins := .putfield 60) rfl) (by decide) (by decide) (by decide) (by decide) (tg 146 (by decide +kernel) (by decide +kernel))) (
  tkc (s_iconst (at_ dl_X2_offsets 3 (ins := .iconst 1) rfl) (by first | rfl | decide)) (
  tkc (s_rZ (at_ dl_X2_offsets 4 (ins := .ireturn) rfl) rfl) ( tk0)))))
theorem lf_X2_offsets : lk (tb_X2_offsets) 0 = (x_al 1 1, false) ∧ lk (tb_X2_offsets) 1 = (x_il 2 0, false) ∧ lk (tb_X2_offsets) 2 = (x_pI 5 6 5, false) ∧ lk (tb_X2_offsets) 5 = (x_c 6 (.int 1), false) ∧ lk (tb_X2_offsets) 6 = (x_rZ, false) := ⟨rfl, rfl, rfl, rfl, rfl⟩
def P_X2_offsets : PTT := fun as M R => match as with
  | [.int v, .ref k] => IsSt M.1 k ∧ R (some (.int 1)) (M.1, mS M.2.1 k (upd (M.2.1 k) 6 v), M.2.2)
  | _ => False
set_option maxRecDepth 20000 in
theorem ok_X2_offsets : Ok yX2_offsets mt_X2_offsets P_X2_offsets := by
  refine Ok.of (by decide) rfl rfl rfl rfl fun av ⟨S, I, L⟩ R hP => ?_
  unfold P_X2_offsets at hP
  split at hP
  case h_2 => exact hP.elim
  rename_i v k
  obtain ⟨k, rfl⟩ : ∃ q : Nat, q = k := ⟨k, rfl⟩
  refine ⟨by simp [ent, wide, mt_X2_offsets], ?_⟩
  show J mt_X2_offsets R 0 [some (.int v), some (.ref k)] [] (S, I, L)
  try dsimp only at hP
  refine J.of tk_X2_offsets 200 fun ρ hρ => ?_
  simp only [hρ, x_c, x_il, x_ll, x_al, x_is, x_as, x_ls, x_inc, x_ii, x_iq, x_i1, x_l2, x_lq, x_lh, x_i2l, x_l2i, x_lcmp, x_dup, x_dup2, x_pop, x_if, x_ifn, x_ic, x_icn, x_go, x_sw, swc, x_l01, x_mx, x_gI, x_gL, x_gR, x_pI, x_pZ, x_pL, x_pR, x_ia, x_za, x_aa, x_ias, x_zas, x_aas, x_fac, x_fa, x_slen, x_sa, x_ac, x_oi, x_new, x_na, x_cS, x_cV, x_cI, x_rI, x_rZ, x_rL, x_r0, pa, short, oc, lg, lset, lset2, wide, cond_true, cond_false, true_and, and_true, ↓reduceIte, Bool.false_eq_true, true_or, or_true, lf_X2_offsets, hP.1.f]
  exact hP.2
def il_X2_runs : List (Nat × Instr × Nat) := [(0, .aload_n 2, 1), (1, .aload_n 1, 1), (2, .iload_n 0, 1), (3, .invokevirtual 47, 3), (6, .iload_n 0, 1), (7, .ifCond .le 7, 3), (10, .iconst 1, 1), (11, .goto 4, 3), (14, .iconst 0, 1), (15, .ireturn, 1)]
def mt_X2_runs : Mt := (cX2_runs, RX2, 3, (some .boolean), ({ frames := 4, cells := 0, slots := 0, locals := 101 } : Room), false, none, none)
set_option maxRecDepth 100000 in
theorem dl_X2_runs : ∀ q ∈ il_X2_runs, decode (mt_X2_runs).1 q.1 = .ok q.2 := by decide +kernel
def tb_X2_runs : Tb := [(0, x_al 1 2, false),
  (1, x_al 2 1, false),
  (2, x_il 3 0, false),
  (3, x_cV 1 2 P_X1_runRounds 6, false),
  (6, x_il 7 0, false),
  (7, x_if 14 10 (fun x : Int32 => x ≤ 0), false),
  (10, x_c 11 (.int 1), false),
  (11, x_go 15, false),
  (14, x_c 15 (.int 0), false),
  (15, x_rZ, false)]
set_option maxRecDepth 100000 in
theorem tk_X2_runs : TbOk (mt_X2_runs) (tb_X2_runs) :=
  tkc (s_aload_n (at_ dl_X2_runs 0 (ins := .aload_n 2) rfl)) (
  tkc (s_aload_n (at_ dl_X2_runs 1 (ins := .aload_n 1) rfl)) (
  tkc (s_iload_n (at_ dl_X2_runs 2 (ins := .iload_n 0) rfl)) (
  tkc (s_cV ok_X1_runRounds (at_ dl_X2_runs 3 (ins := .invokevirtual 47) rfl) (by decide) rfl (tg 589 (by decide +kernel) (by decide +kernel)) (tg 511 (by decide +kernel) (by decide +kernel)) (tg 512 (by decide +kernel) (by decide +kernel)) (tg 46 (by decide +kernel) (by decide +kernel)) (tg 513 (by decide +kernel) (by decide +kernel)) (⟨by decide, by decide, by decide +kernel⟩) (⟨by decide, by decide⟩) rfl rfl) (
  tkc (s_iload_n (at_ dl_X2_runs 4 (ins := .iload_n 0) rfl)) (
  tkc (s_if_le (at_ dl_X2_runs 5 (ins := .ifCond .le 7) rfl) (by decide)) (
  tkc (s_iconst (at_ dl_X2_runs 6 (ins := .iconst 1) rfl) (by first | rfl | decide)) (
  tkc (s_goto (at_ dl_X2_runs 7 (ins := .goto 4) rfl) (by decide)) (
  tkc (s_iconst (at_ dl_X2_runs 8 (ins := .iconst 0) rfl) (by first | rfl | decide)) (
  tkc (s_rZ (at_ dl_X2_runs 9 (ins := .ireturn) rfl) rfl) ( tk0))))))))))
theorem lf_X2_runs : lk (tb_X2_runs) 0 = (x_al 1 2, false) ∧ lk (tb_X2_runs) 1 = (x_al 2 1, false) ∧ lk (tb_X2_runs) 2 = (x_il 3 0, false) ∧ lk (tb_X2_runs) 3 = (x_cV 1 2 P_X1_runRounds 6, false) ∧ lk (tb_X2_runs) 6 = (x_il 7 0, false) ∧ lk (tb_X2_runs) 7 = (x_if 14 10 (fun x : Int32 => x ≤ 0), false) ∧ lk (tb_X2_runs) 10 = (x_c 11 (.int 1), false) ∧ lk (tb_X2_runs) 11 = (x_go 15, false) ∧ lk (tb_X2_runs) 14 = (x_c 15 (.int 0), false) ∧ lk (tb_X2_runs) 15 = (x_rZ, false) := ⟨rfl, rfl, rfl, rfl, rfl, rfl, rfl, rfl, rfl, rfl⟩
def P_X2_runs : PTT := fun as M R => match as with
  | [.int x, .ref k, .ref d] => d = 15 ∧ IsDc M.1 ∧ IsSt M.1 k ∧ ap15 k ∧ ∃ n m r, SV M.2.1 k n m ∧ OrdV M.2.1 m ∧ r ≤ 99 ∧ x = nI r ∧ ∀ I', frR k M.2.1 I' → I' k = upd (M.2.1 k) 7 (M.2.1 k 7 + nI r) → (I' (k + 3), I' (k + 4)) = itD n m (M.2.1 k 6) (ovS M.2.1 k) (ordI M.2.1) r (M.2.1 (k + 3), M.2.1 (k + 4)) → R (some (.int (bI (¬ r = 0)))) (M.1, I', M.2.2)
  | _ => False
set_option maxRecDepth 20000 in
theorem ok_X2_runs : Ok yX2_runs mt_X2_runs P_X2_runs := by
  refine Ok.of (by decide) rfl rfl rfl rfl fun av ⟨S, I, L⟩ R hP => ?_
  unfold P_X2_runs at hP
  split at hP
  case h_2 => exact hP.elim
  rename_i x k d
  obtain ⟨k, rfl⟩ : ∃ q : Nat, q = k := ⟨k, rfl⟩
  obtain ⟨d, rfl⟩ : ∃ q : Nat, q = d := ⟨d, rfl⟩
  refine ⟨by simp [ent, wide, mt_X2_runs], ?_⟩
  show J mt_X2_runs R 0 [some (.int x), some (.ref k), some (.ref d)] [] (S, I, L)
  try dsimp only at hP
  obtain ⟨rfl, hd, hk, hj, n, m, r, hv, ho, hr, rfl, hR⟩ := hP
  have hz : nI r ≤ 0 ↔ r = 0 := by rw [zero_nI, nI_leI (by omega) (by omega)]; omega
  refine J.of tk_X2_runs 200 fun ρ hρ => ?_
  simp only [hρ, x_c, x_il, x_ll, x_al, x_is, x_as, x_ls, x_inc, x_ii, x_iq, x_i1, x_l2, x_lq, x_lh, x_i2l, x_l2i, x_lcmp, x_dup, x_dup2, x_pop, x_if, x_ifn, x_ic, x_icn, x_go, x_sw, swc, x_l01, x_mx, x_gI, x_gL, x_gR, x_pI, x_pZ, x_pL, x_pR, x_ia, x_za, x_aa, x_ias, x_zas, x_aas, x_fac, x_fa, x_slen, x_sa, x_ac, x_oi, x_new, x_na, x_cS, x_cV, x_cI, x_rI, x_rZ, x_rL, x_r0, pa, short, oc, lg, lset, lset2, wide, cond_true, cond_false, true_and, and_true, ↓reduceIte, Bool.false_eq_true, true_or, or_true, lf_X2_runs, hd, hk, hj, hd.f, P_X1_runRounds, hz]
  refine ⟨n, m, r, hv, ho, hr, rfl, fun I' h1 h2 h3 => ⟨fun h => ?_, fun h => ?_⟩⟩
  · have := hR I' h1 h2 h3
    rwa [bI_f (fun q => q h)] at this
  · have := hR I' h1 h2 h3
    rwa [bI_t h] at this
def il_X2_puts : List (Nat × Instr × Nat) := [(0, .aload_n 2, 1), (1, .iload_n 0, 1), (2, .iload_n 1, 1), (3, .invokevirtual 56, 3), (6, .aload_n 2, 1), (7, .iload_n 0, 1), (8, .invokevirtual 37, 3), (11, .ifCond .eq 15, 3), (14, .aload_n 2, 1), (15, .iload_n 1, 1), (16, .invokevirtual 23, 3), (19, .ifCond .eq 7, 3), (22, .iconst 1, 1), (23, .goto 4, 3), (26, .iconst 0, 1), (27, .ireturn, 1)]
def mt_X2_puts : Mt := (cX2_puts, RX2, 3, (some .boolean), ({ frames := 2, cells := 0, slots := 0, locals := 43 } : Room), false, none, none)
set_option maxRecDepth 100000 in
theorem dl_X2_puts : ∀ q ∈ il_X2_puts, decode (mt_X2_puts).1 q.1 = .ok q.2 := by decide +kernel
def tb_X2_puts : Tb := [(0, x_al 1 2, false),
  (1, x_il 2 0, false),
  (2, x_il 3 1, false),
  (3, x_cV 5 2 P_X5_turnOver 6, false),
  (6, x_al 7 2, false),
  (7, x_il 8 0, false),
  (8, x_cV 5 1 P_X5_hasCheck 11, false),
  (11, x_if 26 14 (fun x : Int32 => x = 0), false),
  (14, x_al 15 2, false),
  (15, x_il 16 1, false),
  (16, x_cV 5 1 P_X5_hasBit 19, false),
  (19, x_if 26 22 (fun x : Int32 => x = 0), false),
  (22, x_c 23 (.int 1), false),
  (23, x_go 27, false),
  (26, x_c 27 (.int 0), false),
  (27, x_rZ, false)]
set_option maxRecDepth 100000 in
theorem tk_X2_puts : TbOk (mt_X2_puts) (tb_X2_puts) :=
  tkc (s_aload_n (at_ dl_X2_puts 0 (ins := .aload_n 2) rfl)) (
  tkc (s_iload_n (at_ dl_X2_puts 1 (ins := .iload_n 0) rfl)) (
  tkc (s_iload_n (at_ dl_X2_puts 2 (ins := .iload_n 1) rfl)) (
  tkc (s_cV ok_X5_turnOver (at_ dl_X2_puts 3 (ins := .invokevirtual 56) rfl) (by decide) rfl (tg 597 (by decide +kernel) (by decide +kernel)) (tg 520 (by decide +kernel) (by decide +kernel)) (tg 521 (by decide +kernel) (by decide +kernel)) (tg 45 (by decide +kernel) (by decide +kernel)) (tg 522 (by decide +kernel) (by decide +kernel)) (⟨by decide, by decide, by decide +kernel⟩) (⟨by decide, by decide⟩) rfl rfl) (
  tkc (s_aload_n (at_ dl_X2_puts 4 (ins := .aload_n 2) rfl)) (
  tkc (s_iload_n (at_ dl_X2_puts 5 (ins := .iload_n 0) rfl)) (
  tkc (s_cV ok_X5_hasCheck (at_ dl_X2_puts 6 (ins := .invokevirtual 37) rfl) (by decide) rfl (tg 598 (by decide +kernel) (by decide +kernel)) (tg 392 (by decide +kernel) (by decide +kernel)) (tg 393 (by decide +kernel) (by decide +kernel)) (tg 45 (by decide +kernel) (by decide +kernel)) (tg 394 (by decide +kernel) (by decide +kernel)) (⟨by decide, by decide, by decide +kernel⟩) (⟨by decide, by decide⟩) rfl rfl) (
  tkc (s_if_eq (at_ dl_X2_puts 7 (ins := .ifCond .eq 15) rfl) (by decide)) (
  tkc (s_aload_n (at_ dl_X2_puts 8 (ins := .aload_n 2) rfl)) (
  tkc (s_iload_n (at_ dl_X2_puts 9 (ins := .iload_n 1) rfl)) (
  tkc (s_cV ok_X5_hasBit (at_ dl_X2_puts 10 (ins := .invokevirtual 23) rfl) (by decide) rfl (tg 599 (by decide +kernel) (by decide +kernel)) (tg 396 (by decide +kernel) (by decide +kernel)) (tg 397 (by decide +kernel) (by decide +kernel)) (tg 45 (by decide +kernel) (by decide +kernel)) (tg 398 (by decide +kernel) (by decide +kernel)) (⟨by decide, by decide, by decide +kernel⟩) (⟨by decide, by decide⟩) rfl rfl) (
  tkc (s_if_eq (at_ dl_X2_puts 11 (ins := .ifCond .eq 7) rfl) (by decide)) (
  tkc (s_iconst (at_ dl_X2_puts 12 (ins := .iconst 1) rfl) (by first | rfl | decide)) (
  tkc (s_goto (at_ dl_X2_puts 13 (ins := .goto 4) rfl) (by decide)) (
  tkc (s_iconst (at_ dl_X2_puts 14 (ins := .iconst 0) rfl) (by first | rfl | decide)) (
  tkc (s_rZ (at_ dl_X2_puts 15 (ins := .ireturn) rfl) rfl) ( tk0))))))))))))))))
theorem lf_X2_puts : lk (tb_X2_puts) 0 = (x_al 1 2, false) ∧ lk (tb_X2_puts) 1 = (x_il 2 0, false) ∧ lk (tb_X2_puts) 2 = (x_il 3 1, false) ∧ lk (tb_X2_puts) 3 = (x_cV 5 2 P_X5_turnOver 6, false) ∧ lk (tb_X2_puts) 6 = (x_al 7 2, false) ∧ lk (tb_X2_puts) 7 = (x_il 8 0, false) ∧ lk (tb_X2_puts) 8 = (x_cV 5 1 P_X5_hasCheck 11, false) ∧ lk (tb_X2_puts) 11 = (x_if 26 14 (fun x : Int32 => x = 0), false) ∧ lk (tb_X2_puts) 14 = (x_al 15 2, false) ∧ lk (tb_X2_puts) 15 = (x_il 16 1, false) ∧ lk (tb_X2_puts) 16 = (x_cV 5 1 P_X5_hasBit 19, false) ∧ lk (tb_X2_puts) 19 = (x_if 26 22 (fun x : Int32 => x = 0), false) ∧ lk (tb_X2_puts) 22 = (x_c 23 (.int 1), false) ∧ lk (tb_X2_puts) 23 = (x_go 27, false) ∧ lk (tb_X2_puts) 26 = (x_c 27 (.int 0), false) ∧ lk (tb_X2_puts) 27 = (x_rZ, false) := ⟨rfl, rfl, rfl, rfl, rfl, rfl, rfl, rfl, rfl, rfl, rfl, rfl, rfl, rfl, rfl, rfl⟩
def P_X2_puts : PTT := fun as M R => match as with
  | [.int c, .int b, .ref k] => IsSt M.1 k ∧ ∃ n m, n ≤ 9 ∧ m ≤ 6 ∧ M.2.1 k 4 = nI n ∧ M.2.1 k 5 = nI m ∧ ((¬ c < 0 ∧ ¬ nI m ≤ c) ∧ (¬ b < 0 ∧ ¬ nI n ≤ b) → R (some (.int 1)) (M.1, putI M.2.1 k c b, M.2.2)) ∧ (¬ ((¬ c < 0 ∧ ¬ nI m ≤ c) ∧ (¬ b < 0 ∧ ¬ nI n ≤ b)) → R (some (.int 0)) M)
  | _ => False
set_option maxRecDepth 20000 in
theorem ok_X2_puts : Ok yX2_puts mt_X2_puts P_X2_puts := by
  refine Ok.of (by decide) rfl rfl rfl rfl fun av ⟨S, I, L⟩ R hP => ?_
  unfold P_X2_puts at hP
  split at hP
  case h_2 => exact hP.elim
  rename_i c b k
  obtain ⟨k, rfl⟩ : ∃ q : Nat, q = k := ⟨k, rfl⟩
  refine ⟨by simp [ent, wide, mt_X2_puts], ?_⟩
  show J mt_X2_puts R 0 [some (.int c), some (.int b), some (.ref k)] [] (S, I, L)
  try dsimp only at hP
  obtain ⟨hk, n, m, n9, m6, hn, hm, h1, h2⟩ := hP
  have e0 : putI I k c b k = I k := by unfold putI; rw [mS_n (by omega), mS_n (by omega)]
  have x1 : ∃ n', n' ≤ 9 ∧ nI n = nI n' := ⟨n, n9, rfl⟩
  have x2 : ∃ m', m' ≤ 6 ∧ nI m = nI m' := ⟨m, m6, rfl⟩
  refine J.of tk_X2_puts 200 fun ρ hρ => ?_
  simp only [hρ, x_c, x_il, x_ll, x_al, x_is, x_as, x_ls, x_inc, x_ii, x_iq, x_i1, x_l2, x_lq, x_lh, x_i2l, x_l2i, x_lcmp, x_dup, x_dup2, x_pop, x_if, x_ifn, x_ic, x_icn, x_go, x_sw, swc, x_l01, x_mx, x_gI, x_gL, x_gR, x_pI, x_pZ, x_pL, x_pR, x_ia, x_za, x_aa, x_ias, x_zas, x_aas, x_fac, x_fa, x_slen, x_sa, x_ac, x_oi, x_new, x_na, x_cS, x_cV, x_cI, x_rI, x_rZ, x_rL, x_r0, pa, short, oc, lg, lset, lset2, wide, cond_true, cond_false, true_and, and_true, ↓reduceIte, Bool.false_eq_true, true_or, or_true, lf_X2_puts, hk, hk.f, hn, hm, x1, x2, e0, P_X5_turnOver, P_X5_hasCheck, P_X5_hasBit, bI_0, Classical.not_not]
  refine ⟨fun h => ⟨fun q => absurd h.1 q, fun q => ⟨fun q2 => absurd h.2 q2, fun q2 => h1 h⟩⟩, fun h => ⟨fun _ => h2 h, fun q => ⟨fun _ => h2 h, fun q2 => absurd ⟨q, q2⟩ h⟩⟩⟩
/-- a doing, three figures: whether it can be (is so), and what is then -/
def doJ (a : AS) (w : Nat) : Bool × AS :=
  if w / 100 = 1 then (decide (¬ 10 * (w / 10 % 10) + w % 10 = 0), itA (10 * (w / 10 % 10) + w % 10) a)
  else if w / 100 = 2 then (if w / 10 % 10 = 0 ∧ w % 10 = 0 then (true, begA a) else (false, a))
  else if w / 100 = 3 then (if w / 10 % 10 < aM a ∧ w % 10 < aN a then (true, putA a (w / 10 % 10) (w % 10)) else (false, a))
  else if w / 100 = 4 then (decide (w / 10 % 10 < aN a ∧ w % 10 = if (wdA a).testBit (w / 10 % 10) then 1 else 0), a)
  else if w / 100 = 5 then (decide ((w / 10 % 10 = 0 ∧ w % 10 = 0) ∧ opA a = 0), a)
  else if w / 100 = 6 then (decide (w / 10 % 10 < aM a ∧ w % 10 = if (opA a).testBit (w / 10 % 10) then 1 else 0), a)
  else if w / 100 = 7 then (if w / 10 % 10 = 0 then (true, (a.1, a.2.1, nI (w % 10), a.2.2.2)) else (false, a))
  else (false, a)
theorem doJ_1 {a : AS} {w : Nat} (hh : w / 100 = 1) : doJ a w = (decide (¬ 10 * (w / 10 % 10) + w % 10 = 0), itA (10 * (w / 10 % 10) + w % 10) a) := by unfold doJ; rw [if_pos hh]
theorem doJ_4 {a : AS} {w : Nat} (hh : w / 100 = 4) : doJ a w = (decide (w / 10 % 10 < aN a ∧ w % 10 = if (wdA a).testBit (w / 10 % 10) then 1 else 0), a) := by unfold doJ; rw [if_neg (by omega), if_neg (by omega), if_neg (by omega), if_pos hh]
theorem doJ_5 {a : AS} {w : Nat} (hh : w / 100 = 5) : doJ a w = (decide ((w / 10 % 10 = 0 ∧ w % 10 = 0) ∧ opA a = 0), a) := by unfold doJ; rw [if_neg (by omega), if_neg (by omega), if_neg (by omega), if_neg (by omega), if_pos hh]
theorem doJ_6 {a : AS} {w : Nat} (hh : w / 100 = 6) : doJ a w = (decide (w / 10 % 10 < aM a ∧ w % 10 = if (opA a).testBit (w / 10 % 10) then 1 else 0), a) := by unfold doJ; rw [if_neg (by omega), if_neg (by omega), if_neg (by omega), if_neg (by omega), if_neg (by omega), if_pos hh]
theorem doJ_ok {a : AS} {w : Nat} (h : AOk a) : AOk (doJ a w).2 := by
  unfold doJ
  split
  · exact itA_ok h
  split
  · split
    · exact begA_ok h
    · exact h
  split
  · split
    · next h1 => exact putA_ok h h1.1 h1.2
    · exact h
  split
  · exact h
  split
  · exact h
  split
  · exact h
  split
  · split
    · exact ⟨h.1, h.2.1, ⟨w % 10, by omega, rfl⟩, h.2.2.2.1, h.2.2.2.2⟩
    · exact h
  · exact h
/-- nothing but the trial state and the decoder's own places is another -/
def frT (I I' : MI) : Prop := ∀ q, (q < 10 ∨ 15 ≤ q) → q ≠ 15 → q ≠ 17 → I' q = I q
def il_X2_goesThrough : List (Nat × Instr × Nat) := [(0, .iload_n 0, 1), (1, .bipush 10, 2), (3, .idiv, 1), (4, .bipush 10, 2), (6, .irem, 1), (7, .istore_n 3, 1), (8, .iload_n 0, 1), (9, .bipush 10, 2), (11, .irem, 1), (12, .istore 4, 2), (14, .iload_n 0, 1), (15, .bipush 100, 2), (17, .idiv, 1), (18, .tableswitch 180 1 7 #[42, 55, 77, 85, 112, 134, 161], 42), (60, .iload_n 3, 1), (61, .bipush 10, 2), (63, .imul, 1), (64, .iload 4, 2), (66, .iadd, 1), (67, .aload_n 1, 1), (68, .aload_n 2, 1), (69, .invokestatic 11, 3), (72, .ireturn, 1), (73, .iload_n 3, 1), (74, .ifCond .ne 19, 3), (77, .iload 4, 2), (79, .ifCond .ne 14, 3), (82, .aload_n 1, 1), (83, .invokestatic 15, 3), (86, .ifCond .eq 7, 3), (89, .iconst 1, 1), (90, .goto 4, 3), (93, .iconst 0, 1), (94, .ireturn, 1), (95, .iload_n 3, 1), (96, .iload 4, 2), (98, .aload_n 1, 1), (99, .invokestatic 19, 3), (102, .ireturn, 1), (103, .aload_n 1, 1), (104, .iload_n 3, 1), (105, .invokevirtual 23, 3), (108, .ifCond .eq 20, 3), (111, .iload 4, 2), (113, .aload_n 1, 1), (114, .invokevirtual 29, 3), (117, .iload_n 3, 1), (118, .ishr, 1), (119, .iconst 1, 1), (120, .iand, 1), (121, .if_icmp .ne 7, 3), (124, .iconst 1, 1), (125, .goto 4, 3), (128, .iconst 0, 1), (129, .ireturn, 1), (130, .iload_n 3, 1), (131, .ifCond .ne 19, 3), (134, .iload 4, 2), (136, .ifCond .ne 14, 3), (139, .aload_n 1, 1), (140, .invokevirtual 33, 3), (143, .ifCond .eq 7, 3), (146, .iconst 1, 1), (147, .goto 4, 3), (150, .iconst 0, 1), (151, .ireturn, 1), (152, .aload_n 1, 1), (153, .iload_n 3, 1), (154, .invokevirtual 37, 3), (157, .ifCond .eq 20, 3), (160, .iload 4, 2), (162, .aload_n 1, 1), (163, .invokevirtual 40, 3), (166, .iload_n 3, 1), (167, .ishr, 1), (168, .iconst 1, 1), (169, .iand, 1), (170, .if_icmp .ne 7, 3), (173, .iconst 1, 1), (174, .goto 4, 3), (177, .iconst 0, 1), (178, .ireturn, 1), (179, .iload_n 3, 1), (180, .ifCond .ne 16, 3), (183, .iload 4, 2), (185, .aload_n 1, 1), (186, .invokestatic 43, 3), (189, .ifCond .eq 7, 3), (192, .iconst 1, 1), (193, .goto 4, 3), (196, .iconst 0, 1), (197, .ireturn, 1), (198, .iconst 0, 1), (199, .ireturn, 1)]
def mt_X2_goesThrough : Mt := (cX2_goesThrough, RX2, 5, (some .boolean), ({ frames := 5, cells := 0, slots := 0, locals := 123 } : Room), false, none, none)
set_option maxRecDepth 100000 in
theorem dl_X2_goesThrough : ∀ q ∈ il_X2_goesThrough, decode (mt_X2_goesThrough).1 q.1 = .ok q.2 := by decide +kernel
def tb_X2_goesThrough : Tb := [(0, x_il 1 0, false),
  (1, x_c 3 (.int 10), false),
  (3, x_iq 4 (fun x y : Int32 => x / y), false),
  (4, x_c 6 (.int 10), false),
  (6, x_iq 7 (fun x y : Int32 => x - x / y * y), false),
  (7, x_is 8 3, false),
  (8, x_il 9 0, false),
  (9, x_c 11 (.int 10), false),
  (11, x_iq 12 (fun x y : Int32 => x - x / y * y), false),
  (12, x_is 14 4, false),
  (14, x_il 15 0, false),
  (15, x_c 17 (.int 100), false),
  (17, x_iq 18 (fun x y : Int32 => x / y), false),
  (18, x_sw 1 7 [60, 73, 95, 103, 130, 152, 179] 198, false),
  (60, x_il 61 3, false),
  (61, x_c 63 (.int 10), false),
  (63, x_ii 64 (fun x y : Int32 => x * y), false),
  (64, x_il 66 4, false),
  (66, x_ii 67 (fun x y : Int32 => x + y), false),
  (67, x_al 68 1, false),
  (68, x_al 69 2, false),
  (69, x_cS 3 P_X2_runs 72, false),
  (72, x_rZ, false),
  (73, x_il 74 3, false),
  (74, x_ifn 93 77 (fun x : Int32 => x = 0), false),
  (77, x_il 79 4, false),
  (79, x_ifn 93 82 (fun x : Int32 => x = 0), false),
  (82, x_al 83 1, false),
  (83, x_cS 1 P_X2_begins 86, false),
  (86, x_if 93 89 (fun x : Int32 => x = 0), false),
  (89, x_c 90 (.int 1), false),
  (90, x_go 94, false),
  (93, x_c 94 (.int 0), false),
  (94, x_rZ, false),
  (95, x_il 96 3, false),
  (96, x_il 98 4, false),
  (98, x_al 99 1, false),
  (99, x_cS 3 P_X2_puts 102, false),
  (102, x_rZ, false),
  (103, x_al 104 1, false),
  (104, x_il 105 3, false),
  (105, x_cV 5 1 P_X5_hasBit 108, false),
  (108, x_if 128 111 (fun x : Int32 => x = 0), false),
  (111, x_il 113 4, false),
  (113, x_al 114 1, false),
  (114, x_cV 5 0 P_X5_word 117, false),
  (117, x_il 118 3, false),
  (118, x_ii 119 (fun x y : Int32 => x >>> (y &&& 31)), false),
  (119, x_c 120 (.int 1), false),
  (120, x_ii 121 (fun x y : Int32 => x &&& y), false),
  (121, x_icn 128 124 (fun x y : Int32 => x = y), false),
  (124, x_c 125 (.int 1), false),
  (125, x_go 129, false),
  (128, x_c 129 (.int 0), false),
  (129, x_rZ, false),
  (130, x_il 131 3, false),
  (131, x_ifn 150 134 (fun x : Int32 => x = 0), false),
  (134, x_il 136 4, false),
  (136, x_ifn 150 139 (fun x : Int32 => x = 0), false),
  (139, x_al 140 1, false),
  (140, x_cV 5 0 P_X5_solved 143, false),
  (143, x_if 150 146 (fun x : Int32 => x = 0), false),
  (146, x_c 147 (.int 1), false),
  (147, x_go 151, false),
  (150, x_c 151 (.int 0), false),
  (151, x_rZ, false),
  (152, x_al 153 1, false),
  (153, x_il 154 3, false),
  (154, x_cV 5 1 P_X5_hasCheck 157, false),
  (157, x_if 177 160 (fun x : Int32 => x = 0), false),
  (160, x_il 162 4, false),
  (162, x_al 163 1, false),
  (163, x_cV 5 0 P_X5_open 166, false),
  (166, x_il 167 3, false),
  (167, x_ii 168 (fun x y : Int32 => x >>> (y &&& 31)), false),
  (168, x_c 169 (.int 1), false),
  (169, x_ii 170 (fun x y : Int32 => x &&& y), false),
  (170, x_icn 177 173 (fun x y : Int32 => x = y), false),
  (173, x_c 174 (.int 1), false),
  (174, x_go 178, false),
  (177, x_c 178 (.int 0), false),
  (178, x_rZ, false),
  (179, x_il 180 3, false),
  (180, x_ifn 196 183 (fun x : Int32 => x = 0), false),
  (183, x_il 185 4, false),
  (185, x_al 186 1, false),
  (186, x_cS 2 P_X2_offsets 189, false),
  (189, x_if 196 192 (fun x : Int32 => x = 0), false),
  (192, x_c 193 (.int 1), false),
  (193, x_go 197, false),
  (196, x_c 197 (.int 0), false),
  (197, x_rZ, false),
  (198, x_c 199 (.int 0), false),
  (199, x_rZ, false)]
set_option maxRecDepth 100000 in
theorem tk_X2_goesThrough : TbOk (mt_X2_goesThrough) (tb_X2_goesThrough) :=
  tkc (s_iload_n (at_ dl_X2_goesThrough 0 (ins := .iload_n 0) rfl)) (
  tkc (s_bipush (at_ dl_X2_goesThrough 1 (ins := .bipush 10) rfl) (by first | rfl | decide)) (
  tkc (s_idiv (at_ dl_X2_goesThrough 2 (ins := .idiv) rfl)) (
  tkc (s_bipush (at_ dl_X2_goesThrough 3 (ins := .bipush 10) rfl) (by first | rfl | decide)) (
  tkc (s_irem (at_ dl_X2_goesThrough 4 (ins := .irem) rfl)) (
  tkc (s_istore_n (at_ dl_X2_goesThrough 5 (ins := .istore_n 3) rfl) (by decide)) (
  tkc (s_iload_n (at_ dl_X2_goesThrough 6 (ins := .iload_n 0) rfl)) (
  tkc (s_bipush (at_ dl_X2_goesThrough 7 (ins := .bipush 10) rfl) (by first | rfl | decide)) (
  tkc (s_irem (at_ dl_X2_goesThrough 8 (ins := .irem) rfl)) (
  tkc (s_istore (at_ dl_X2_goesThrough 9 (ins := .istore 4) rfl) (by decide)) (
  tkc (s_iload_n (at_ dl_X2_goesThrough 10 (ins := .iload_n 0) rfl)) (
  tkc (s_bipush (at_ dl_X2_goesThrough 11 (ins := .bipush 100) rfl) (by first | rfl | decide)) (
  tkc (s_idiv (at_ dl_X2_goesThrough 12 (ins := .idiv) rfl)) (
  tkc (s_sw (at_ dl_X2_goesThrough 13 (ins := .tableswitch 180 1 7 #[42, 55, 77, 85, 112, 134, 161]) rfl) rfl (tsw [60, 73, 95, 103, 130, 152, 179] (by decide +kernel)) (by decide)) (
  tkc (s_iload_n (at_ dl_X2_goesThrough 14 (ins := .iload_n 3) rfl)) (
  tkc (s_bipush (at_ dl_X2_goesThrough 15 (ins := .bipush 10) rfl) (by first | rfl | decide)) (
  tkc (s_imul (at_ dl_X2_goesThrough 16 (ins := .imul) rfl)) (
  tkc (s_iload (at_ dl_X2_goesThrough 17 (ins := .iload 4) rfl)) (
  tkc (s_iadd (at_ dl_X2_goesThrough 18 (ins := .iadd) rfl)) (
  tkc (s_aload_n (at_ dl_X2_goesThrough 19 (ins := .aload_n 1) rfl)) (
  tkc (s_aload_n (at_ dl_X2_goesThrough 20 (ins := .aload_n 2) rfl)) (
  tkc (s_cS ok_X2_runs (at_ dl_X2_goesThrough 21 (ins := .invokestatic 11) rfl) (tg 586 (by decide +kernel) (by decide +kernel)) (tg 587 (by decide +kernel) (by decide +kernel)) (tg 54 (by decide +kernel) (by decide +kernel)) (tg 588 (by decide +kernel) (by decide +kernel)) (⟨by decide, by decide, by decide +kernel⟩) (⟨by decide, by decide⟩) rfl rfl) (
  tkc (s_rZ (at_ dl_X2_goesThrough 22 (ins := .ireturn) rfl) rfl) (
  tkc (s_iload_n (at_ dl_X2_goesThrough 23 (ins := .iload_n 3) rfl)) (
  tkc (s_if_ne (at_ dl_X2_goesThrough 24 (ins := .ifCond .ne 19) rfl) (by decide)) (
  tkc (s_iload (at_ dl_X2_goesThrough 25 (ins := .iload 4) rfl)) (
  tkc (s_if_ne (at_ dl_X2_goesThrough 26 (ins := .ifCond .ne 14) rfl) (by decide)) (
  tkc (s_aload_n (at_ dl_X2_goesThrough 27 (ins := .aload_n 1) rfl)) (
  tkc (s_cS ok_X2_begins (at_ dl_X2_goesThrough 28 (ins := .invokestatic 15) rfl) (tg 590 (by decide +kernel) (by decide +kernel)) (tg 591 (by decide +kernel) (by decide +kernel)) (tg 54 (by decide +kernel) (by decide +kernel)) (tg 592 (by decide +kernel) (by decide +kernel)) (⟨by decide, by decide, by decide +kernel⟩) (⟨by decide, by decide⟩) rfl rfl) (
  tkc (s_if_eq (at_ dl_X2_goesThrough 29 (ins := .ifCond .eq 7) rfl) (by decide)) (
  tkc (s_iconst (at_ dl_X2_goesThrough 30 (ins := .iconst 1) rfl) (by first | rfl | decide)) (
  tkc (s_goto (at_ dl_X2_goesThrough 31 (ins := .goto 4) rfl) (by decide)) (
  tkc (s_iconst (at_ dl_X2_goesThrough 32 (ins := .iconst 0) rfl) (by first | rfl | decide)) (
  tkc (s_rZ (at_ dl_X2_goesThrough 33 (ins := .ireturn) rfl) rfl) (
  tkc (s_iload_n (at_ dl_X2_goesThrough 34 (ins := .iload_n 3) rfl)) (
  tkc (s_iload (at_ dl_X2_goesThrough 35 (ins := .iload 4) rfl)) (
  tkc (s_aload_n (at_ dl_X2_goesThrough 36 (ins := .aload_n 1) rfl)) (
  tkc (s_cS ok_X2_puts (at_ dl_X2_goesThrough 37 (ins := .invokestatic 19) rfl) (tg 594 (by decide +kernel) (by decide +kernel)) (tg 595 (by decide +kernel) (by decide +kernel)) (tg 54 (by decide +kernel) (by decide +kernel)) (tg 596 (by decide +kernel) (by decide +kernel)) (⟨by decide, by decide, by decide +kernel⟩) (⟨by decide, by decide⟩) rfl rfl) (
  tkc (s_rZ (at_ dl_X2_goesThrough 38 (ins := .ireturn) rfl) rfl) (
  tkc (s_aload_n (at_ dl_X2_goesThrough 39 (ins := .aload_n 1) rfl)) (
  tkc (s_iload_n (at_ dl_X2_goesThrough 40 (ins := .iload_n 3) rfl)) (
  tkc (s_cV ok_X5_hasBit (at_ dl_X2_goesThrough 41 (ins := .invokevirtual 23) rfl) (by decide) rfl (tg 599 (by decide +kernel) (by decide +kernel)) (tg 396 (by decide +kernel) (by decide +kernel)) (tg 397 (by decide +kernel) (by decide +kernel)) (tg 45 (by decide +kernel) (by decide +kernel)) (tg 398 (by decide +kernel) (by decide +kernel)) (⟨by decide, by decide, by decide +kernel⟩) (⟨by decide, by decide⟩) rfl rfl) (
  tkc (s_if_eq (at_ dl_X2_goesThrough 42 (ins := .ifCond .eq 20) rfl) (by decide)) (
  tkc (s_iload (at_ dl_X2_goesThrough 43 (ins := .iload 4) rfl)) (
  tkc (s_aload_n (at_ dl_X2_goesThrough 44 (ins := .aload_n 1) rfl)) (
  tkc (s_cV ok_X5_word (at_ dl_X2_goesThrough 45 (ins := .invokevirtual 29) rfl) (by decide) rfl (tg 600 (by decide +kernel) (by decide +kernel)) (tg 361 (by decide +kernel) (by decide +kernel)) (tg 362 (by decide +kernel) (by decide +kernel)) (tg 45 (by decide +kernel) (by decide +kernel)) (tg 363 (by decide +kernel) (by decide +kernel)) (⟨by decide, by decide, by decide +kernel⟩) (⟨by decide, by decide⟩) rfl rfl) (
  tkc (s_iload_n (at_ dl_X2_goesThrough 46 (ins := .iload_n 3) rfl)) (
  tkc (s_ishr (at_ dl_X2_goesThrough 47 (ins := .ishr) rfl)) (
  tkc (s_iconst (at_ dl_X2_goesThrough 48 (ins := .iconst 1) rfl) (by first | rfl | decide)) (
  tkc (s_iand (at_ dl_X2_goesThrough 49 (ins := .iand) rfl)) (
  tkc (s_ic_ne (at_ dl_X2_goesThrough 50 (ins := .if_icmp .ne 7) rfl) (by decide)) (
  tkc (s_iconst (at_ dl_X2_goesThrough 51 (ins := .iconst 1) rfl) (by first | rfl | decide)) (
  tkc (s_goto (at_ dl_X2_goesThrough 52 (ins := .goto 4) rfl) (by decide)) (
  tkc (s_iconst (at_ dl_X2_goesThrough 53 (ins := .iconst 0) rfl) (by first | rfl | decide)) (
  tkc (s_rZ (at_ dl_X2_goesThrough 54 (ins := .ireturn) rfl) rfl) (
  tkc (s_iload_n (at_ dl_X2_goesThrough 55 (ins := .iload_n 3) rfl)) (
  tkc (s_if_ne (at_ dl_X2_goesThrough 56 (ins := .ifCond .ne 19) rfl) (by decide)) (
  tkc (s_iload (at_ dl_X2_goesThrough 57 (ins := .iload 4) rfl)) (
  tkc (s_if_ne (at_ dl_X2_goesThrough 58 (ins := .ifCond .ne 14) rfl) (by decide)) (
  tkc (s_aload_n (at_ dl_X2_goesThrough 59 (ins := .aload_n 1) rfl)) (
  tkc (s_cV ok_X5_solved (at_ dl_X2_goesThrough 60 (ins := .invokevirtual 33) rfl) (by decide) rfl (tg 601 (by decide +kernel) (by decide +kernel)) (tg 380 (by decide +kernel) (by decide +kernel)) (tg 381 (by decide +kernel) (by decide +kernel)) (tg 45 (by decide +kernel) (by decide +kernel)) (tg 382 (by decide +kernel) (by decide +kernel)) (⟨by decide, by decide, by decide +kernel⟩) (⟨by decide, by decide⟩) rfl rfl) (
  tkc (s_if_eq (at_ dl_X2_goesThrough 61 (ins := .ifCond .eq 7) rfl) (by decide)) (
  tkc (s_iconst (at_ dl_X2_goesThrough 62 (ins := .iconst 1) rfl) (by first | rfl | decide)) (
  tkc (s_goto (at_ dl_X2_goesThrough 63 (ins := .goto 4) rfl) (by decide)) (
  tkc (s_iconst (at_ dl_X2_goesThrough 64 (ins := .iconst 0) rfl) (by first | rfl | decide)) (
  tkc (s_rZ (at_ dl_X2_goesThrough 65 (ins := .ireturn) rfl) rfl) (
  tkc (s_aload_n (at_ dl_X2_goesThrough 66 (ins := .aload_n 1) rfl)) (
  tkc (s_iload_n (at_ dl_X2_goesThrough 67 (ins := .iload_n 3) rfl)) (
  tkc (s_cV ok_X5_hasCheck (at_ dl_X2_goesThrough 68 (ins := .invokevirtual 37) rfl) (by decide) rfl (tg 598 (by decide +kernel) (by decide +kernel)) (tg 392 (by decide +kernel) (by decide +kernel)) (tg 393 (by decide +kernel) (by decide +kernel)) (tg 45 (by decide +kernel) (by decide +kernel)) (tg 394 (by decide +kernel) (by decide +kernel)) (⟨by decide, by decide, by decide +kernel⟩) (⟨by decide, by decide⟩) rfl rfl) (
  tkc (s_if_eq (at_ dl_X2_goesThrough 69 (ins := .ifCond .eq 20) rfl) (by decide)) (
  tkc (s_iload (at_ dl_X2_goesThrough 70 (ins := .iload 4) rfl)) (
  tkc (s_aload_n (at_ dl_X2_goesThrough 71 (ins := .aload_n 1) rfl)) (
  tkc (s_cV ok_X5_open (at_ dl_X2_goesThrough 72 (ins := .invokevirtual 40) rfl) (by decide) rfl (tg 602 (by decide +kernel) (by decide +kernel)) (tg 365 (by decide +kernel) (by decide +kernel)) (tg 366 (by decide +kernel) (by decide +kernel)) (tg 45 (by decide +kernel) (by decide +kernel)) (tg 367 (by decide +kernel) (by decide +kernel)) (⟨by decide, by decide, by decide +kernel⟩) (⟨by decide, by decide⟩) rfl rfl) (
  tkc (s_iload_n (at_ dl_X2_goesThrough 73 (ins := .iload_n 3) rfl)) (
  tkc (s_ishr (at_ dl_X2_goesThrough 74 (ins := .ishr) rfl)) (
  tkc (s_iconst (at_ dl_X2_goesThrough 75 (ins := .iconst 1) rfl) (by first | rfl | decide)) (
  tkc (s_iand (at_ dl_X2_goesThrough 76 (ins := .iand) rfl)) (
  tkc (s_ic_ne (at_ dl_X2_goesThrough 77 (ins := .if_icmp .ne 7) rfl) (by decide)) (
  tkc (s_iconst (at_ dl_X2_goesThrough 78 (ins := .iconst 1) rfl) (by first | rfl | decide)) (
  tkc (s_goto (at_ dl_X2_goesThrough 79 (ins := .goto 4) rfl) (by decide)) (
  tkc (s_iconst (at_ dl_X2_goesThrough 80 (ins := .iconst 0) rfl) (by first | rfl | decide)) (
  tkc (s_rZ (at_ dl_X2_goesThrough 81 (ins := .ireturn) rfl) rfl) (
  tkc (s_iload_n (at_ dl_X2_goesThrough 82 (ins := .iload_n 3) rfl)) (
  tkc (s_if_ne (at_ dl_X2_goesThrough 83 (ins := .ifCond .ne 16) rfl) (by decide)) (
  tkc (s_iload (at_ dl_X2_goesThrough 84 (ins := .iload 4) rfl)) (
  tkc (s_aload_n (at_ dl_X2_goesThrough 85 (ins := .aload_n 1) rfl)) (
  tkc (s_cS ok_X2_offsets (at_ dl_X2_goesThrough 86 (ins := .invokestatic 43) rfl) (tg 603 (by decide +kernel) (by decide +kernel)) (tg 604 (by decide +kernel) (by decide +kernel)) (tg 54 (by decide +kernel) (by decide +kernel)) (tg 605 (by decide +kernel) (by decide +kernel)) (⟨by decide, by decide, by decide +kernel⟩) (⟨by decide, by decide⟩) rfl rfl) (
  tkc (s_if_eq (at_ dl_X2_goesThrough 87 (ins := .ifCond .eq 7) rfl) (by decide)) (
  tkc (s_iconst (at_ dl_X2_goesThrough 88 (ins := .iconst 1) rfl) (by first | rfl | decide)) (
  tkc (s_goto (at_ dl_X2_goesThrough 89 (ins := .goto 4) rfl) (by decide)) (
  tkc (s_iconst (at_ dl_X2_goesThrough 90 (ins := .iconst 0) rfl) (by first | rfl | decide)) (
  tkc (s_rZ (at_ dl_X2_goesThrough 91 (ins := .ireturn) rfl) rfl) (
  tkc (s_iconst (at_ dl_X2_goesThrough 92 (ins := .iconst 0) rfl) (by first | rfl | decide)) (
  tkc (s_rZ (at_ dl_X2_goesThrough 93 (ins := .ireturn) rfl) rfl) ( tk0))))))))))))))))))))))))))))))))))))))))))))))))))))))))))))))))))))))))))))))))))))))))))))))
theorem lf_X2_goesThrough : lk (tb_X2_goesThrough) 0 = (x_il 1 0, false) ∧ lk (tb_X2_goesThrough) 1 = (x_c 3 (.int 10), false) ∧ lk (tb_X2_goesThrough) 3 = (x_iq 4 (fun x y : Int32 => x / y), false) ∧ lk (tb_X2_goesThrough) 4 = (x_c 6 (.int 10), false) ∧ lk (tb_X2_goesThrough) 6 = (x_iq 7 (fun x y : Int32 => x - x / y * y), false) ∧ lk (tb_X2_goesThrough) 7 = (x_is 8 3, false) ∧ lk (tb_X2_goesThrough) 8 = (x_il 9 0, false) ∧ lk (tb_X2_goesThrough) 9 = (x_c 11 (.int 10), false) ∧ lk (tb_X2_goesThrough) 11 = (x_iq 12 (fun x y : Int32 => x - x / y * y), false) ∧ lk (tb_X2_goesThrough) 12 = (x_is 14 4, false) ∧ lk (tb_X2_goesThrough) 14 = (x_il 15 0, false) ∧ lk (tb_X2_goesThrough) 15 = (x_c 17 (.int 100), false) ∧ lk (tb_X2_goesThrough) 17 = (x_iq 18 (fun x y : Int32 => x / y), false) ∧ lk (tb_X2_goesThrough) 18 = (x_sw 1 7 [60, 73, 95, 103, 130, 152, 179] 198, false) ∧ lk (tb_X2_goesThrough) 60 = (x_il 61 3, false) ∧ lk (tb_X2_goesThrough) 61 = (x_c 63 (.int 10), false) ∧ lk (tb_X2_goesThrough) 63 = (x_ii 64 (fun x y : Int32 => x * y), false) ∧ lk (tb_X2_goesThrough) 64 = (x_il 66 4, false) ∧ lk (tb_X2_goesThrough) 66 = (x_ii 67 (fun x y : Int32 => x + y), false) ∧ lk (tb_X2_goesThrough) 67 = (x_al 68 1, false) ∧ lk (tb_X2_goesThrough) 68 = (x_al 69 2, false) ∧ lk (tb_X2_goesThrough) 69 = (x_cS 3 P_X2_runs 72, false) ∧ lk (tb_X2_goesThrough) 72 = (x_rZ, false) ∧ lk (tb_X2_goesThrough) 73 = (x_il 74 3, false) ∧ lk (tb_X2_goesThrough) 74 = (x_ifn 93 77 (fun x : Int32 => x = 0), false) ∧ lk (tb_X2_goesThrough) 77 = (x_il 79 4, false) ∧ lk (tb_X2_goesThrough) 79 = (x_ifn 93 82 (fun x : Int32 => x = 0), false) ∧ lk (tb_X2_goesThrough) 82 = (x_al 83 1, false) ∧ lk (tb_X2_goesThrough) 83 = (x_cS 1 P_X2_begins 86, false) ∧ lk (tb_X2_goesThrough) 86 = (x_if 93 89 (fun x : Int32 => x = 0), false) ∧ lk (tb_X2_goesThrough) 89 = (x_c 90 (.int 1), false) ∧ lk (tb_X2_goesThrough) 90 = (x_go 94, false) ∧ lk (tb_X2_goesThrough) 93 = (x_c 94 (.int 0), false) ∧ lk (tb_X2_goesThrough) 94 = (x_rZ, false) ∧ lk (tb_X2_goesThrough) 95 = (x_il 96 3, false) ∧ lk (tb_X2_goesThrough) 96 = (x_il 98 4, false) ∧ lk (tb_X2_goesThrough) 98 = (x_al 99 1, false) ∧ lk (tb_X2_goesThrough) 99 = (x_cS 3 P_X2_puts 102, false) ∧ lk (tb_X2_goesThrough) 102 = (x_rZ, false) ∧ lk (tb_X2_goesThrough) 103 = (x_al 104 1, false) ∧ lk (tb_X2_goesThrough) 104 = (x_il 105 3, false) ∧ lk (tb_X2_goesThrough) 105 = (x_cV 5 1 P_X5_hasBit 108, false) ∧ lk (tb_X2_goesThrough) 108 = (x_if 128 111 (fun x : Int32 => x = 0), false) ∧ lk (tb_X2_goesThrough) 111 = (x_il 113 4, false) ∧ lk (tb_X2_goesThrough) 113 = (x_al 114 1, false) ∧ lk (tb_X2_goesThrough) 114 = (x_cV 5 0 P_X5_word 117, false) ∧ lk (tb_X2_goesThrough) 117 = (x_il 118 3, false) ∧ lk (tb_X2_goesThrough) 118 = (x_ii 119 (fun x y : Int32 => x >>> (y &&& 31)), false) ∧ lk (tb_X2_goesThrough) 119 = (x_c 120 (.int 1), false) ∧ lk (tb_X2_goesThrough) 120 = (x_ii 121 (fun x y : Int32 => x &&& y), false) ∧ lk (tb_X2_goesThrough) 121 = (x_icn 128 124 (fun x y : Int32 => x = y), false) ∧ lk (tb_X2_goesThrough) 124 = (x_c 125 (.int 1), false) ∧ lk (tb_X2_goesThrough) 125 = (x_go 129, false) ∧ lk (tb_X2_goesThrough) 128 = (x_c 129 (.int 0), false) ∧ lk (tb_X2_goesThrough) 129 = (x_rZ, false) ∧ lk (tb_X2_goesThrough) 130 = (x_il 131 3, false) ∧ lk (tb_X2_goesThrough) 131 = (x_ifn 150 134 (fun x : Int32 => x = 0), false) ∧ lk (tb_X2_goesThrough) 134 = (x_il 136 4, false) ∧ lk (tb_X2_goesThrough) 136 = (x_ifn 150 139 (fun x : Int32 => x = 0), false) ∧ lk (tb_X2_goesThrough) 139 = (x_al 140 1, false) ∧ lk (tb_X2_goesThrough) 140 = (x_cV 5 0 P_X5_solved 143, false) ∧ lk (tb_X2_goesThrough) 143 = (x_if 150 146 (fun x : Int32 => x = 0), false) ∧ lk (tb_X2_goesThrough) 146 = (x_c 147 (.int 1), false) ∧ lk (tb_X2_goesThrough) 147 = (x_go 151, false) ∧ lk (tb_X2_goesThrough) 150 = (x_c 151 (.int 0), false) ∧ lk (tb_X2_goesThrough) 151 = (x_rZ, false) ∧ lk (tb_X2_goesThrough) 152 = (x_al 153 1, false) ∧ lk (tb_X2_goesThrough) 153 = (x_il 154 3, false) ∧ lk (tb_X2_goesThrough) 154 = (x_cV 5 1 P_X5_hasCheck 157, false) ∧ lk (tb_X2_goesThrough) 157 = (x_if 177 160 (fun x : Int32 => x = 0), false) ∧ lk (tb_X2_goesThrough) 160 = (x_il 162 4, false) ∧ lk (tb_X2_goesThrough) 162 = (x_al 163 1, false) ∧ lk (tb_X2_goesThrough) 163 = (x_cV 5 0 P_X5_open 166, false) ∧ lk (tb_X2_goesThrough) 166 = (x_il 167 3, false) ∧ lk (tb_X2_goesThrough) 167 = (x_ii 168 (fun x y : Int32 => x >>> (y &&& 31)), false) ∧ lk (tb_X2_goesThrough) 168 = (x_c 169 (.int 1), false) ∧ lk (tb_X2_goesThrough) 169 = (x_ii 170 (fun x y : Int32 => x &&& y), false) ∧ lk (tb_X2_goesThrough) 170 = (x_icn 177 173 (fun x y : Int32 => x = y), false) ∧ lk (tb_X2_goesThrough) 173 = (x_c 174 (.int 1), false) ∧ lk (tb_X2_goesThrough) 174 = (x_go 178, false) ∧ lk (tb_X2_goesThrough) 177 = (x_c 178 (.int 0), false) ∧ lk (tb_X2_goesThrough) 178 = (x_rZ, false) ∧ lk (tb_X2_goesThrough) 179 = (x_il 180 3, false) ∧ lk (tb_X2_goesThrough) 180 = (x_ifn 196 183 (fun x : Int32 => x = 0), false) ∧ lk (tb_X2_goesThrough) 183 = (x_il 185 4, false) ∧ lk (tb_X2_goesThrough) 185 = (x_al 186 1, false) ∧ lk (tb_X2_goesThrough) 186 = (x_cS 2 P_X2_offsets 189, false) ∧ lk (tb_X2_goesThrough) 189 = (x_if 196 192 (fun x : Int32 => x = 0), false) ∧ lk (tb_X2_goesThrough) 192 = (x_c 193 (.int 1), false) ∧ lk (tb_X2_goesThrough) 193 = (x_go 197, false) ∧ lk (tb_X2_goesThrough) 196 = (x_c 197 (.int 0), false) ∧ lk (tb_X2_goesThrough) 197 = (x_rZ, false) ∧ lk (tb_X2_goesThrough) 198 = (x_c 199 (.int 0), false) ∧ lk (tb_X2_goesThrough) 199 = (x_rZ, false) := ⟨rfl, rfl, rfl, rfl, rfl, rfl, rfl, rfl, rfl, rfl, rfl, rfl, rfl, rfl, rfl, rfl, rfl, rfl, rfl, rfl, rfl, rfl, rfl, rfl, rfl, rfl, rfl, rfl, rfl, rfl, rfl, rfl, rfl, rfl, rfl, rfl, rfl, rfl, rfl, rfl, rfl, rfl, rfl, rfl, rfl, rfl, rfl, rfl, rfl, rfl, rfl, rfl, rfl, rfl, rfl, rfl, rfl, rfl, rfl, rfl, rfl, rfl, rfl, rfl, rfl, rfl, rfl, rfl, rfl, rfl, rfl, rfl, rfl, rfl, rfl, rfl, rfl, rfl, rfl, rfl, rfl, rfl, rfl, rfl, rfl, rfl, rfl, rfl, rfl, rfl, rfl, rfl, rfl, rfl⟩
def P_X2_goesThrough : PTT := fun as M R => match as with
  | [.int x, .ref k, .ref d] => k = 10 ∧ d = 15 ∧ IsSt M.1 10 ∧ IsDc M.1 ∧ ∃ w a, w < 1000 ∧ x = nI w ∧ SR M.2.1 10 a ∧ AOk a ∧ OrdId M.2.1 ∧ ∀ I', frT M.2.1 I' → SR I' 10 (doJ a w).2 → R (some (.int (bB (doJ a w).1))) (M.1, I', M.2.2)
  | _ => False
theorem nI100 : (100 : Int32) = nI 100 := by decide
theorem h100 : ¬ nI 100 = 0 := by decide
theorem in_lt {x m : Nat} (hx : x < 2 ^ 31) (hm : m < 2 ^ 31) : (¬ nI x < 0 ∧ ¬ nI m ≤ nI x) ↔ x < m := by
  rw [nI_leI hm hx]
  constructor
  · intro h; omega
  · intro h; exact ⟨nI_pos hx, by omega⟩
set_option maxRecDepth 20000 in
theorem ok_X2_goesThrough : Ok yX2_goesThrough mt_X2_goesThrough P_X2_goesThrough := by
  refine Ok.of (by decide) rfl rfl rfl rfl fun av ⟨S, I, L⟩ R hP => ?_
  unfold P_X2_goesThrough at hP
  split at hP
  case h_2 => exact hP.elim
  rename_i x k d
  obtain ⟨k, rfl⟩ : ∃ q : Nat, q = k := ⟨k, rfl⟩
  obtain ⟨d, rfl⟩ : ∃ q : Nat, q = d := ⟨d, rfl⟩
  refine ⟨by simp [ent, wide, mt_X2_goesThrough], ?_⟩
  show J mt_X2_goesThrough R 0 [some (.int x), some (.ref k), some (.ref d), none, none] [] (S, I, L)
  try dsimp only at hP
  obtain ⟨rfl, rfl, hk, hd, w, a, hw, rfl, hs, ha, hor, hR⟩ := hP
  have hn9 := ha.1
  have f1 : nI w / nI 10 = nI (w / 10) := pk_div (by omega) (by omega) (by omega)
  have f2 : nI (w / 10) / nI 10 = nI (w / 10 / 10) := pk_div (by omega) (by omega) (by omega)
  have f3 : nI (w / 10) - nI (w / 10 / 10) * nI 10 = nI (w / 10 % 10) := by rw [← f2]; exact pk_rem (by omega) (by omega) (by omega)
  have f4 : nI w - nI (w / 10) * nI 10 = nI (w % 10) := by rw [← f1]; exact pk_rem (by omega) (by omega) (by omega)
  have f5 : nI w / nI 100 = nI (w / 100) := pk_div (by omega) (by omega) (by omega)
  have f6 : (nI (w / 100)).toInt = ((w / 100 : Nat) : Int) := nI_toInt (by omega)
  have f7 : nI (w / 10 % 10) * nI 10 + nI (w % 10) = nI (10 * (w / 10 % 10) + w % 10) := by rw [pk_mul, nI_add, Nat.mul_comm]
  have z1 : nI (w / 10 % 10) = 0 ↔ w / 10 % 10 = 0 := nI_z (by omega)
  have z2 : nI (w % 10) = 0 ↔ w % 10 = 0 := nI_z (by omega)
  have hsv := hs.SV ha
  have hap : ap15 10 := Or.inl (by omega)
  have hq := hsv.q
  have hn : I 10 4 = nI (aN a) := hs.1
  have hm : I 10 5 = nI (aM a) := hs.2.1
  have c1 : (¬ nI (w / 10 % 10) < 0 ∧ ¬ nI (aN a) ≤ nI (w / 10 % 10)) ↔ w / 10 % 10 < aN a := in_lt (by omega) (by omega)
  have c2 : (¬ nI (w / 10 % 10) < 0 ∧ ¬ nI (aM a) ≤ nI (w / 10 % 10)) ↔ w / 10 % 10 < aM a := in_lt (by omega) (by omega)
  have x1 : ∃ n', n' ≤ 9 ∧ nI (aN a) = nI n' := ⟨_, hn9.2.1, rfl⟩
  have hwd : wdF (I (10 + 3)) (tn (nI (aN a))) = wdA a := by have := hs.wd ha; rwa [hn] at this
  have hop : opS I 10 = opA a := hs.op ha
  have hwl : wdA a < 512 := wdF_lt _ hn9.2.1
  have hol : opA a < 64 := opB_lt hn9.2.2
  have b1 : (nI (wdA a) >>> (nI (w / 10 % 10) &&& 31)) &&& 1 = nI (if (wdA a).testBit (w / 10 % 10) then 1 else 0) := bitAt (by omega) (by omega)
  have b2 : (nI (opA a) >>> (nI (w / 10 % 10) &&& 31)) &&& 1 = nI (if (opA a).testBit (w / 10 % 10) then 1 else 0) := bitAt (by omega) (by omega)
  have b3 : nI (w % 10) = nI (if (wdA a).testBit (w / 10 % 10) then 1 else 0) ↔ w % 10 = if (wdA a).testBit (w / 10 % 10) then 1 else 0 := nI_eq (by omega) (by split <;> omega)
  have b4 : nI (w % 10) = nI (if (opA a).testBit (w / 10 % 10) then 1 else 0) ↔ w % 10 = if (opA a).testBit (w / 10 % 10) then 1 else 0 := nI_eq (by omega) (by split <;> omega)
  have fin : ∀ I' v, frT I I' → SR I' 10 (doJ a w).2 → bB (doJ a w).1 = v → R (some (.int v)) (S, I', L) := fun I' v h1 h2 h3 => by
    have := hR I' h1 h2; rwa [h3] at this
  have fr0 : frT I I := fun _ _ _ _ => rfl
  refine J.of tk_X2_goesThrough 200 fun ρ hρ => ?_
  simp only [hρ, x_c, x_il, x_ll, x_al, x_is, x_as, x_ls, x_inc, x_ii, x_iq, x_i1, x_l2, x_lq, x_lh, x_i2l, x_l2i, x_lcmp, x_dup, x_dup2, x_pop, x_if, x_ifn, x_ic, x_icn, x_go, x_sw, swc, x_l01, x_mx, x_gI, x_gL, x_gR, x_pI, x_pZ, x_pL, x_pR, x_ia, x_za, x_aa, x_ias, x_zas, x_aas, x_fac, x_fa, x_slen, x_sa, x_ac, x_oi, x_new, x_na, x_cS, x_cV, x_cI, x_rI, x_rZ, x_rL, x_r0, pa, short, oc, lg, lset, lset2, wide, cond_true, cond_false, true_and, and_true, ↓reduceIte, Bool.false_eq_true, true_or, or_true, lf_X2_goesThrough, hk, hd, hk.f, hd.f, hap, hq, nI10, ten0, nI100, h100, f1, f2, f3, f4, f5, f6, f7, hn, hm, x1, P_X2_runs, P_X2_begins, P_X2_puts, P_X2_offsets, P_X5_hasBit, P_X5_hasCheck, P_X5_word, P_X5_solved, P_X5_open, hwd, hop, bI_0, bI_or, Classical.not_not, c1, c2, b1, b2, b3, b4, z1, z2, not_false_eq_true, reduceCtorEq]
  have fin2 : ∀ I' v b a', frT I I' → SR I' 10 a' → doJ a w = (b, a') → bB b = v → R (some (.int v)) (S, I', L) := fun I' v b a' h1 h2 h3 h4 => fin I' v h1 (by rw [h3]; exact h2) (by rw [h3]; exact h4)
  have bd : ∀ (q : Prop) [Decidable q], ¬ q → bB (decide q) = 0 := fun q _ h => by rw [decide_eq_false h]; rfl
  have bt : ∀ (q : Prop) [Decidable q], q → bB (decide q) = 1 := fun q _ h => by rw [decide_eq_true h]; rfl
  refine ⟨⟨fun h => ?_, fun h => ?_, fun h => ?_, fun h => ?_, fun h => ?_, fun h => ?_, fun h => ?_⟩, fun h => ?_⟩
  · have hh : w / 100 = 1 := by omega
    have e := doJ_1 (a := a) hh
    refine ⟨aN a, aM a, 10 * (w / 10 % 10) + w % 10, hsv, hor.V hn9.2.2, by omega, rfl, fun I' g1 g2 g3 => ⟨?_, ?_⟩⟩
    · by_cases hz : 10 * (w / 10 % 10) + w % 10 = 0
      · exact Or.inl hz
      · exact Or.inr (bI_t hz)
    · refine fin2 I' _ _ _ (fun q q1 q2 q3 => g1 q (by omega) (by omega) (by omega) q2 q3) (SR.it hs ha hor (g1 11 (by omega) (by omega) (by omega) (by omega) (by omega)) (g1 12 (by omega) (by omega) (by omega) (by omega) (by omega)) g2 g3) e ?_
      by_cases hz : 10 * (w / 10 % 10) + w % 10 = 0
      · rw [bI_f (fun q => q hz), bd _ (fun q => q hz)]
      · rw [bI_t hz, bt _ hz]
  · have hh : w / 100 = 2 := by omega
    refine ⟨fun h1 => fin2 I 0 false a fr0 hs (by unfold doJ; rw [if_neg (by omega), if_pos hh, if_neg (fun q => h1 q.1)]) rfl, fun h1 => ⟨fun h2 => fin2 I 0 false a fr0 hs (by unfold doJ; rw [if_neg (by omega), if_pos hh, if_neg (fun q => h2 q.2)]) rfl, fun h2 => ⟨fun q => absurd q (by decide), fun _ => ?_⟩⟩⟩
    exact fin2 _ 1 true (begA a) (fun q q1 q2 q3 => beg_r (by omega) (by omega) (by omega)) hs.beg (by unfold doJ; rw [if_neg (by omega), if_pos hh, if_pos ⟨h1, h2⟩]) rfl
  · have hh : w / 100 = 3 := by omega
    refine ⟨aN a, aM a, hn9.2.1, hn9.2.2, rfl, rfl, fun h1 => ?_, fun h1 => ?_⟩
    · rw [in_lt (by omega) (by omega), in_lt (by omega) (by omega)] at h1
      exact fin2 _ 1 true (putA a (w / 10 % 10) (w % 10)) (fun q q1 q2 q3 => by unfold putI; rw [mS_n (by omega), mS_n (by omega)]) (hs.put ha h1.1 h1.2) (by unfold doJ; rw [if_neg (by omega), if_neg (by omega), if_pos hh, if_pos h1]) rfl
    · rw [in_lt (by omega) (by omega), in_lt (by omega) (by omega)] at h1
      exact fin2 I 0 false a fr0 hs (by unfold doJ; rw [if_neg (by omega), if_neg (by omega), if_pos hh, if_neg h1]) rfl
  · have hh : w / 100 = 4 := by omega
    have e := doJ_4 (a := a) hh
    exact ⟨fun h1 => fin2 I 0 _ a fr0 hs e (bd _ (fun q => h1 q.1)), fun h1 => ⟨fun h2 => fin2 I 0 _ a fr0 hs e (bd _ (fun q => h2 q.2)), fun h2 => fin2 I 1 _ a fr0 hs e (bt _ ⟨h1, h2⟩)⟩⟩
  · have hh : w / 100 = 5 := by omega
    have e := doJ_5 (a := a) hh
    exact ⟨fun h1 => fin2 I 0 _ a fr0 hs e (bd _ (fun q => h1 q.1.1)), fun h1 => ⟨fun h2 => fin2 I 0 _ a fr0 hs e (bd _ (fun q => h2 q.1.2)), fun h2 => ⟨fun h3 => fin2 I 0 _ a fr0 hs e (bd _ (fun q => h3 q.2)), fun h3 => fin2 I 1 _ a fr0 hs e (bt _ ⟨⟨h1, h2⟩, h3⟩)⟩⟩⟩
  · have hh : w / 100 = 6 := by omega
    have e := doJ_6 (a := a) hh
    exact ⟨fun h1 => fin2 I 0 _ a fr0 hs e (bd _ (fun q => h1 q.1)), fun h1 => ⟨fun h2 => fin2 I 0 _ a fr0 hs e (bd _ (fun q => h2 q.2)), fun h2 => fin2 I 1 _ a fr0 hs e (bt _ ⟨h1, h2⟩)⟩⟩
  · have hh : w / 100 = 7 := by omega
    refine ⟨fun h1 => fin2 I 0 false a fr0 hs (by unfold doJ; rw [if_neg (by omega), if_neg (by omega), if_neg (by omega), if_neg (by omega), if_neg (by omega), if_neg (by omega), if_pos hh, if_neg h1]) rfl, fun h1 => ⟨fun q => absurd q (by decide), fun _ => ?_⟩⟩
    refine fin2 _ 1 true (a.1, a.2.1, nI (w % 10), a.2.2.2) (fun q q1 q2 q3 => mS_n (by omega)) ?_ (by unfold doJ; rw [if_neg (by omega), if_neg (by omega), if_neg (by omega), if_neg (by omega), if_neg (by omega), if_neg (by omega), if_pos hh, if_pos h1]) rfl
    obtain ⟨g1, g2, g3, g4, g5, g6, g7⟩ := hs
    exact ⟨g1, g2, rfl, g4, g5, g6, g7⟩
  · exact fin2 I 0 false a fr0 hs (by unfold doJ; rw [if_neg (by omega), if_neg (by omega), if_neg (by omega), if_neg (by omega), if_neg (by omega), if_neg (by omega), if_neg (by omega)]) rfl
end
section
/-! SUMS, at 19 (basis 20), of the state at 5 -/
def IsSu (S : Sh) : Prop := tO S 19 6 ∧ sR S 19 0 = 5 ∧ sR S 19 1 = 20 ∧ tA S 20 1 ∧ ln S 20 = 9
theorem IsSu.f {S : Sh} (h : IsSu S) : tO S 19 6 ∧ sR S 19 0 = 5 ∧ sR S 19 1 = 20 ∧ tA S 20 1 ∧ ln S 20 = 9 := h
/-- a set into a basis, by its highest bits -/
def ins : Nat → (Nat → Nat) → Nat → Bool × (Nat → Nat)
  | 0, B, _ => (false, B)
  | d + 1, B, x => if x.testBit d = true then (if B d = 0 then (true, va_up B d x) else ins d B (x ^^^ B d)) else ins d B x
theorem xor512 {a b : Nat} (ha : a < 512) (hb : b < 512) : a ^^^ b < 512 := Nat.xor_lt_two_pow (n := 9) ha hb
theorem ins_lt {B : Nat → Nat} (hB : ∀ b, b < 9 → B b < 512) : ∀ {d x : Nat}, d ≤ 9 → x < 512 → ∀ b, b < 9 → (ins d B x).2 b < 512
  | 0, x, _, _, b, hb => hB b hb
  | d + 1, x, hd, hx, b, hb => by
    simp only [ins]
    split
    · split
      · simp only [va_up]
        split
        · exact hx
        · exact hB b hb
      · exact ins_lt hB (by omega) (xor512 hx (hB d (by omega))) b hb
    · exact ins_lt hB (by omega) hx b hb
theorem ins_congr {B B' : Nat → Nat} (h : ∀ b, b < 9 → B b = B' b) : ∀ {d x : Nat}, d ≤ 9 → (ins d B x).1 = (ins d B' x).1 ∧ ∀ b, b < 9 → (ins d B x).2 b = (ins d B' x).2 b
  | 0, x, _ => ⟨rfl, h⟩
  | d + 1, x, hd => by
    simp only [ins]
    rw [h d (by omega)]
    split
    · split
      · refine ⟨rfl, fun b hb => ?_⟩
        simp only [va_up]
        rw [h b hb]
      · exact ins_congr h (by omega)
    · exact ins_congr h (by omega)
theorem ins_no {B : Nat → Nat} : ∀ {d x : Nat}, ¬ (ins d B x).1 = true → (ins d B x).2 = B
  | 0, x, _ => rfl
  | d + 1, x, h => by
    revert h
    simp only [ins]
    split
    · split
      · intro h; exact absurd rfl h
      · exact ins_no
    · exact ins_no
/-- rank of some of the first c sets, and the basis -/
def rkS (ov : Nat → Nat) (s : Nat) : Nat → Nat × (Nat → Nat)
  | 0 => (0, fun _ => 0)
  | c + 1 => if s.testBit c = true then ((rkS ov s c).1 + (if (ins 9 (rkS ov s c).2 (ov c)).1 = true then 1 else 0), (ins 9 (rkS ov s c).2 (ov c)).2) else rkS ov s c
theorem rkS_lt {ov : Nat → Nat} {s : Nat} : ∀ {c : Nat}, (∀ i, i < c → ov i < 512) → ∀ b, b < 9 → (rkS ov s c).2 b < 512
  | 0, _, b, _ => by simp [rkS]
  | c + 1, h, b, hb => by
    simp only [rkS]
    split
    · exact ins_lt (rkS_lt (fun i hi => h i (by omega))) (Nat.le_refl 9) (h c (by omega)) b hb
    · exact rkS_lt (fun i hi => h i (by omega)) b hb
theorem rkS_le (ov : Nat → Nat) (s : Nat) : ∀ c, (rkS ov s c).1 ≤ c
  | 0 => Nat.le_refl _
  | c + 1 => by
    have := rkS_le ov s c
    simp only [rkS]
    split
    · simp only; split <;> omega
    · omega
theorem rkS_congr {ov ov' : Nat → Nat} {s s' : Nat} : ∀ {c : Nat}, (∀ i, i < c → ov i = ov' i) → (∀ i, i < c → s.testBit i = s'.testBit i) → rkS ov s c = rkS ov' s' c
  | 0, _, _ => rfl
  | c + 1, h, h2 => by
    simp only [rkS]
    rw [rkS_congr (fun i hi => h i (by omega)) (fun i hi => h2 i (by omega)), h c (by omega), h2 c (by omega)]
def il_X6_joinsBasis : List (Nat × Instr × Nat) := [(0, .iload_n 1, 1), (1, .istore_n 2, 1), (2, .bipush 8, 2), (4, .istore_n 3, 1), (5, .iload_n 3, 1), (6, .ifCond .lt 44, 3), (9, .iload_n 2, 1), (10, .iload_n 3, 1), (11, .ishr, 1), (12, .iconst 1, 1), (13, .iand, 1), (14, .ifCond .eq 30, 3), (17, .aload_n 0, 1), (18, .getfield 15, 3), (21, .iload_n 3, 1), (22, .iaload, 1), (23, .ifCond .ne 12, 3), (26, .aload_n 0, 1), (27, .getfield 15, 3), (30, .iload_n 3, 1), (31, .iload_n 2, 1), (32, .iastore, 1), (33, .iconst 1, 1), (34, .ireturn, 1), (35, .iload_n 2, 1), (36, .aload_n 0, 1), (37, .getfield 15, 3), (40, .iload_n 3, 1), (41, .iaload, 1), (42, .ixor, 1), (43, .istore_n 2, 1), (44, .iinc 3 (-1), 3), (47, .goto (-42), 3), (50, .iconst 0, 1), (51, .ireturn, 1)]
def mt_X6_joinsBasis : Mt := (cX6_joinsBasis, RX6, 4, (some .boolean), ({ frames := 0, cells := 0, slots := 0, locals := 0 } : Room), false, none, none)
set_option maxRecDepth 100000 in
theorem dl_X6_joinsBasis : ∀ q ∈ il_X6_joinsBasis, decode (mt_X6_joinsBasis).1 q.1 = .ok q.2 := by decide +kernel
def tb_X6_joinsBasis : Tb := [(0, x_il 1 1, false),
  (1, x_is 2 2, false),
  (2, x_c 4 (.int 8), false),
  (4, x_is 5 3, false),
  (5, x_il 6 3, true),
  (6, x_if 50 9 (fun x : Int32 => x < 0), false),
  (9, x_il 10 2, false),
  (10, x_il 11 3, false),
  (11, x_ii 12 (fun x y : Int32 => x >>> (y &&& 31)), false),
  (12, x_c 13 (.int 1), false),
  (13, x_ii 14 (fun x y : Int32 => x &&& y), false),
  (14, x_if 44 17 (fun x : Int32 => x = 0), false),
  (17, x_al 18 0, false),
  (18, x_gR 6 1 21, false),
  (21, x_il 22 3, false),
  (22, x_ia 23, false),
  (23, x_ifn 35 26 (fun x : Int32 => x = 0), false),
  (26, x_al 27 0, false),
  (27, x_gR 6 1 30, false),
  (30, x_il 31 3, false),
  (31, x_il 32 2, false),
  (32, x_ias 33, false),
  (33, x_c 34 (.int 1), false),
  (34, x_rZ, false),
  (35, x_il 36 2, false),
  (36, x_al 37 0, false),
  (37, x_gR 6 1 40, false),
  (40, x_il 41 3, false),
  (41, x_ia 42, false),
  (42, x_ii 43 (fun x y : Int32 => x ^^^ y), false),
  (43, x_is 44 2, false),
  (44, x_inc 47 3 (-1), false),
  (47, x_go 5, false),
  (50, x_c 51 (.int 0), false),
  (51, x_rZ, false)]
set_option maxRecDepth 100000 in
theorem tk_X6_joinsBasis : TbOk (mt_X6_joinsBasis) (tb_X6_joinsBasis) :=
  tkc (s_iload_n (at_ dl_X6_joinsBasis 0 (ins := .iload_n 1) rfl)) (
  tkc (s_istore_n (at_ dl_X6_joinsBasis 1 (ins := .istore_n 2) rfl) (by decide)) (
  tkc (s_bipush (at_ dl_X6_joinsBasis 2 (ins := .bipush 8) rfl) (by first | rfl | decide)) (
  tkc (s_istore_n (at_ dl_X6_joinsBasis 3 (ins := .istore_n 3) rfl) (by decide)) (
  tkc (s_iload_n (at_ dl_X6_joinsBasis 4 (ins := .iload_n 3) rfl)) (
  tkc (s_if_lt (at_ dl_X6_joinsBasis 5 (ins := .ifCond .lt 44) rfl) (by decide)) (
  tkc (s_iload_n (at_ dl_X6_joinsBasis 6 (ins := .iload_n 2) rfl)) (
  tkc (s_iload_n (at_ dl_X6_joinsBasis 7 (ins := .iload_n 3) rfl)) (
  tkc (s_ishr (at_ dl_X6_joinsBasis 8 (ins := .ishr) rfl)) (
  tkc (s_iconst (at_ dl_X6_joinsBasis 9 (ins := .iconst 1) rfl) (by first | rfl | decide)) (
  tkc (s_iand (at_ dl_X6_joinsBasis 10 (ins := .iand) rfl)) (
  tkc (s_if_eq (at_ dl_X6_joinsBasis 11 (ins := .ifCond .eq 30) rfl) (by decide)) (
  tkc (s_aload_n (at_ dl_X6_joinsBasis 12 (ins := .aload_n 0) rfl)) (
  tkc (s_gR (at_ dl_X6_joinsBasis 13 (ins := .getfield 15) rfl) (by decide) (by decide) (by decide) (tg 211 (by decide +kernel) (by decide +kernel))) (
  tkc (s_iload_n (at_ dl_X6_joinsBasis 14 (ins := .iload_n 3) rfl)) (
  tkc (s_ia (at_ dl_X6_joinsBasis 15 (ins := .iaload) rfl)) (
  tkc (s_if_ne (at_ dl_X6_joinsBasis 16 (ins := .ifCond .ne 12) rfl) (by decide)) (
  tkc (s_aload_n (at_ dl_X6_joinsBasis 17 (ins := .aload_n 0) rfl)) (
  tkc (s_gR (at_ dl_X6_joinsBasis 18 (ins := .getfield 15) rfl) (by decide) (by decide) (by decide) (tg 211 (by decide +kernel) (by decide +kernel))) (
  tkc (s_iload_n (at_ dl_X6_joinsBasis 19 (ins := .iload_n 3) rfl)) (
  tkc (s_iload_n (at_ dl_X6_joinsBasis 20 (ins := .iload_n 2) rfl)) (
  tkc (s_ias (at_ dl_X6_joinsBasis 21 (ins := .iastore) rfl)) (
  tkc (s_iconst (at_ dl_X6_joinsBasis 22 (ins := .iconst 1) rfl) (by first | rfl | decide)) (
  tkc (s_rZ (at_ dl_X6_joinsBasis 23 (ins := .ireturn) rfl) rfl) (
  tkc (s_iload_n (at_ dl_X6_joinsBasis 24 (ins := .iload_n 2) rfl)) (
  tkc (s_aload_n (at_ dl_X6_joinsBasis 25 (ins := .aload_n 0) rfl)) (
  tkc (s_gR (at_ dl_X6_joinsBasis 26 (ins := .getfield 15) rfl) (by decide) (by decide) (by decide) (tg 211 (by decide +kernel) (by decide +kernel))) (
  tkc (s_iload_n (at_ dl_X6_joinsBasis 27 (ins := .iload_n 3) rfl)) (
  tkc (s_ia (at_ dl_X6_joinsBasis 28 (ins := .iaload) rfl)) (
  tkc (s_ixor (at_ dl_X6_joinsBasis 29 (ins := .ixor) rfl)) (
  tkc (s_istore_n (at_ dl_X6_joinsBasis 30 (ins := .istore_n 2) rfl) (by decide)) (
  tkc (s_iinc (at_ dl_X6_joinsBasis 31 (ins := .iinc 3 (-1)) rfl) (by decide) (by first | rfl | decide)) (
  tkc (s_goto (at_ dl_X6_joinsBasis 32 (ins := .goto (-42)) rfl) (by decide)) (
  tkc (s_iconst (at_ dl_X6_joinsBasis 33 (ins := .iconst 0) rfl) (by first | rfl | decide)) (
  tkc (s_rZ (at_ dl_X6_joinsBasis 34 (ins := .ireturn) rfl) rfl) ( tk0)))))))))))))))))))))))))))))))))))
theorem lf_X6_joinsBasis : lk (tb_X6_joinsBasis) 0 = (x_il 1 1, false) ∧ lk (tb_X6_joinsBasis) 1 = (x_is 2 2, false) ∧ lk (tb_X6_joinsBasis) 2 = (x_c 4 (.int 8), false) ∧ lk (tb_X6_joinsBasis) 4 = (x_is 5 3, false) ∧ lk (tb_X6_joinsBasis) 5 = (x_il 6 3, true) ∧ lk (tb_X6_joinsBasis) 6 = (x_if 50 9 (fun x : Int32 => x < 0), false) ∧ lk (tb_X6_joinsBasis) 9 = (x_il 10 2, false) ∧ lk (tb_X6_joinsBasis) 10 = (x_il 11 3, false) ∧ lk (tb_X6_joinsBasis) 11 = (x_ii 12 (fun x y : Int32 => x >>> (y &&& 31)), false) ∧ lk (tb_X6_joinsBasis) 12 = (x_c 13 (.int 1), false) ∧ lk (tb_X6_joinsBasis) 13 = (x_ii 14 (fun x y : Int32 => x &&& y), false) ∧ lk (tb_X6_joinsBasis) 14 = (x_if 44 17 (fun x : Int32 => x = 0), false) ∧ lk (tb_X6_joinsBasis) 17 = (x_al 18 0, false) ∧ lk (tb_X6_joinsBasis) 18 = (x_gR 6 1 21, false) ∧ lk (tb_X6_joinsBasis) 21 = (x_il 22 3, false) ∧ lk (tb_X6_joinsBasis) 22 = (x_ia 23, false) ∧ lk (tb_X6_joinsBasis) 23 = (x_ifn 35 26 (fun x : Int32 => x = 0), false) ∧ lk (tb_X6_joinsBasis) 26 = (x_al 27 0, false) ∧ lk (tb_X6_joinsBasis) 27 = (x_gR 6 1 30, false) ∧ lk (tb_X6_joinsBasis) 30 = (x_il 31 3, false) ∧ lk (tb_X6_joinsBasis) 31 = (x_il 32 2, false) ∧ lk (tb_X6_joinsBasis) 32 = (x_ias 33, false) ∧ lk (tb_X6_joinsBasis) 33 = (x_c 34 (.int 1), false) ∧ lk (tb_X6_joinsBasis) 34 = (x_rZ, false) ∧ lk (tb_X6_joinsBasis) 35 = (x_il 36 2, false) ∧ lk (tb_X6_joinsBasis) 36 = (x_al 37 0, false) ∧ lk (tb_X6_joinsBasis) 37 = (x_gR 6 1 40, false) ∧ lk (tb_X6_joinsBasis) 40 = (x_il 41 3, false) ∧ lk (tb_X6_joinsBasis) 41 = (x_ia 42, false) ∧ lk (tb_X6_joinsBasis) 42 = (x_ii 43 (fun x y : Int32 => x ^^^ y), false) ∧ lk (tb_X6_joinsBasis) 43 = (x_is 44 2, false) ∧ lk (tb_X6_joinsBasis) 44 = (x_inc 47 3 (-1), false) ∧ lk (tb_X6_joinsBasis) 47 = (x_go 5, false) ∧ lk (tb_X6_joinsBasis) 50 = (x_c 51 (.int 0), false) ∧ lk (tb_X6_joinsBasis) 51 = (x_rZ, false) := ⟨rfl, rfl, rfl, rfl, rfl, rfl, rfl, rfl, rfl, rfl, rfl, rfl, rfl, rfl, rfl, rfl, rfl, rfl, rfl, rfl, rfl, rfl, rfl, rfl, rfl, rfl, rfl, rfl, rfl, rfl, rfl, rfl, rfl, rfl, rfl⟩
def P_X6_joinsBasis : PTT := fun as M R => match as with
  | [.ref k, .int x] => k = 19 ∧ IsSu M.1 ∧ tn x < 512 ∧ (∀ b, b < 9 → tn (M.2.1 20 b) < 512) ∧ (¬ (ins 9 (fun b => tn (M.2.1 20 b)) (tn x)).1 = true → R (some (.int 0)) M) ∧ ((ins 9 (fun b => tn (M.2.1 20 b)) (tn x)).1 = true → ∀ I', (∀ q, q ≠ 20 → I' q = M.2.1 q) → (∀ b, b < 9 → I' 20 b = nI ((ins 9 (fun b => tn (M.2.1 20 b)) (tn x)).2 b)) → R (some (.int 1)) (M.1, I', M.2.2))
  | _ => False
set_option maxRecDepth 20000 in
theorem ok_X6_joinsBasis : Ok yX6_joinsBasis mt_X6_joinsBasis P_X6_joinsBasis := by
  refine Ok.of (by decide) rfl rfl rfl rfl fun av ⟨S, I, L⟩ R hP => ?_
  unfold P_X6_joinsBasis at hP
  split at hP
  case h_2 => exact hP.elim
  rename_i k x
  obtain ⟨k, rfl⟩ : ∃ q : Nat, q = k := ⟨k, rfl⟩
  refine ⟨by simp [ent, wide, mt_X6_joinsBasis], ?_⟩
  show J mt_X6_joinsBasis R 0 [some (.ref k), some (.int x), none, none] [] (S, I, L)
  try dsimp only at hP
  obtain ⟨rfl, hk, hx, hB, h0, h1⟩ := hP
  obtain ⟨y, hy, rfl⟩ := tn_ex hx
  rw [tn_nI (n := y) (by omega)] at h0 h1
  have key : ∀ d, d ≤ 9 → ∀ z, z < 512 → ins d (fun b => tn (I 20 b)) z = ins 9 (fun b => tn (I 20 b)) y → J mt_X6_joinsBasis R 5 [some (.ref 19), some (.int (nI y)), some (.int (nI z)), some (.int (nI d - 1))] [] (S, I, L) := by
    intro d
    induction d with
    | zero =>
      intro _ z hz he
      have hn : nI 0 - 1 < 0 ↔ True := by decide
      refine J.of tk_X6_joinsBasis 200 fun ρ hρ => ?_
      simp only [hρ, x_c, x_il, x_ll, x_al, x_is, x_as, x_ls, x_inc, x_ii, x_iq, x_i1, x_l2, x_lq, x_lh, x_i2l, x_l2i, x_lcmp, x_dup, x_dup2, x_pop, x_if, x_ifn, x_ic, x_icn, x_go, x_sw, swc, x_l01, x_mx, x_gI, x_gL, x_gR, x_pI, x_pZ, x_pL, x_pR, x_ia, x_za, x_aa, x_ias, x_zas, x_aas, x_fac, x_fa, x_slen, x_sa, x_ac, x_oi, x_new, x_na, x_cS, x_cV, x_cI, x_rI, x_rZ, x_rL, x_r0, pa, short, oc, lg, lset, lset2, wide, cond_true, cond_false, true_and, and_true, ↓reduceIte, Bool.false_eq_true, true_or, or_true, lf_X6_joinsBasis, hn, true_implies, not_true_eq_false, false_implies]
      exact h0 (by rw [← he]; simp [ins])
    | succ d ih =>
      intro hd z hz he
      have hn : nI d < 0 ↔ False := ⟨fun h => nI_pos (by omega) h, False.elim⟩
      have hm : nI d + -1 = nI d - 1 := by rw [Int32.sub_eq_add_neg]
      have hv : vp_in (nI d) 9 := vp_in_nI (by omega) (by omega)
      have hb0 : I 20 d = 0 ↔ tn (I 20 d) = 0 := by
        constructor
        · intro h; rw [h]; rfl
        · intro h; exact tn_inj h
      have hxr : nI z ^^^ I 20 d = nI (z ^^^ tn (I 20 d)) := by rw [← nI_xor, nI_tn]
      refine J.of tk_X6_joinsBasis 200 fun ρ hρ => ?_
      simp only [hρ, x_c, x_il, x_ll, x_al, x_is, x_as, x_ls, x_inc, x_ii, x_iq, x_i1, x_l2, x_lq, x_lh, x_i2l, x_l2i, x_lcmp, x_dup, x_dup2, x_pop, x_if, x_ifn, x_ic, x_icn, x_go, x_sw, swc, x_l01, x_mx, x_gI, x_gL, x_gR, x_pI, x_pZ, x_pL, x_pR, x_ia, x_za, x_aa, x_ias, x_zas, x_aas, x_fac, x_fa, x_slen, x_sa, x_ac, x_oi, x_new, x_na, x_cS, x_cV, x_cI, x_rI, x_rZ, x_rL, x_r0, pa, short, oc, lg, lset, lset2, wide, cond_true, cond_false, true_and, and_true, ↓reduceIte, Bool.false_eq_true, true_or, or_true, lf_X6_joinsBasis, hk.f, nI_pred, hn, hm, hv, hb0, hxr, false_implies, not_false_eq_true, true_implies, bit_c (show z < 2 ^ 31 by omega) (show d < 31 by omega), Classical.not_not, ncl (show d < 2 ^ 31 by omega)]
      refine ⟨fun hb => ih (by omega) z hz (by rw [← he]; simp only [ins]; rw [if_neg hb]), fun hb => ⟨fun hz0 => ?_, fun hz0 => ?_⟩⟩
      · exact ih (by omega) _ (xor512 hz (hB d (by omega))) (by rw [← he]; simp only [ins]; rw [if_pos hb, if_neg hz0])
      · have e : ins 9 (fun b => tn (I 20 b)) y = (true, va_up (fun b => tn (I 20 b)) d z) := by rw [← he]; simp only [ins]; rw [if_pos hb, if_pos hz0]
        refine h1 (by rw [e]) _ (fun q hq => mS_n hq) (fun b hb => ?_)
        rw [e, mS_s, upd_app]
        simp only [va_up]
        split
        · rfl
        · exact (nI_tn _).symm
  refine J.of tk_X6_joinsBasis 200 fun ρ hρ => ?_
  simp only [hρ, x_c, x_il, x_ll, x_al, x_is, x_as, x_ls, x_inc, x_ii, x_iq, x_i1, x_l2, x_lq, x_lh, x_i2l, x_l2i, x_lcmp, x_dup, x_dup2, x_pop, x_if, x_ifn, x_ic, x_icn, x_go, x_sw, swc, x_l01, x_mx, x_gI, x_gL, x_gR, x_pI, x_pZ, x_pL, x_pR, x_ia, x_za, x_aa, x_ias, x_zas, x_aas, x_fac, x_fa, x_slen, x_sa, x_ac, x_oi, x_new, x_na, x_cS, x_cV, x_cI, x_rI, x_rZ, x_rL, x_r0, pa, short, oc, lg, lset, lset2, wide, cond_true, cond_false, true_and, and_true, ↓reduceIte, Bool.false_eq_true, true_or, or_true, lf_X6_joinsBasis]
  exact key 9 (Nat.le_refl 9) y hy rfl
def il_X6_rankOf : List (Nat × Instr × Nat) := [(0, .iconst 0, 1), (1, .istore_n 2, 1), (2, .iload_n 2, 1), (3, .bipush 9, 2), (5, .if_icmp .ge 16, 3), (8, .aload_n 0, 1), (9, .getfield 15, 3), (12, .iload_n 2, 1), (13, .iconst 0, 1), (14, .iastore, 1), (15, .iinc 2 1, 3), (18, .goto (-16), 3), (21, .iconst 0, 1), (22, .istore_n 2, 1), (23, .iconst 0, 1), (24, .istore_n 3, 1), (25, .iload_n 3, 1), (26, .aload_n 0, 1), (27, .getfield 9, 3), (30, .getfield 19, 3), (33, .if_icmp .ge 36, 3), (36, .iload_n 1, 1), (37, .iload_n 3, 1), (38, .ishr, 1), (39, .iconst 1, 1), (40, .iand, 1), (41, .ifCond .eq 22, 3), (44, .aload_n 0, 1), (45, .aload_n 0, 1), (46, .getfield 9, 3), (49, .getfield 25, 3), (52, .iload_n 3, 1), (53, .iaload, 1), (54, .invokevirtual 28, 3), (57, .ifCond .eq 6, 3), (60, .iinc 2 1, 3), (63, .iinc 3 1, 3), (66, .goto (-41), 3), (69, .iload_n 2, 1), (70, .ireturn, 1)]
def mt_X6_rankOf : Mt := (cX6_rankOf, RX6, 4, (some .int), ({ frames := 1, cells := 0, slots := 0, locals := 23 } : Room), false, none, none)
set_option maxRecDepth 100000 in
theorem dl_X6_rankOf : ∀ q ∈ il_X6_rankOf, decode (mt_X6_rankOf).1 q.1 = .ok q.2 := by decide +kernel
def tb_X6_rankOf : Tb := [(0, x_c 1 (.int 0), false),
  (1, x_is 2 2, false),
  (2, x_il 3 2, true),
  (3, x_c 5 (.int 9), false),
  (5, x_ic 21 8 (fun x y : Int32 => y ≤ x), false),
  (8, x_al 9 0, false),
  (9, x_gR 6 1 12, false),
  (12, x_il 13 2, false),
  (13, x_c 14 (.int 0), false),
  (14, x_ias 15, false),
  (15, x_inc 18 2 1, false),
  (18, x_go 2, false),
  (21, x_c 22 (.int 0), false),
  (22, x_is 23 2, false),
  (23, x_c 24 (.int 0), false),
  (24, x_is 25 3, false),
  (25, x_il 26 3, true),
  (26, x_al 27 0, false),
  (27, x_gR 6 0 30, false),
  (30, x_gI 5 5 33, false),
  (33, x_ic 69 36 (fun x y : Int32 => y ≤ x), false),
  (36, x_il 37 1, false),
  (37, x_il 38 3, false),
  (38, x_ii 39 (fun x y : Int32 => x >>> (y &&& 31)), false),
  (39, x_c 40 (.int 1), false),
  (40, x_ii 41 (fun x y : Int32 => x &&& y), false),
  (41, x_if 63 44 (fun x : Int32 => x = 0), false),
  (44, x_al 45 0, false),
  (45, x_al 46 0, false),
  (46, x_gR 6 0 49, false),
  (49, x_gR 5 0 52, false),
  (52, x_il 53 3, false),
  (53, x_ia 54, false),
  (54, x_cV 6 1 P_X6_joinsBasis 57, false),
  (57, x_if 63 60 (fun x : Int32 => x = 0), false),
  (60, x_inc 63 2 1, false),
  (63, x_inc 66 3 1, false),
  (66, x_go 25, false),
  (69, x_il 70 2, false),
  (70, x_rI, false)]
set_option maxRecDepth 100000 in
theorem tk_X6_rankOf : TbOk (mt_X6_rankOf) (tb_X6_rankOf) :=
  tkc (s_iconst (at_ dl_X6_rankOf 0 (ins := .iconst 0) rfl) (by first | rfl | decide)) (
  tkc (s_istore_n (at_ dl_X6_rankOf 1 (ins := .istore_n 2) rfl) (by decide)) (
  tkc (s_iload_n (at_ dl_X6_rankOf 2 (ins := .iload_n 2) rfl)) (
  tkc (s_bipush (at_ dl_X6_rankOf 3 (ins := .bipush 9) rfl) (by first | rfl | decide)) (
  tkc (s_ic_ge (at_ dl_X6_rankOf 4 (ins := .if_icmp .ge 16) rfl) (by decide)) (
  tkc (s_aload_n (at_ dl_X6_rankOf 5 (ins := .aload_n 0) rfl)) (
  tkc (s_gR (at_ dl_X6_rankOf 6 (ins := .getfield 15) rfl) (by decide) (by decide) (by decide) (tg 211 (by decide +kernel) (by decide +kernel))) (
  tkc (s_iload_n (at_ dl_X6_rankOf 7 (ins := .iload_n 2) rfl)) (
  tkc (s_iconst (at_ dl_X6_rankOf 8 (ins := .iconst 0) rfl) (by first | rfl | decide)) (
  tkc (s_ias (at_ dl_X6_rankOf 9 (ins := .iastore) rfl)) (
  tkc (s_iinc (at_ dl_X6_rankOf 10 (ins := .iinc 2 1) rfl) (by decide) (by first | rfl | decide)) (
  tkc (s_goto (at_ dl_X6_rankOf 11 (ins := .goto (-16)) rfl) (by decide)) (
  tkc (s_iconst (at_ dl_X6_rankOf 12 (ins := .iconst 0) rfl) (by first | rfl | decide)) (
  tkc (s_istore_n (at_ dl_X6_rankOf 13 (ins := .istore_n 2) rfl) (by decide)) (
  tkc (s_iconst (at_ dl_X6_rankOf 14 (ins := .iconst 0) rfl) (by first | rfl | decide)) (
  tkc (s_istore_n (at_ dl_X6_rankOf 15 (ins := .istore_n 3) rfl) (by decide)) (
  tkc (s_iload_n (at_ dl_X6_rankOf 16 (ins := .iload_n 3) rfl)) (
  tkc (s_aload_n (at_ dl_X6_rankOf 17 (ins := .aload_n 0) rfl)) (
  tkc (s_gR (at_ dl_X6_rankOf 18 (ins := .getfield 9) rfl) (by decide) (by decide) (by decide) (tg 210 (by decide +kernel) (by decide +kernel))) (
  tkc (s_gI (at_ dl_X6_rankOf 19 (ins := .getfield 19) rfl) (by decide) (by decide) (by decide) (tg 141 (by decide +kernel) (by decide +kernel))) (
  tkc (s_ic_ge (at_ dl_X6_rankOf 20 (ins := .if_icmp .ge 36) rfl) (by decide)) (
  tkc (s_iload_n (at_ dl_X6_rankOf 21 (ins := .iload_n 1) rfl)) (
  tkc (s_iload_n (at_ dl_X6_rankOf 22 (ins := .iload_n 3) rfl)) (
  tkc (s_ishr (at_ dl_X6_rankOf 23 (ins := .ishr) rfl)) (
  tkc (s_iconst (at_ dl_X6_rankOf 24 (ins := .iconst 1) rfl) (by first | rfl | decide)) (
  tkc (s_iand (at_ dl_X6_rankOf 25 (ins := .iand) rfl)) (
  tkc (s_if_eq (at_ dl_X6_rankOf 26 (ins := .ifCond .eq 22) rfl) (by decide)) (
  tkc (s_aload_n (at_ dl_X6_rankOf 27 (ins := .aload_n 0) rfl)) (
  tkc (s_aload_n (at_ dl_X6_rankOf 28 (ins := .aload_n 0) rfl)) (
  tkc (s_gR (at_ dl_X6_rankOf 29 (ins := .getfield 9) rfl) (by decide) (by decide) (by decide) (tg 210 (by decide +kernel) (by decide +kernel))) (
  tkc (s_gR (at_ dl_X6_rankOf 30 (ins := .getfield 25) rfl) (by decide) (by decide) (by decide) (tg 122 (by decide +kernel) (by decide +kernel))) (
  tkc (s_iload_n (at_ dl_X6_rankOf 31 (ins := .iload_n 3) rfl)) (
  tkc (s_ia (at_ dl_X6_rankOf 32 (ins := .iaload) rfl)) (
  tkc (s_cV ok_X6_joinsBasis (at_ dl_X6_rankOf 33 (ins := .invokevirtual 28) rfl) (by decide) rfl (tg 423 (by decide +kernel) (by decide +kernel)) (tg 425 (by decide +kernel) (by decide +kernel)) (tg 7 (by decide +kernel) (by decide +kernel)) (tg 48 (by decide +kernel) (by decide +kernel)) (tg 426 (by decide +kernel) (by decide +kernel)) (⟨by decide, by decide, by decide +kernel⟩) (⟨by decide, by decide⟩) rfl rfl) (
  tkc (s_if_eq (at_ dl_X6_rankOf 34 (ins := .ifCond .eq 6) rfl) (by decide)) (
  tkc (s_iinc (at_ dl_X6_rankOf 35 (ins := .iinc 2 1) rfl) (by decide) (by first | rfl | decide)) (
  tkc (s_iinc (at_ dl_X6_rankOf 36 (ins := .iinc 3 1) rfl) (by decide) (by first | rfl | decide)) (
  tkc (s_goto (at_ dl_X6_rankOf 37 (ins := .goto (-41)) rfl) (by decide)) (
  tkc (s_iload_n (at_ dl_X6_rankOf 38 (ins := .iload_n 2) rfl)) (
  tkc (s_rI (at_ dl_X6_rankOf 39 (ins := .ireturn) rfl) rfl) ( tk0))))))))))))))))))))))))))))))))))))))))
theorem lf_X6_rankOf : lk (tb_X6_rankOf) 0 = (x_c 1 (.int 0), false) ∧ lk (tb_X6_rankOf) 1 = (x_is 2 2, false) ∧ lk (tb_X6_rankOf) 2 = (x_il 3 2, true) ∧ lk (tb_X6_rankOf) 3 = (x_c 5 (.int 9), false) ∧ lk (tb_X6_rankOf) 5 = (x_ic 21 8 (fun x y : Int32 => y ≤ x), false) ∧ lk (tb_X6_rankOf) 8 = (x_al 9 0, false) ∧ lk (tb_X6_rankOf) 9 = (x_gR 6 1 12, false) ∧ lk (tb_X6_rankOf) 12 = (x_il 13 2, false) ∧ lk (tb_X6_rankOf) 13 = (x_c 14 (.int 0), false) ∧ lk (tb_X6_rankOf) 14 = (x_ias 15, false) ∧ lk (tb_X6_rankOf) 15 = (x_inc 18 2 1, false) ∧ lk (tb_X6_rankOf) 18 = (x_go 2, false) ∧ lk (tb_X6_rankOf) 21 = (x_c 22 (.int 0), false) ∧ lk (tb_X6_rankOf) 22 = (x_is 23 2, false) ∧ lk (tb_X6_rankOf) 23 = (x_c 24 (.int 0), false) ∧ lk (tb_X6_rankOf) 24 = (x_is 25 3, false) ∧ lk (tb_X6_rankOf) 25 = (x_il 26 3, true) ∧ lk (tb_X6_rankOf) 26 = (x_al 27 0, false) ∧ lk (tb_X6_rankOf) 27 = (x_gR 6 0 30, false) ∧ lk (tb_X6_rankOf) 30 = (x_gI 5 5 33, false) ∧ lk (tb_X6_rankOf) 33 = (x_ic 69 36 (fun x y : Int32 => y ≤ x), false) ∧ lk (tb_X6_rankOf) 36 = (x_il 37 1, false) ∧ lk (tb_X6_rankOf) 37 = (x_il 38 3, false) ∧ lk (tb_X6_rankOf) 38 = (x_ii 39 (fun x y : Int32 => x >>> (y &&& 31)), false) ∧ lk (tb_X6_rankOf) 39 = (x_c 40 (.int 1), false) ∧ lk (tb_X6_rankOf) 40 = (x_ii 41 (fun x y : Int32 => x &&& y), false) ∧ lk (tb_X6_rankOf) 41 = (x_if 63 44 (fun x : Int32 => x = 0), false) ∧ lk (tb_X6_rankOf) 44 = (x_al 45 0, false) ∧ lk (tb_X6_rankOf) 45 = (x_al 46 0, false) ∧ lk (tb_X6_rankOf) 46 = (x_gR 6 0 49, false) ∧ lk (tb_X6_rankOf) 49 = (x_gR 5 0 52, false) ∧ lk (tb_X6_rankOf) 52 = (x_il 53 3, false) ∧ lk (tb_X6_rankOf) 53 = (x_ia 54, false) ∧ lk (tb_X6_rankOf) 54 = (x_cV 6 1 P_X6_joinsBasis 57, false) ∧ lk (tb_X6_rankOf) 57 = (x_if 63 60 (fun x : Int32 => x = 0), false) ∧ lk (tb_X6_rankOf) 60 = (x_inc 63 2 1, false) ∧ lk (tb_X6_rankOf) 63 = (x_inc 66 3 1, false) ∧ lk (tb_X6_rankOf) 66 = (x_go 25, false) ∧ lk (tb_X6_rankOf) 69 = (x_il 70 2, false) ∧ lk (tb_X6_rankOf) 70 = (x_rI, false) := ⟨rfl, rfl, rfl, rfl, rfl, rfl, rfl, rfl, rfl, rfl, rfl, rfl, rfl, rfl, rfl, rfl, rfl, rfl, rfl, rfl, rfl, rfl, rfl, rfl, rfl, rfl, rfl, rfl, rfl, rfl, rfl, rfl, rfl, rfl, rfl, rfl, rfl, rfl, rfl, rfl⟩
def P_X6_rankOf : PTT := fun as M R => match as with
  | [.ref k, .int s] => k = 19 ∧ IsSu M.1 ∧ IsSt M.1 5 ∧ tn s < 512 ∧ ∃ a, SR M.2.1 5 a ∧ AOk a ∧ ∀ I', (∀ q, q ≠ 20 → I' q = M.2.1 q) → R (some (.int (nI (rkS (aV a) (tn s) (aM a)).1))) (M.1, I', M.2.2)
  | _ => False
theorem zr_in {f : Nat → Int32} {n j : Nat} (h : j < n) : zr f n j = 0 := by simp [zr, h]
set_option maxRecDepth 20000 in
theorem ok_X6_rankOf : Ok yX6_rankOf mt_X6_rankOf P_X6_rankOf := by
  refine Ok.of (by decide) rfl rfl rfl rfl fun av ⟨S, I, L⟩ R hP => ?_
  unfold P_X6_rankOf at hP
  split at hP
  case h_2 => exact hP.elim
  rename_i k s
  obtain ⟨k, rfl⟩ : ∃ q : Nat, q = k := ⟨k, rfl⟩
  refine ⟨by simp [ent, wide, mt_X6_rankOf], ?_⟩
  show J mt_X6_rankOf R 0 [some (.ref k), some (.int s), none, none] [] (S, I, L)
  try dsimp only at hP
  obtain ⟨rfl, hk, h5, hs, a, hsr, ha, hR⟩ := hP
  obtain ⟨y, hy, rfl⟩ := tn_ex hs
  rw [tn_nI (n := y) (by omega)] at hR
  have h9 := ha.1
  have key2 := up (P := fun c => ∀ I', (∀ q, q ≠ 20 → I' q = I q) → (∀ b, b < 9 → I' 20 b = nI ((rkS (aV a) y c).2 b)) → J mt_X6_rankOf R 25 [some (.ref 19), some (.int (nI y)), some (.int (nI (rkS (aV a) y c).1)), some (.int (nI c))] [] (S, I', L)) (n := aM a) (fun c hc ih => ?_) 0 (Nat.zero_le _)
  · -- the first loop
    have key := up (P := fun i => J mt_X6_rankOf R 2 [some (.ref 19), some (.int (nI y)), some (.int (nI i)), none] [] (S, mS I 20 (zr (I 20) i), L)) (n := 9) (fun i hi ih => ?_) 0 (Nat.zero_le _)
    · refine J.of tk_X6_rankOf 200 fun ρ hρ => ?_
      simp only [hρ, x_c, x_il, x_ll, x_al, x_is, x_as, x_ls, x_inc, x_ii, x_iq, x_i1, x_l2, x_lq, x_lh, x_i2l, x_l2i, x_lcmp, x_dup, x_dup2, x_pop, x_if, x_ifn, x_ic, x_icn, x_go, x_sw, swc, x_l01, x_mx, x_gI, x_gL, x_gR, x_pI, x_pZ, x_pL, x_pR, x_ia, x_za, x_aa, x_ias, x_zas, x_aas, x_fac, x_fa, x_slen, x_sa, x_ac, x_oi, x_new, x_na, x_cS, x_cV, x_cI, x_rI, x_rZ, x_rL, x_r0, pa, short, oc, lg, lset, lset2, wide, cond_true, cond_false, true_and, and_true, ↓reduceIte, Bool.false_eq_true, true_or, or_true, lf_X6_rankOf]
      rw [zr_0, mS_id] at key
      exact key
    refine J.of tk_X6_rankOf 200 fun ρ hρ => ?_
    simp only [hρ, x_c, x_il, x_ll, x_al, x_is, x_as, x_ls, x_inc, x_ii, x_iq, x_i1, x_l2, x_lq, x_lh, x_i2l, x_l2i, x_lcmp, x_dup, x_dup2, x_pop, x_if, x_ifn, x_ic, x_icn, x_go, x_sw, swc, x_l01, x_mx, x_gI, x_gL, x_gR, x_pI, x_pZ, x_pL, x_pR, x_ia, x_za, x_aa, x_ias, x_zas, x_aas, x_fac, x_fa, x_slen, x_sa, x_ac, x_oi, x_new, x_na, x_cS, x_cV, x_cI, x_rI, x_rZ, x_rL, x_r0, pa, short, oc, lg, lset, lset2, wide, cond_true, cond_false, true_and, and_true, ↓reduceIte, Bool.false_eq_true, true_or, or_true, lf_X6_rankOf, hk.f, nI9, nI_leI (show 9 < 2 ^ 31 by omega) (show i < 2 ^ 31 by omega), ncl (show i < 2 ^ 31 by omega), nI_1, mS_s, mS_ss, zr_s]
    refine ⟨fun h => ?_, fun h => ⟨vp_in_nI (by omega) (by omega), ih (by omega)⟩⟩
    have : i = 9 := by omega
    subst this
    exact key2 _ (fun q hq => mS_n hq) (fun b hb => by rw [mS_s, zr_in hb]; rfl)
  intro I' hf hb
  have e5 : I' 5 = I 5 := hf 5 (by omega)
  have e6 : I' (5 + 1) = I (5 + 1) := hf 6 (by omega)
  have e6' : I' 6 = I 6 := hf 6 (by omega)
  have em : I 5 5 = nI (aM a) := hsr.2.1
  have hB : ∀ b, b < 9 → tn (I' 20 b) = (rkS (aV a) y c).2 b := fun b h => by
    rw [hb b h]; exact tn_nI (by have := rkS_lt (ov := aV a) (s := y) (c := c) (fun i hi => ha.v (by omega)) b h; omega)
  have hBl : ∀ b, b < 9 → tn (I' 20 b) < 512 := fun b h => by rw [hB b h]; exact rkS_lt (fun i hi => ha.v (by omega)) b h
  by_cases hlt : c < aM a
  · have ov : I 6 c = nI (aV a c) := hsr.2.2.2.2.1 c hlt
    have hvl := ha.v hlt
    have etn : tn (nI (aV a c)) = aV a c := tn_nI (by omega)
    obtain ⟨i1, i2⟩ := ins_congr (x := aV a c) hB (Nat.le_refl 9)
    refine J.of tk_X6_rankOf 200 fun ρ hρ => ?_
    simp only [hρ, x_c, x_il, x_ll, x_al, x_is, x_as, x_ls, x_inc, x_ii, x_iq, x_i1, x_l2, x_lq, x_lh, x_i2l, x_l2i, x_lcmp, x_dup, x_dup2, x_pop, x_if, x_ifn, x_ic, x_icn, x_go, x_sw, swc, x_l01, x_mx, x_gI, x_gL, x_gR, x_pI, x_pZ, x_pL, x_pR, x_ia, x_za, x_aa, x_ias, x_zas, x_aas, x_fac, x_fa, x_slen, x_sa, x_ac, x_oi, x_new, x_na, x_cS, x_cV, x_cI, x_rI, x_rZ, x_rL, x_r0, pa, short, oc, lg, lset, lset2, wide, cond_true, cond_false, true_and, and_true, ↓reduceIte, Bool.false_eq_true, true_or, or_true, lf_X6_rankOf, hk, hk.f, h5, h5.f, e5, e6, e6', Nat.reduceAdd, em, ov, etn, hvl, eq_true hBl, nI_leI (show aM a < 2 ^ 31 by omega) (show c < 2 ^ 31 by omega), ncl (show c < 2 ^ 31 by omega), nI_1, P_X6_joinsBasis, bit_c (show y < 2 ^ 31 by omega) (show c < 31 by omega), Classical.not_not, i1]
    refine ⟨fun h => absurd h (by omega), fun _ => ⟨fun h => ?_, fun h => ⟨vp_in_nI (by omega) (by omega), fun hj => ?_, fun hj I2 hf2 hb2 => ?_⟩⟩⟩
    · have hr : rkS (aV a) y (c + 1) = rkS (aV a) y c := by rw [rkS, if_neg h]
      have := ih hlt I' hf (by rw [hr]; exact hb)
      rw [hr] at this
      exact this
    · have hr : rkS (aV a) y (c + 1) = ((rkS (aV a) y c).1, (ins 9 (rkS (aV a) y c).2 (aV a c)).2) := by rw [rkS, if_pos h, if_neg hj]; rfl
      have := ih hlt I' hf (by rw [hr]; simp only [ins_no hj]; exact hb)
      rw [hr] at this
      exact ⟨fun _ => this, fun h => absurd trivial h⟩
    · have hr : rkS (aV a) y (c + 1) = ((rkS (aV a) y c).1 + 1, (ins 9 (rkS (aV a) y c).2 (aV a c)).2) := by rw [rkS, if_pos h, if_pos hj]
      have := ih hlt I2 (fun q hq => by rw [hf2 q hq]; exact hf q hq) (fun b hb' => by rw [hr, hb2 b hb', i2 b hb'])
      rw [hr] at this
      exact ⟨fun h => absurd h (by decide), fun _ => this⟩
  · have : c = aM a := by omega
    subst this
    refine J.of tk_X6_rankOf 200 fun ρ hρ => ?_
    simp only [hρ, x_c, x_il, x_ll, x_al, x_is, x_as, x_ls, x_inc, x_ii, x_iq, x_i1, x_l2, x_lq, x_lh, x_i2l, x_l2i, x_lcmp, x_dup, x_dup2, x_pop, x_if, x_ifn, x_ic, x_icn, x_go, x_sw, swc, x_l01, x_mx, x_gI, x_gL, x_gR, x_pI, x_pZ, x_pL, x_pR, x_ia, x_za, x_aa, x_ias, x_zas, x_aas, x_fac, x_fa, x_slen, x_sa, x_ac, x_oi, x_new, x_na, x_cS, x_cV, x_cI, x_rI, x_rZ, x_rL, x_r0, pa, short, oc, lg, lset, lset2, wide, cond_true, cond_false, true_and, and_true, ↓reduceIte, Bool.false_eq_true, true_or, or_true, lf_X6_rankOf, hk, hk.f, h5, h5.f, e5, em, nI_leI (show aM a < 2 ^ 31 by omega) (show aM a < 2 ^ 31 by omega), Nat.le_refl, true_implies, not_true_eq_false, false_implies]
    exact hR I' hf

/-- all checks -/
theorem nI_m1 {n : Nat} (h : 0 < n) : nI n - 1 = nI (n - 1) := by
  obtain ⟨k, rfl⟩ : ∃ k, n = k + 1 := ⟨n - 1, by omega⟩
  rw [nI_pred]; rfl
theorem allC {m : Nat} (h : m ≤ 6) : (1 : Int32) <<< (nI m &&& 31) - 1 = nI (2 ^ m - 1) := by
  rw [shl1 (by omega), nI_m1 (Nat.pow_pos (by omega))]
theorem all_bit {m c : Nat} (h : c < m) : (2 ^ m - 1).testBit c = true := by rw [Nat.testBit_two_pow_sub_one]; simpa using h
/-- rank -/
def rkA (a : AS) (s : Nat) : Nat := (rkS (aV a) s (aM a)).1
theorem rkA_all {a : AS} (ha : AOk a) : rkA a 63 = rkA a (2 ^ aM a - 1) := by
  unfold rkA
  rw [rkS_congr (s' := 2 ^ aM a - 1) (fun _ _ => rfl) (fun i hi => ?_)]
  rw [all_bit hi, show (63 : Nat) = 2 ^ 6 - 1 from rfl, all_bit (by have := ha.1; omega)]
def il_X6_howManyWords : List (Nat × Instr × Nat) := [(0, .iconst 1, 1), (1, .aload_n 0, 1), (2, .getfield 9, 3), (5, .getfield 32, 3), (8, .aload_n 0, 1), (9, .aload_n 0, 1), (10, .getfield 9, 3), (13, .invokevirtual 35, 3), (16, .invokevirtual 39, 3), (19, .isub, 1), (20, .ishl, 1), (21, .ireturn, 1)]
def mt_X6_howManyWords : Mt := (cX6_howManyWords, RX6, 1, (some .int), ({ frames := 2, cells := 0, slots := 0, locals := 46 } : Room), false, none, none)
set_option maxRecDepth 100000 in
theorem dl_X6_howManyWords : ∀ q ∈ il_X6_howManyWords, decode (mt_X6_howManyWords).1 q.1 = .ok q.2 := by decide +kernel
def tb_X6_howManyWords : Tb := [(0, x_c 1 (.int 1), false),
  (1, x_al 2 0, false),
  (2, x_gR 6 0 5, false),
  (5, x_gI 5 4 8, false),
  (8, x_al 9 0, false),
  (9, x_al 10 0, false),
  (10, x_gR 6 0 13, false),
  (13, x_cV 5 0 P_X5_allChecks 16, false),
  (16, x_cV 6 1 P_X6_rankOf 19, false),
  (19, x_ii 20 (fun x y : Int32 => x - y), false),
  (20, x_ii 21 (fun x y : Int32 => x <<< (y &&& 31)), false),
  (21, x_rI, false)]
set_option maxRecDepth 100000 in
theorem tk_X6_howManyWords : TbOk (mt_X6_howManyWords) (tb_X6_howManyWords) :=
  tkc (s_iconst (at_ dl_X6_howManyWords 0 (ins := .iconst 1) rfl) (by first | rfl | decide)) (
  tkc (s_aload_n (at_ dl_X6_howManyWords 1 (ins := .aload_n 0) rfl)) (
  tkc (s_gR (at_ dl_X6_howManyWords 2 (ins := .getfield 9) rfl) (by decide) (by decide) (by decide) (tg 210 (by decide +kernel) (by decide +kernel))) (
  tkc (s_gI (at_ dl_X6_howManyWords 3 (ins := .getfield 32) rfl) (by decide) (by decide) (by decide) (tg 136 (by decide +kernel) (by decide +kernel))) (
  tkc (s_aload_n (at_ dl_X6_howManyWords 4 (ins := .aload_n 0) rfl)) (
  tkc (s_aload_n (at_ dl_X6_howManyWords 5 (ins := .aload_n 0) rfl)) (
  tkc (s_gR (at_ dl_X6_howManyWords 6 (ins := .getfield 9) rfl) (by decide) (by decide) (by decide) (tg 210 (by decide +kernel) (by decide +kernel))) (
  tkc (s_cV ok_X5_allChecks (at_ dl_X6_howManyWords 7 (ins := .invokevirtual 35) rfl) (by decide) rfl (tg 431 (by decide +kernel) (by decide +kernel)) (tg 416 (by decide +kernel) (by decide +kernel)) (tg 417 (by decide +kernel) (by decide +kernel)) (tg 45 (by decide +kernel) (by decide +kernel)) (tg 418 (by decide +kernel) (by decide +kernel)) (⟨by decide, by decide, by decide +kernel⟩) (⟨by decide, by decide⟩) rfl rfl) (
  tkc (s_cV ok_X6_rankOf (at_ dl_X6_howManyWords 8 (ins := .invokevirtual 39) rfl) (by decide) rfl (tg 432 (by decide +kernel) (by decide +kernel)) (tg 420 (by decide +kernel) (by decide +kernel)) (tg 421 (by decide +kernel) (by decide +kernel)) (tg 48 (by decide +kernel) (by decide +kernel)) (tg 422 (by decide +kernel) (by decide +kernel)) (⟨by decide, by decide, by decide +kernel⟩) (⟨by decide, by decide⟩) rfl rfl) (
  tkc (s_isub (at_ dl_X6_howManyWords 9 (ins := .isub) rfl)) (
  tkc (s_ishl (at_ dl_X6_howManyWords 10 (ins := .ishl) rfl)) (
  tkc (s_rI (at_ dl_X6_howManyWords 11 (ins := .ireturn) rfl) rfl) ( tk0))))))))))))
theorem lf_X6_howManyWords : lk (tb_X6_howManyWords) 0 = (x_c 1 (.int 1), false) ∧ lk (tb_X6_howManyWords) 1 = (x_al 2 0, false) ∧ lk (tb_X6_howManyWords) 2 = (x_gR 6 0 5, false) ∧ lk (tb_X6_howManyWords) 5 = (x_gI 5 4 8, false) ∧ lk (tb_X6_howManyWords) 8 = (x_al 9 0, false) ∧ lk (tb_X6_howManyWords) 9 = (x_al 10 0, false) ∧ lk (tb_X6_howManyWords) 10 = (x_gR 6 0 13, false) ∧ lk (tb_X6_howManyWords) 13 = (x_cV 5 0 P_X5_allChecks 16, false) ∧ lk (tb_X6_howManyWords) 16 = (x_cV 6 1 P_X6_rankOf 19, false) ∧ lk (tb_X6_howManyWords) 19 = (x_ii 20 (fun x y : Int32 => x - y), false) ∧ lk (tb_X6_howManyWords) 20 = (x_ii 21 (fun x y : Int32 => x <<< (y &&& 31)), false) ∧ lk (tb_X6_howManyWords) 21 = (x_rI, false) := ⟨rfl, rfl, rfl, rfl, rfl, rfl, rfl, rfl, rfl, rfl, rfl, rfl⟩
def P_X6_howManyWords : PTT := fun as M R => match as with
  | [.ref k] => k = 19 ∧ IsSu M.1 ∧ IsSt M.1 5 ∧ ∃ a, SR M.2.1 5 a ∧ AOk a ∧ ∀ I', (∀ q, q ≠ 20 → I' q = M.2.1 q) → R (some (.int ((1 : Int32) <<< ((nI (aN a) - nI (rkA a 63)) &&& 31)))) (M.1, I', M.2.2)
  | _ => False
theorem pow6m {m : Nat} (h : m ≤ 6) : 2 ^ m - 1 < 512 := by have := pow6 h; omega
set_option maxRecDepth 20000 in
theorem ok_X6_howManyWords : Ok yX6_howManyWords mt_X6_howManyWords P_X6_howManyWords := by
  refine Ok.of (by decide) rfl rfl rfl rfl fun av ⟨S, I, L⟩ R hP => ?_
  unfold P_X6_howManyWords at hP
  split at hP
  case h_2 => exact hP.elim
  rename_i k
  obtain ⟨k, rfl⟩ : ∃ q : Nat, q = k := ⟨k, rfl⟩
  refine ⟨by simp [ent, wide, mt_X6_howManyWords], ?_⟩
  show J mt_X6_howManyWords R 0 [some (.ref k)] [] (S, I, L)
  try dsimp only at hP
  obtain ⟨rfl, hk, h5, a, hsr, ha, hR⟩ := hP
  have en : I 5 4 = nI (aN a) := hsr.1
  have em : I 5 5 = nI (aM a) := hsr.2.1
  have hl := pow6m ha.1.2.2
  have ht : tn (nI (2 ^ aM a - 1)) < 512 := by rw [tn_nI (by omega)]; exact hl
  refine J.of tk_X6_howManyWords 200 fun ρ hρ => ?_
  simp only [hρ, x_c, x_il, x_ll, x_al, x_is, x_as, x_ls, x_inc, x_ii, x_iq, x_i1, x_l2, x_lq, x_lh, x_i2l, x_l2i, x_lcmp, x_dup, x_dup2, x_pop, x_if, x_ifn, x_ic, x_icn, x_go, x_sw, swc, x_l01, x_mx, x_gI, x_gL, x_gR, x_pI, x_pZ, x_pL, x_pR, x_ia, x_za, x_aa, x_ias, x_zas, x_aas, x_fac, x_fa, x_slen, x_sa, x_ac, x_oi, x_new, x_na, x_cS, x_cV, x_cI, x_rI, x_rZ, x_rL, x_r0, pa, short, oc, lg, lset, lset2, wide, cond_true, cond_false, true_and, and_true, ↓reduceIte, Bool.false_eq_true, true_or, or_true, lf_X6_howManyWords, hk, hk.f, h5, h5.f, en, em, P_X6_rankOf, P_X5_allChecks, allC ha.1.2.2, ht, true_and]
  refine ⟨a, hsr, ha, fun I' hf => ?_⟩
  rw [tn_nI (by omega)]
  have := hR I' hf
  rw [rkA_all ha] at this
  exact this
end
section
/-! SUMS, the rest -/
/-- 99 stands for none -/
def nn (x : Nat) : Int32 := if x = 99 then -9 else nI x
theorem nn_9 {x : Nat} (h : x < 2 ^ 31) : nn x = -9 ↔ x = 99 := by
  unfold nn
  split
  · next h1 => exact ⟨fun _ => h1, fun _ => rfl⟩
  · next h1 =>
    refine ⟨fun h2 => ?_, fun h2 => absurd h2 h1⟩
    have : tn (nI x) = tn (-9) := by rw [h2]
    rw [tn_nI (by omega), show tn (-9) = 4294967287 by decide] at this
    omega
/-- the fewest bits of a word that opens no check, of the sets below s -/
def dsF (ov : Nat → Nat) (m : Nat) : Nat → Nat
  | 0 => 99
  | s + 1 => if s ≠ 0 ∧ opB ov m s = 0 ∧ ones9 s < dsF ov m s then ones9 s else dsF ov m s
theorem dsF_le (ov : Nat → Nat) (m : Nat) : ∀ s, dsF ov m s ≤ 9 ∨ dsF ov m s = 99
  | 0 => .inr rfl
  | s + 1 => by
    simp only [dsF]
    split
    · exact .inl (ones9_le s)
    · exact dsF_le ov m s
theorem lt9 {n s : Nat} (h : n ≤ 9) (hs : s < 2 ^ n) : s < 512 := Nat.lt_of_lt_of_le hs (pow9 h)
/-- what is asked of the checks' sets alone -/
theorem SR.ovq {I : MI} {k : Nat} {a : AS} (h : SR I k a) (ho : AOk a) : ∃ m, m ≤ 6 ∧ I k 5 = nI m ∧ ∀ c, c < m → ovS I k c < 512 := ⟨aM a, ho.1.2.2, h.2.1, fun c hc => by rw [h.ov ho c hc]; exact ho.v hc⟩
theorem SR.opw {I : MI} {k : Nat} {a : AS} (h : SR I k a) (ho : AOk a) (w : Nat) : opB (ovS I k) (tn (I k 5)) w = opB (aV a) (aM a) w := by
  rw [h.2.1, tn_nI (n := aM a) (by have := ho.1; omega)]
  exact opB_congr (h.ov ho)
theorem two_le {n : Nat} (h : n ≤ 9) : (2 : Nat) ^ n < 2 ^ 31 := by have := pow9 h; omega
theorem one_le (n : Nat) : 1 ≤ (2 : Nat) ^ n := Nat.pow_pos (by omega)
def il_X6_distance : List (Nat × Instr × Nat) := [(0, .bipush (-9), 2), (2, .istore_n 1, 1), (3, .iconst 1, 1), (4, .istore_n 2, 1), (5, .iload_n 2, 1), (6, .iconst 1, 1), (7, .aload_n 0, 1), (8, .getfield 9, 3), (11, .getfield 32, 3), (14, .ishl, 1), (15, .if_icmp .ge 38, 3), (18, .iload_n 2, 1), (19, .invokestatic 43, 3), (22, .istore_n 3, 1), (23, .iload_n 1, 1), (24, .bipush (-9), 2), (26, .if_icmp .eq 8, 3), (29, .iload_n 3, 1), (30, .iload_n 1, 1), (31, .if_icmp .ge 16, 3), (34, .aload_n 0, 1), (35, .getfield 9, 3), (38, .iload_n 2, 1), (39, .invokevirtual 48, 3), (42, .ifCond .ne 5, 3), (45, .iload_n 3, 1), (46, .istore_n 1, 1), (47, .iinc 2 1, 3), (50, .goto (-45), 3), (53, .iload_n 1, 1), (54, .ireturn, 1)]
def mt_X6_distance : Mt := (cX6_distance, RX6, 4, (some .int), ({ frames := 2, cells := 0, slots := 0, locals := 43 } : Room), false, none, none)
set_option maxRecDepth 100000 in
theorem dl_X6_distance : ∀ q ∈ il_X6_distance, decode (mt_X6_distance).1 q.1 = .ok q.2 := by decide +kernel
def tb_X6_distance : Tb := [(0, x_c 2 (.int (-9)), false),
  (2, x_is 3 1, false),
  (3, x_c 4 (.int 1), false),
  (4, x_is 5 2, false),
  (5, x_il 6 2, true),
  (6, x_c 7 (.int 1), false),
  (7, x_al 8 0, false),
  (8, x_gR 6 0 11, false),
  (11, x_gI 5 4 14, false),
  (14, x_ii 15 (fun x y : Int32 => x <<< (y &&& 31)), false),
  (15, x_ic 53 18 (fun x y : Int32 => y ≤ x), false),
  (18, x_il 19 2, false),
  (19, x_cS 1 P_J6_bitCount_0f7a4 22, false),
  (22, x_is 23 3, false),
  (23, x_il 24 1, false),
  (24, x_c 26 (.int (-9)), false),
  (26, x_ic 34 29 (fun x y : Int32 => x = y), false),
  (29, x_il 30 3, false),
  (30, x_il 31 1, false),
  (31, x_ic 47 34 (fun x y : Int32 => y ≤ x), false),
  (34, x_al 35 0, false),
  (35, x_gR 6 0 38, false),
  (38, x_il 39 2, false),
  (39, x_cV 5 1 P_X5_openBy 42, false),
  (42, x_ifn 47 45 (fun x : Int32 => x = 0), false),
  (45, x_il 46 3, false),
  (46, x_is 47 1, false),
  (47, x_inc 50 2 1, false),
  (50, x_go 5, false),
  (53, x_il 54 1, false),
  (54, x_rI, false)]
set_option maxRecDepth 100000 in
theorem tk_X6_distance : TbOk (mt_X6_distance) (tb_X6_distance) :=
  tkc (s_bipush (at_ dl_X6_distance 0 (ins := .bipush (-9)) rfl) (by first | rfl | decide)) (
  tkc (s_istore_n (at_ dl_X6_distance 1 (ins := .istore_n 1) rfl) (by decide)) (
  tkc (s_iconst (at_ dl_X6_distance 2 (ins := .iconst 1) rfl) (by first | rfl | decide)) (
  tkc (s_istore_n (at_ dl_X6_distance 3 (ins := .istore_n 2) rfl) (by decide)) (
  tkc (s_iload_n (at_ dl_X6_distance 4 (ins := .iload_n 2) rfl)) (
  tkc (s_iconst (at_ dl_X6_distance 5 (ins := .iconst 1) rfl) (by first | rfl | decide)) (
  tkc (s_aload_n (at_ dl_X6_distance 6 (ins := .aload_n 0) rfl)) (
  tkc (s_gR (at_ dl_X6_distance 7 (ins := .getfield 9) rfl) (by decide) (by decide) (by decide) (tg 210 (by decide +kernel) (by decide +kernel))) (
  tkc (s_gI (at_ dl_X6_distance 8 (ins := .getfield 32) rfl) (by decide) (by decide) (by decide) (tg 136 (by decide +kernel) (by decide +kernel))) (
  tkc (s_ishl (at_ dl_X6_distance 9 (ins := .ishl) rfl)) (
  tkc (s_ic_ge (at_ dl_X6_distance 10 (ins := .if_icmp .ge 38) rfl) (by decide)) (
  tkc (s_iload_n (at_ dl_X6_distance 11 (ins := .iload_n 2) rfl)) (
  tkc (s_cS ok_J6_bitCount_0f7a4 (at_ dl_X6_distance 12 (ins := .invokestatic 43) rfl) (tg 437 (by decide +kernel) (by decide +kernel)) (tg 374 (by decide +kernel) (by decide +kernel)) (tg 53 (by decide +kernel) (by decide +kernel)) (tg 375 (by decide +kernel) (by decide +kernel)) (⟨by decide, by decide, by decide +kernel⟩) (⟨by decide, by decide⟩) rfl rfl) (
  tkc (s_istore_n (at_ dl_X6_distance 13 (ins := .istore_n 3) rfl) (by decide)) (
  tkc (s_iload_n (at_ dl_X6_distance 14 (ins := .iload_n 1) rfl)) (
  tkc (s_bipush (at_ dl_X6_distance 15 (ins := .bipush (-9)) rfl) (by first | rfl | decide)) (
  tkc (s_ic_eq (at_ dl_X6_distance 16 (ins := .if_icmp .eq 8) rfl) (by decide)) (
  tkc (s_iload_n (at_ dl_X6_distance 17 (ins := .iload_n 3) rfl)) (
  tkc (s_iload_n (at_ dl_X6_distance 18 (ins := .iload_n 1) rfl)) (
  tkc (s_ic_ge (at_ dl_X6_distance 19 (ins := .if_icmp .ge 16) rfl) (by decide)) (
  tkc (s_aload_n (at_ dl_X6_distance 20 (ins := .aload_n 0) rfl)) (
  tkc (s_gR (at_ dl_X6_distance 21 (ins := .getfield 9) rfl) (by decide) (by decide) (by decide) (tg 210 (by decide +kernel) (by decide +kernel))) (
  tkc (s_iload_n (at_ dl_X6_distance 22 (ins := .iload_n 2) rfl)) (
  tkc (s_cV ok_X5_openBy (at_ dl_X6_distance 23 (ins := .invokevirtual 48) rfl) (by decide) rfl (tg 438 (by decide +kernel) (by decide +kernel)) (tg 370 (by decide +kernel) (by decide +kernel)) (tg 371 (by decide +kernel) (by decide +kernel)) (tg 45 (by decide +kernel) (by decide +kernel)) (tg 372 (by decide +kernel) (by decide +kernel)) (⟨by decide, by decide, by decide +kernel⟩) (⟨by decide, by decide⟩) rfl rfl) (
  tkc (s_if_ne (at_ dl_X6_distance 24 (ins := .ifCond .ne 5) rfl) (by decide)) (
  tkc (s_iload_n (at_ dl_X6_distance 25 (ins := .iload_n 3) rfl)) (
  tkc (s_istore_n (at_ dl_X6_distance 26 (ins := .istore_n 1) rfl) (by decide)) (
  tkc (s_iinc (at_ dl_X6_distance 27 (ins := .iinc 2 1) rfl) (by decide) (by first | rfl | decide)) (
  tkc (s_goto (at_ dl_X6_distance 28 (ins := .goto (-45)) rfl) (by decide)) (
  tkc (s_iload_n (at_ dl_X6_distance 29 (ins := .iload_n 1) rfl)) (
  tkc (s_rI (at_ dl_X6_distance 30 (ins := .ireturn) rfl) rfl) ( tk0)))))))))))))))))))))))))))))))
theorem lf_X6_distance : lk (tb_X6_distance) 0 = (x_c 2 (.int (-9)), false) ∧ lk (tb_X6_distance) 2 = (x_is 3 1, false) ∧ lk (tb_X6_distance) 3 = (x_c 4 (.int 1), false) ∧ lk (tb_X6_distance) 4 = (x_is 5 2, false) ∧ lk (tb_X6_distance) 5 = (x_il 6 2, true) ∧ lk (tb_X6_distance) 6 = (x_c 7 (.int 1), false) ∧ lk (tb_X6_distance) 7 = (x_al 8 0, false) ∧ lk (tb_X6_distance) 8 = (x_gR 6 0 11, false) ∧ lk (tb_X6_distance) 11 = (x_gI 5 4 14, false) ∧ lk (tb_X6_distance) 14 = (x_ii 15 (fun x y : Int32 => x <<< (y &&& 31)), false) ∧ lk (tb_X6_distance) 15 = (x_ic 53 18 (fun x y : Int32 => y ≤ x), false) ∧ lk (tb_X6_distance) 18 = (x_il 19 2, false) ∧ lk (tb_X6_distance) 19 = (x_cS 1 P_J6_bitCount_0f7a4 22, false) ∧ lk (tb_X6_distance) 22 = (x_is 23 3, false) ∧ lk (tb_X6_distance) 23 = (x_il 24 1, false) ∧ lk (tb_X6_distance) 24 = (x_c 26 (.int (-9)), false) ∧ lk (tb_X6_distance) 26 = (x_ic 34 29 (fun x y : Int32 => x = y), false) ∧ lk (tb_X6_distance) 29 = (x_il 30 3, false) ∧ lk (tb_X6_distance) 30 = (x_il 31 1, false) ∧ lk (tb_X6_distance) 31 = (x_ic 47 34 (fun x y : Int32 => y ≤ x), false) ∧ lk (tb_X6_distance) 34 = (x_al 35 0, false) ∧ lk (tb_X6_distance) 35 = (x_gR 6 0 38, false) ∧ lk (tb_X6_distance) 38 = (x_il 39 2, false) ∧ lk (tb_X6_distance) 39 = (x_cV 5 1 P_X5_openBy 42, false) ∧ lk (tb_X6_distance) 42 = (x_ifn 47 45 (fun x : Int32 => x = 0), false) ∧ lk (tb_X6_distance) 45 = (x_il 46 3, false) ∧ lk (tb_X6_distance) 46 = (x_is 47 1, false) ∧ lk (tb_X6_distance) 47 = (x_inc 50 2 1, false) ∧ lk (tb_X6_distance) 50 = (x_go 5, false) ∧ lk (tb_X6_distance) 53 = (x_il 54 1, false) ∧ lk (tb_X6_distance) 54 = (x_rI, false) := ⟨rfl, rfl, rfl, rfl, rfl, rfl, rfl, rfl, rfl, rfl, rfl, rfl, rfl, rfl, rfl, rfl, rfl, rfl, rfl, rfl, rfl, rfl, rfl, rfl, rfl, rfl, rfl, rfl, rfl, rfl, rfl⟩
def P_X6_distance : PTT := fun as M R => match as with
  | [.ref k] => k = 19 ∧ IsSu M.1 ∧ IsSt M.1 5 ∧ ∃ a, SR M.2.1 5 a ∧ AOk a ∧ R (some (.int (nn (dsF (aV a) (aM a) (2 ^ aN a))))) M
  | _ => False
set_option maxRecDepth 20000 in
theorem ok_X6_distance : Ok yX6_distance mt_X6_distance P_X6_distance := by
  refine Ok.of (by decide) rfl rfl rfl rfl fun av ⟨S, I, L⟩ R hP => ?_
  unfold P_X6_distance at hP
  split at hP
  case h_2 => exact hP.elim
  rename_i k
  obtain ⟨k, rfl⟩ : ∃ q : Nat, q = k := ⟨k, rfl⟩
  refine ⟨by simp [ent, wide, mt_X6_distance], ?_⟩
  show J mt_X6_distance R 0 [some (.ref k), none, none, none] [] (S, I, L)
  try dsimp only at hP
  obtain ⟨rfl, hk, h5, a, hsr, ha, hR⟩ := hP
  have en : I 5 4 = nI (aN a) := hsr.1
  have h9 := ha.1
  have hp := pow9 h9.2.1
  have key := up (P := fun s => 1 ≤ s → J mt_X6_distance R 5 [some (.ref 19), some (.int (nn (dsF (aV a) (aM a) s))), some (.int (nI s)), none] [] (S, I, L)) (n := 2 ^ aN a) (fun s hs ih h1 => ?_) 1 (one_le _) (Nat.le_refl 1)
  · refine J.of tk_X6_distance 200 fun ρ hρ => ?_
    simp only [hρ, x_c, x_il, x_ll, x_al, x_is, x_as, x_ls, x_inc, x_ii, x_iq, x_i1, x_l2, x_lq, x_lh, x_i2l, x_l2i, x_lcmp, x_dup, x_dup2, x_pop, x_if, x_ifn, x_ic, x_icn, x_go, x_sw, swc, x_l01, x_mx, x_gI, x_gL, x_gR, x_pI, x_pZ, x_pL, x_pR, x_ia, x_za, x_aa, x_ias, x_zas, x_aas, x_fac, x_fa, x_slen, x_sa, x_ac, x_oi, x_new, x_na, x_cS, x_cV, x_cI, x_rI, x_rZ, x_rL, x_r0, pa, short, oc, lg, lset, lset2, wide, cond_true, cond_false, true_and, and_true, ↓reduceIte, Bool.false_eq_true, true_or, or_true, lf_X6_distance]
    exact key
  have hq := hsr.ovq ha
  by_cases hlt : s < 2 ^ aN a
  · have et : tn (nI s) = s := tn_nI (by omega)
    have hd := dsF_le (aV a) (aM a) s
    have ho := opB_lt (ov := aV a) (w := s) h9.2.2
    have hs9 := ones9_le s
    have e9 := nn_9 (x := dsF (aV a) (aM a) s) (by omega)
    refine J.of tk_X6_distance 200 fun ρ hρ => ?_
    simp only [hρ, x_c, x_il, x_ll, x_al, x_is, x_as, x_ls, x_inc, x_ii, x_iq, x_i1, x_l2, x_lq, x_lh, x_i2l, x_l2i, x_lcmp, x_dup, x_dup2, x_pop, x_if, x_ifn, x_ic, x_icn, x_go, x_sw, swc, x_l01, x_mx, x_gI, x_gL, x_gR, x_pI, x_pZ, x_pL, x_pR, x_ia, x_za, x_aa, x_ias, x_zas, x_aas, x_fac, x_fa, x_slen, x_sa, x_ac, x_oi, x_new, x_na, x_cS, x_cV, x_cI, x_rI, x_rZ, x_rL, x_r0, pa, short, oc, lg, lset, lset2, wide, cond_true, cond_false, true_and, and_true, ↓reduceIte, Bool.false_eq_true, true_or, or_true, lf_X6_distance, hk, hk.f, h5, h5.f, en, shl1 (show aN a < 31 by omega), nI_leI (show 2 ^ aN a < 2 ^ 31 by omega) (show s < 2 ^ 31 by omega), nI_1, P_J6_bitCount_0f7a4, P_X5_openBy, et, hsr.opw ha, eq_true hq, nI_z (show opB (aV a) (aM a) s < 2 ^ 31 by omega), e9, true_and]
    refine ⟨fun h => absurd h (by omega), fun _ => ⟨by omega, ?_⟩⟩
    have hr : ∀ x, dsF (aV a) (aM a) (s + 1) = x → J mt_X6_distance R 5 [some (.ref 19), some (.int (nn x)), some (.int (nI (s + 1))), none] [] (S, I, L) := fun x hx => hx ▸ ih hlt (by omega)
    have ht : opB (aV a) (aM a) s = 0 → ones9 s < dsF (aV a) (aM a) s → J mt_X6_distance R 5 [some (.ref 19), some (.int (nI (ones9 s))), some (.int (nI (s + 1))), none] [] (S, I, L) := fun h2 h3 => by
      have := hr (ones9 s) (by rw [dsF, if_pos ⟨by omega, h2, h3⟩])
      rwa [nn, if_neg (by omega)] at this
    have hf : ¬ (opB (aV a) (aM a) s = 0 ∧ ones9 s < dsF (aV a) (aM a) s) → J mt_X6_distance R 5 [some (.ref 19), some (.int (nn (dsF (aV a) (aM a) s))), some (.int (nI (s + 1))), none] [] (S, I, L) := fun h2 => hr _ (by rw [dsF, if_neg (fun q => h2 q.2)])
    refine ⟨fun h99 => ⟨by omega, fun h => J.weak (by simp [lsub]) (hf (fun q => h q.1)), fun h => J.weak (by simp [lsub]) (ht h (by omega))⟩, fun h99 => ?_⟩
    rw [show nn (dsF (aV a) (aM a) s) = nI (dsF (aV a) (aM a) s) from if_neg h99] at hf ⊢
    rw [nI_leI (by omega) (by omega)]
    exact ⟨fun h => J.weak (by simp [lsub]) (hf (fun q => by omega)), fun h => ⟨by omega, fun h2 => J.weak (by simp [lsub]) (hf (fun q => h2 q.1)), fun h2 => J.weak (by simp [lsub]) (ht h2 (by omega))⟩⟩
  · have : s = 2 ^ aN a := by omega
    subst this
    refine J.of tk_X6_distance 200 fun ρ hρ => ?_
    simp only [hρ, x_c, x_il, x_ll, x_al, x_is, x_as, x_ls, x_inc, x_ii, x_iq, x_i1, x_l2, x_lq, x_lh, x_i2l, x_l2i, x_lcmp, x_dup, x_dup2, x_pop, x_if, x_ifn, x_ic, x_icn, x_go, x_sw, swc, x_l01, x_mx, x_gI, x_gL, x_gR, x_pI, x_pZ, x_pL, x_pR, x_ia, x_za, x_aa, x_ias, x_zas, x_aas, x_fac, x_fa, x_slen, x_sa, x_ac, x_oi, x_new, x_na, x_cS, x_cV, x_cI, x_rI, x_rZ, x_rL, x_r0, pa, short, oc, lg, lset, lset2, wide, cond_true, cond_false, true_and, and_true, ↓reduceIte, Bool.false_eq_true, true_or, or_true, lf_X6_distance, hk, hk.f, h5, h5.f, en, shl1 (show aN a < 31 by omega), nI_leI (show 2 ^ aN a < 2 ^ 31 by omega) (show 2 ^ aN a < 2 ^ 31 by omega), Nat.le_refl, true_implies, not_true_eq_false, false_implies]
    exact hR
def il_X6_isTrap : List (Nat × Instr × Nat) := [(0, .iload_n 1, 1), (1, .invokestatic 43, 3), (4, .iload_n 2, 1), (5, .if_icmp .ne 22, 3), (8, .aload_n 0, 1), (9, .getfield 9, 3), (12, .iload_n 1, 1), (13, .invokevirtual 48, 3), (16, .invokestatic 43, 3), (19, .iload_n 3, 1), (20, .if_icmp .ne 7, 3), (23, .iconst 1, 1), (24, .goto 4, 3), (27, .iconst 0, 1), (28, .ireturn, 1)]
def mt_X6_isTrap : Mt := (cX6_isTrap, RX6, 4, (some .boolean), ({ frames := 2, cells := 0, slots := 0, locals := 43 } : Room), false, none, none)
set_option maxRecDepth 100000 in
theorem dl_X6_isTrap : ∀ q ∈ il_X6_isTrap, decode (mt_X6_isTrap).1 q.1 = .ok q.2 := by decide +kernel
def tb_X6_isTrap : Tb := [(0, x_il 1 1, false),
  (1, x_cS 1 P_J6_bitCount_0f7a4 4, false),
  (4, x_il 5 2, false),
  (5, x_icn 27 8 (fun x y : Int32 => x = y), false),
  (8, x_al 9 0, false),
  (9, x_gR 6 0 12, false),
  (12, x_il 13 1, false),
  (13, x_cV 5 1 P_X5_openBy 16, false),
  (16, x_cS 1 P_J6_bitCount_0f7a4 19, false),
  (19, x_il 20 3, false),
  (20, x_icn 27 23 (fun x y : Int32 => x = y), false),
  (23, x_c 24 (.int 1), false),
  (24, x_go 28, false),
  (27, x_c 28 (.int 0), false),
  (28, x_rZ, false)]
set_option maxRecDepth 100000 in
theorem tk_X6_isTrap : TbOk (mt_X6_isTrap) (tb_X6_isTrap) :=
  tkc (s_iload_n (at_ dl_X6_isTrap 0 (ins := .iload_n 1) rfl)) (
  tkc (s_cS ok_J6_bitCount_0f7a4 (at_ dl_X6_isTrap 1 (ins := .invokestatic 43) rfl) (tg 437 (by decide +kernel) (by decide +kernel)) (tg 374 (by decide +kernel) (by decide +kernel)) (tg 53 (by decide +kernel) (by decide +kernel)) (tg 375 (by decide +kernel) (by decide +kernel)) (⟨by decide, by decide, by decide +kernel⟩) (⟨by decide, by decide⟩) rfl rfl) (
  tkc (s_iload_n (at_ dl_X6_isTrap 2 (ins := .iload_n 2) rfl)) (
  tkc (s_ic_ne (at_ dl_X6_isTrap 3 (ins := .if_icmp .ne 22) rfl) (by decide)) (
  tkc (s_aload_n (at_ dl_X6_isTrap 4 (ins := .aload_n 0) rfl)) (
  tkc (s_gR (at_ dl_X6_isTrap 5 (ins := .getfield 9) rfl) (by decide) (by decide) (by decide) (tg 210 (by decide +kernel) (by decide +kernel))) (
  tkc (s_iload_n (at_ dl_X6_isTrap 6 (ins := .iload_n 1) rfl)) (
  tkc (s_cV ok_X5_openBy (at_ dl_X6_isTrap 7 (ins := .invokevirtual 48) rfl) (by decide) rfl (tg 438 (by decide +kernel) (by decide +kernel)) (tg 370 (by decide +kernel) (by decide +kernel)) (tg 371 (by decide +kernel) (by decide +kernel)) (tg 45 (by decide +kernel) (by decide +kernel)) (tg 372 (by decide +kernel) (by decide +kernel)) (⟨by decide, by decide, by decide +kernel⟩) (⟨by decide, by decide⟩) rfl rfl) (
  tkc (s_cS ok_J6_bitCount_0f7a4 (at_ dl_X6_isTrap 8 (ins := .invokestatic 43) rfl) (tg 437 (by decide +kernel) (by decide +kernel)) (tg 374 (by decide +kernel) (by decide +kernel)) (tg 53 (by decide +kernel) (by decide +kernel)) (tg 375 (by decide +kernel) (by decide +kernel)) (⟨by decide, by decide, by decide +kernel⟩) (⟨by decide, by decide⟩) rfl rfl) (
  tkc (s_iload_n (at_ dl_X6_isTrap 9 (ins := .iload_n 3) rfl)) (
  tkc (s_ic_ne (at_ dl_X6_isTrap 10 (ins := .if_icmp .ne 7) rfl) (by decide)) (
  tkc (s_iconst (at_ dl_X6_isTrap 11 (ins := .iconst 1) rfl) (by first | rfl | decide)) (
  tkc (s_goto (at_ dl_X6_isTrap 12 (ins := .goto 4) rfl) (by decide)) (
  tkc (s_iconst (at_ dl_X6_isTrap 13 (ins := .iconst 0) rfl) (by first | rfl | decide)) (
  tkc (s_rZ (at_ dl_X6_isTrap 14 (ins := .ireturn) rfl) rfl) ( tk0)))))))))))))))
theorem lf_X6_isTrap : lk (tb_X6_isTrap) 0 = (x_il 1 1, false) ∧ lk (tb_X6_isTrap) 1 = (x_cS 1 P_J6_bitCount_0f7a4 4, false) ∧ lk (tb_X6_isTrap) 4 = (x_il 5 2, false) ∧ lk (tb_X6_isTrap) 5 = (x_icn 27 8 (fun x y : Int32 => x = y), false) ∧ lk (tb_X6_isTrap) 8 = (x_al 9 0, false) ∧ lk (tb_X6_isTrap) 9 = (x_gR 6 0 12, false) ∧ lk (tb_X6_isTrap) 12 = (x_il 13 1, false) ∧ lk (tb_X6_isTrap) 13 = (x_cV 5 1 P_X5_openBy 16, false) ∧ lk (tb_X6_isTrap) 16 = (x_cS 1 P_J6_bitCount_0f7a4 19, false) ∧ lk (tb_X6_isTrap) 19 = (x_il 20 3, false) ∧ lk (tb_X6_isTrap) 20 = (x_icn 27 23 (fun x y : Int32 => x = y), false) ∧ lk (tb_X6_isTrap) 23 = (x_c 24 (.int 1), false) ∧ lk (tb_X6_isTrap) 24 = (x_go 28, false) ∧ lk (tb_X6_isTrap) 27 = (x_c 28 (.int 0), false) ∧ lk (tb_X6_isTrap) 28 = (x_rZ, false) := ⟨rfl, rfl, rfl, rfl, rfl, rfl, rfl, rfl, rfl, rfl, rfl, rfl, rfl, rfl, rfl⟩
/-- a trap of so many bits that opens so many checks -/
def tpB (ov : Nat → Nat) (m : Nat) (x y : Int32) (s : Nat) : Bool := (nI (ones9 s) == x) && (nI (ones9 (opB ov m s)) == y)
def P_X6_isTrap : PTT := fun as M R => match as with
  | [.ref k, .int s, .int x, .int y] => k = 19 ∧ IsSu M.1 ∧ IsSt M.1 5 ∧ tn s < 512 ∧ ∃ a, SR M.2.1 5 a ∧ AOk a ∧ R (some (.int (bB (tpB (aV a) (aM a) x y (tn s))))) M
  | _ => False
set_option maxRecDepth 20000 in
theorem ok_X6_isTrap : Ok yX6_isTrap mt_X6_isTrap P_X6_isTrap := by
  refine Ok.of (by decide) rfl rfl rfl rfl fun av ⟨S, I, L⟩ R hP => ?_
  unfold P_X6_isTrap at hP
  split at hP
  case h_2 => exact hP.elim
  rename_i k s x y
  obtain ⟨k, rfl⟩ : ∃ q : Nat, q = k := ⟨k, rfl⟩
  refine ⟨by simp [ent, wide, mt_X6_isTrap], ?_⟩
  show J mt_X6_isTrap R 0 [some (.ref k), some (.int s), some (.int x), some (.int y)] [] (S, I, L)
  try dsimp only at hP
  obtain ⟨rfl, hk, h5, hs, a, hsr, ha, hR⟩ := hP
  obtain ⟨w, hw, rfl⟩ := tn_ex hs
  have et : tn (nI w) = w := tn_nI (by omega)
  have hq := hsr.ovq ha
  have ho := opB_lt (ov := aV a) (w := w) ha.1.2.2
  have eo : tn (nI (opB (aV a) (aM a) w)) = opB (aV a) (aM a) w := tn_nI (by omega)
  rw [et] at hR
  refine J.of tk_X6_isTrap 200 fun ρ hρ => ?_
  simp only [hρ, x_c, x_il, x_ll, x_al, x_is, x_as, x_ls, x_inc, x_ii, x_iq, x_i1, x_l2, x_lq, x_lh, x_i2l, x_l2i, x_lcmp, x_dup, x_dup2, x_pop, x_if, x_ifn, x_ic, x_icn, x_go, x_sw, swc, x_l01, x_mx, x_gI, x_gL, x_gR, x_pI, x_pZ, x_pL, x_pR, x_ia, x_za, x_aa, x_ias, x_zas, x_aas, x_fac, x_fa, x_slen, x_sa, x_ac, x_oi, x_new, x_na, x_cS, x_cV, x_cI, x_rI, x_rZ, x_rL, x_r0, pa, short, oc, lg, lset, lset2, wide, cond_true, cond_false, true_and, and_true, ↓reduceIte, Bool.false_eq_true, true_or, or_true, lf_X6_isTrap, hk, hk.f, h5, h5.f, P_J6_bitCount_0f7a4, P_X5_openBy, et, eo, hsr.opw ha, eq_true hq, eq_true hw, eq_true (show opB (aV a) (aM a) w < 512 by omega), true_and, Classical.not_not]
  have h1 : ∀ v, bB (tpB (aV a) (aM a) x y w) = v → R (some (.int v)) (S, I, L) := fun v hv => hv ▸ hR
  refine ⟨fun h => h1 0 (bB_f (by simp [tpB, h])), fun h => ⟨fun h2 => h1 0 (bB_f (by simp [tpB, h2])), fun h2 => h1 1 (bB_t (by simp [tpB, h, h2]))⟩⟩
/-- how many from 1 to below s -/
def cnB (f : Nat → Bool) : Nat → Nat
  | 0 => 0
  | s + 1 => cnB f s + (if s ≠ 0 ∧ f s = true then 1 else 0)
/-- the least from 1 to below s -/
def lsB (f : Nat → Bool) : Nat → Int32
  | 0 => -9
  | s + 1 => if s ≠ 0 ∧ f s = true ∧ cnB f s = 0 then nI s else lsB f s
theorem cnB_mono {f : Nat → Bool} {s : Nat} : ∀ {t : Nat}, s ≤ t → cnB f s ≤ cnB f t
  | 0, h => by have : s = 0 := by omega
               subst this; exact Nat.le_refl _
  | t + 1, h => by
    by_cases h1 : s = t + 1
    · subst h1; exact Nat.le_refl _
    · exact Nat.le_trans (cnB_mono (show s ≤ t by omega)) (by simp only [cnB]; omega)
theorem lsB_none {f : Nat → Bool} : ∀ {s : Nat}, cnB f s = 0 → lsB f s = -9
  | 0, _ => rfl
  | s + 1, h => by
    simp only [cnB] at h
    have h1 : cnB f s = 0 := by omega
    rw [lsB, if_neg (fun q => by rw [if_pos ⟨q.1, q.2.1⟩] at h; omega), lsB_none h1]
theorem lsB_stay {f : Nat → Bool} {s : Nat} (h : cnB f s ≠ 0) : ∀ {t : Nat}, s ≤ t → lsB f t = lsB f s
  | 0, h1 => by have : s = 0 := by omega
                subst this; rfl
  | t + 1, h1 => by
    by_cases h2 : s = t + 1
    · subst h2; rfl
    · have h3 : s ≤ t := by omega
      have := cnB_mono (f := f) h3
      rw [lsB, if_neg (fun q => by omega), lsB_stay h h3]
theorem cnB_le (f : Nat → Bool) : ∀ s, cnB f s ≤ s
  | 0 => Nat.le_refl _
  | s + 1 => by have := cnB_le f s; simp only [cnB]; split <;> omega
def il_X6_howManyTraps : List (Nat × Instr × Nat) := [(0, .iconst 0, 1), (1, .istore_n 3, 1), (2, .iconst 1, 1), (3, .istore 4, 2), (5, .iload 4, 2), (7, .iconst 1, 1), (8, .aload_n 0, 1), (9, .getfield 9, 3), (12, .getfield 32, 3), (15, .ishl, 1), (16, .if_icmp .ge 23, 3), (19, .aload_n 0, 1), (20, .iload 4, 2), (22, .iload_n 1, 1), (23, .iload_n 2, 1), (24, .invokevirtual 51, 3), (27, .ifCond .eq 6, 3), (30, .iinc 3 1, 3), (33, .iinc 4 1, 3), (36, .goto (-31), 3), (39, .iload_n 3, 1), (40, .ireturn, 1)]
def mt_X6_howManyTraps : Mt := (cX6_howManyTraps, RX6, 5, (some .int), ({ frames := 3, cells := 0, slots := 0, locals := 66 } : Room), false, none, none)
set_option maxRecDepth 100000 in
theorem dl_X6_howManyTraps : ∀ q ∈ il_X6_howManyTraps, decode (mt_X6_howManyTraps).1 q.1 = .ok q.2 := by decide +kernel
def tb_X6_howManyTraps : Tb := [(0, x_c 1 (.int 0), false),
  (1, x_is 2 3, false),
  (2, x_c 3 (.int 1), false),
  (3, x_is 5 4, false),
  (5, x_il 7 4, true),
  (7, x_c 8 (.int 1), false),
  (8, x_al 9 0, false),
  (9, x_gR 6 0 12, false),
  (12, x_gI 5 4 15, false),
  (15, x_ii 16 (fun x y : Int32 => x <<< (y &&& 31)), false),
  (16, x_ic 39 19 (fun x y : Int32 => y ≤ x), false),
  (19, x_al 20 0, false),
  (20, x_il 22 4, false),
  (22, x_il 23 1, false),
  (23, x_il 24 2, false),
  (24, x_cV 6 3 P_X6_isTrap 27, false),
  (27, x_if 33 30 (fun x : Int32 => x = 0), false),
  (30, x_inc 33 3 1, false),
  (33, x_inc 36 4 1, false),
  (36, x_go 5, false),
  (39, x_il 40 3, false),
  (40, x_rI, false)]
set_option maxRecDepth 100000 in
theorem tk_X6_howManyTraps : TbOk (mt_X6_howManyTraps) (tb_X6_howManyTraps) :=
  tkc (s_iconst (at_ dl_X6_howManyTraps 0 (ins := .iconst 0) rfl) (by first | rfl | decide)) (
  tkc (s_istore_n (at_ dl_X6_howManyTraps 1 (ins := .istore_n 3) rfl) (by decide)) (
  tkc (s_iconst (at_ dl_X6_howManyTraps 2 (ins := .iconst 1) rfl) (by first | rfl | decide)) (
  tkc (s_istore (at_ dl_X6_howManyTraps 3 (ins := .istore 4) rfl) (by decide)) (
  tkc (s_iload (at_ dl_X6_howManyTraps 4 (ins := .iload 4) rfl)) (
  tkc (s_iconst (at_ dl_X6_howManyTraps 5 (ins := .iconst 1) rfl) (by first | rfl | decide)) (
  tkc (s_aload_n (at_ dl_X6_howManyTraps 6 (ins := .aload_n 0) rfl)) (
  tkc (s_gR (at_ dl_X6_howManyTraps 7 (ins := .getfield 9) rfl) (by decide) (by decide) (by decide) (tg 210 (by decide +kernel) (by decide +kernel))) (
  tkc (s_gI (at_ dl_X6_howManyTraps 8 (ins := .getfield 32) rfl) (by decide) (by decide) (by decide) (tg 136 (by decide +kernel) (by decide +kernel))) (
  tkc (s_ishl (at_ dl_X6_howManyTraps 9 (ins := .ishl) rfl)) (
  tkc (s_ic_ge (at_ dl_X6_howManyTraps 10 (ins := .if_icmp .ge 23) rfl) (by decide)) (
  tkc (s_aload_n (at_ dl_X6_howManyTraps 11 (ins := .aload_n 0) rfl)) (
  tkc (s_iload (at_ dl_X6_howManyTraps 12 (ins := .iload 4) rfl)) (
  tkc (s_iload_n (at_ dl_X6_howManyTraps 13 (ins := .iload_n 1) rfl)) (
  tkc (s_iload_n (at_ dl_X6_howManyTraps 14 (ins := .iload_n 2) rfl)) (
  tkc (s_cV ok_X6_isTrap (at_ dl_X6_howManyTraps 15 (ins := .invokevirtual 51) rfl) (by decide) rfl (tg 557 (by decide +kernel) (by decide +kernel)) (tg 559 (by decide +kernel) (by decide +kernel)) (tg 14 (by decide +kernel) (by decide +kernel)) (tg 48 (by decide +kernel) (by decide +kernel)) (tg 560 (by decide +kernel) (by decide +kernel)) (⟨by decide, by decide, by decide +kernel⟩) (⟨by decide, by decide⟩) rfl rfl) (
  tkc (s_if_eq (at_ dl_X6_howManyTraps 16 (ins := .ifCond .eq 6) rfl) (by decide)) (
  tkc (s_iinc (at_ dl_X6_howManyTraps 17 (ins := .iinc 3 1) rfl) (by decide) (by first | rfl | decide)) (
  tkc (s_iinc (at_ dl_X6_howManyTraps 18 (ins := .iinc 4 1) rfl) (by decide) (by first | rfl | decide)) (
  tkc (s_goto (at_ dl_X6_howManyTraps 19 (ins := .goto (-31)) rfl) (by decide)) (
  tkc (s_iload_n (at_ dl_X6_howManyTraps 20 (ins := .iload_n 3) rfl)) (
  tkc (s_rI (at_ dl_X6_howManyTraps 21 (ins := .ireturn) rfl) rfl) ( tk0))))))))))))))))))))))
theorem lf_X6_howManyTraps : lk (tb_X6_howManyTraps) 0 = (x_c 1 (.int 0), false) ∧ lk (tb_X6_howManyTraps) 1 = (x_is 2 3, false) ∧ lk (tb_X6_howManyTraps) 2 = (x_c 3 (.int 1), false) ∧ lk (tb_X6_howManyTraps) 3 = (x_is 5 4, false) ∧ lk (tb_X6_howManyTraps) 5 = (x_il 7 4, true) ∧ lk (tb_X6_howManyTraps) 7 = (x_c 8 (.int 1), false) ∧ lk (tb_X6_howManyTraps) 8 = (x_al 9 0, false) ∧ lk (tb_X6_howManyTraps) 9 = (x_gR 6 0 12, false) ∧ lk (tb_X6_howManyTraps) 12 = (x_gI 5 4 15, false) ∧ lk (tb_X6_howManyTraps) 15 = (x_ii 16 (fun x y : Int32 => x <<< (y &&& 31)), false) ∧ lk (tb_X6_howManyTraps) 16 = (x_ic 39 19 (fun x y : Int32 => y ≤ x), false) ∧ lk (tb_X6_howManyTraps) 19 = (x_al 20 0, false) ∧ lk (tb_X6_howManyTraps) 20 = (x_il 22 4, false) ∧ lk (tb_X6_howManyTraps) 22 = (x_il 23 1, false) ∧ lk (tb_X6_howManyTraps) 23 = (x_il 24 2, false) ∧ lk (tb_X6_howManyTraps) 24 = (x_cV 6 3 P_X6_isTrap 27, false) ∧ lk (tb_X6_howManyTraps) 27 = (x_if 33 30 (fun x : Int32 => x = 0), false) ∧ lk (tb_X6_howManyTraps) 30 = (x_inc 33 3 1, false) ∧ lk (tb_X6_howManyTraps) 33 = (x_inc 36 4 1, false) ∧ lk (tb_X6_howManyTraps) 36 = (x_go 5, false) ∧ lk (tb_X6_howManyTraps) 39 = (x_il 40 3, false) ∧ lk (tb_X6_howManyTraps) 40 = (x_rI, false) := ⟨rfl, rfl, rfl, rfl, rfl, rfl, rfl, rfl, rfl, rfl, rfl, rfl, rfl, rfl, rfl, rfl, rfl, rfl, rfl, rfl, rfl, rfl⟩
def P_X6_howManyTraps : PTT := fun as M R => match as with
  | [.ref k, .int x, .int y] => k = 19 ∧ IsSu M.1 ∧ IsSt M.1 5 ∧ ∃ a, SR M.2.1 5 a ∧ AOk a ∧ R (some (.int (nI (cnB (tpB (aV a) (aM a) x y) (2 ^ aN a))))) M
  | _ => False
set_option maxRecDepth 20000 in
theorem ok_X6_howManyTraps : Ok yX6_howManyTraps mt_X6_howManyTraps P_X6_howManyTraps := by
  refine Ok.of (by decide) rfl rfl rfl rfl fun av ⟨S, I, L⟩ R hP => ?_
  unfold P_X6_howManyTraps at hP
  split at hP
  case h_2 => exact hP.elim
  rename_i k x y
  obtain ⟨k, rfl⟩ : ∃ q : Nat, q = k := ⟨k, rfl⟩
  refine ⟨by simp [ent, wide, mt_X6_howManyTraps], ?_⟩
  show J mt_X6_howManyTraps R 0 [some (.ref k), some (.int x), some (.int y), none, none] [] (S, I, L)
  try dsimp only at hP
  obtain ⟨rfl, hk, h5, a, hsr, ha, hR⟩ := hP
  have en : I 5 4 = nI (aN a) := hsr.1
  have h9 := ha.1
  have hp := pow9 h9.2.1
  have key := up (P := fun s => 1 ≤ s → J mt_X6_howManyTraps R 5 [some (.ref 19), some (.int x), some (.int y), some (.int (nI (cnB (tpB (aV a) (aM a) x y) s))), some (.int (nI s))] [] (S, I, L)) (n := 2 ^ aN a) (fun s hs ih h1 => ?_) 1 (one_le _) (Nat.le_refl 1)
  · refine J.of tk_X6_howManyTraps 200 fun ρ hρ => ?_
    simp only [hρ, x_c, x_il, x_ll, x_al, x_is, x_as, x_ls, x_inc, x_ii, x_iq, x_i1, x_l2, x_lq, x_lh, x_i2l, x_l2i, x_lcmp, x_dup, x_dup2, x_pop, x_if, x_ifn, x_ic, x_icn, x_go, x_sw, swc, x_l01, x_mx, x_gI, x_gL, x_gR, x_pI, x_pZ, x_pL, x_pR, x_ia, x_za, x_aa, x_ias, x_zas, x_aas, x_fac, x_fa, x_slen, x_sa, x_ac, x_oi, x_new, x_na, x_cS, x_cV, x_cI, x_rI, x_rZ, x_rL, x_r0, pa, short, oc, lg, lset, lset2, wide, cond_true, cond_false, true_and, and_true, ↓reduceIte, Bool.false_eq_true, true_or, or_true, lf_X6_howManyTraps]
    exact key
  by_cases hlt : s < 2 ^ aN a
  · have et : tn (nI s) = s := tn_nI (by omega)
    refine J.of tk_X6_howManyTraps 200 fun ρ hρ => ?_
    simp only [hρ, x_c, x_il, x_ll, x_al, x_is, x_as, x_ls, x_inc, x_ii, x_iq, x_i1, x_l2, x_lq, x_lh, x_i2l, x_l2i, x_lcmp, x_dup, x_dup2, x_pop, x_if, x_ifn, x_ic, x_icn, x_go, x_sw, swc, x_l01, x_mx, x_gI, x_gL, x_gR, x_pI, x_pZ, x_pL, x_pR, x_ia, x_za, x_aa, x_ias, x_zas, x_aas, x_fac, x_fa, x_slen, x_sa, x_ac, x_oi, x_new, x_na, x_cS, x_cV, x_cI, x_rI, x_rZ, x_rL, x_r0, pa, short, oc, lg, lset, lset2, wide, cond_true, cond_false, true_and, and_true, ↓reduceIte, Bool.false_eq_true, true_or, or_true, lf_X6_howManyTraps, hk, hk.f, h5, h5.f, en, shl1 (show aN a < 31 by omega), nI_leI (show 2 ^ aN a < 2 ^ 31 by omega) (show s < 2 ^ 31 by omega), nI_1, P_X6_isTrap, et, bB_0, Classical.not_not, eq_true (show s < 512 by omega), true_and]
    refine ⟨fun h => absurd h (by omega), fun _ => ⟨a, hsr, ha, fun h => ?_, fun h => ?_⟩⟩
    · have := ih hlt (by omega)
      rwa [cnB, if_neg (fun q => h q.2)] at this
    · have := ih hlt (by omega)
      rwa [cnB, if_pos ⟨by omega, h⟩] at this
  · have : s = 2 ^ aN a := by omega
    subst this
    refine J.of tk_X6_howManyTraps 200 fun ρ hρ => ?_
    simp only [hρ, x_c, x_il, x_ll, x_al, x_is, x_as, x_ls, x_inc, x_ii, x_iq, x_i1, x_l2, x_lq, x_lh, x_i2l, x_l2i, x_lcmp, x_dup, x_dup2, x_pop, x_if, x_ifn, x_ic, x_icn, x_go, x_sw, swc, x_l01, x_mx, x_gI, x_gL, x_gR, x_pI, x_pZ, x_pL, x_pR, x_ia, x_za, x_aa, x_ias, x_zas, x_aas, x_fac, x_fa, x_slen, x_sa, x_ac, x_oi, x_new, x_na, x_cS, x_cV, x_cI, x_rI, x_rZ, x_rL, x_r0, pa, short, oc, lg, lset, lset2, wide, cond_true, cond_false, true_and, and_true, ↓reduceIte, Bool.false_eq_true, true_or, or_true, lf_X6_howManyTraps, hk, hk.f, h5, h5.f, en, shl1 (show aN a < 31 by omega), nI_leI (show 2 ^ aN a < 2 ^ 31 by omega) (show 2 ^ aN a < 2 ^ 31 by omega), Nat.le_refl, true_implies, not_true_eq_false, false_implies]
    exact hR
def il_X6_leastTrap : List (Nat × Instr × Nat) := [(0, .iconst 1, 1), (1, .istore_n 3, 1), (2, .iload_n 3, 1), (3, .iconst 1, 1), (4, .aload_n 0, 1), (5, .getfield 9, 3), (8, .getfield 32, 3), (11, .ishl, 1), (12, .if_icmp .ge 21, 3), (15, .aload_n 0, 1), (16, .iload_n 3, 1), (17, .iload_n 1, 1), (18, .iload_n 2, 1), (19, .invokevirtual 51, 3), (22, .ifCond .eq 5, 3), (25, .iload_n 3, 1), (26, .ireturn, 1), (27, .iinc 3 1, 3), (30, .goto (-28), 3), (33, .bipush (-9), 2), (35, .ireturn, 1)]
def mt_X6_leastTrap : Mt := (cX6_leastTrap, RX6, 4, (some .int), ({ frames := 3, cells := 0, slots := 0, locals := 66 } : Room), false, none, none)
set_option maxRecDepth 100000 in
theorem dl_X6_leastTrap : ∀ q ∈ il_X6_leastTrap, decode (mt_X6_leastTrap).1 q.1 = .ok q.2 := by decide +kernel
def tb_X6_leastTrap : Tb := [(0, x_c 1 (.int 1), false),
  (1, x_is 2 3, false),
  (2, x_il 3 3, true),
  (3, x_c 4 (.int 1), false),
  (4, x_al 5 0, false),
  (5, x_gR 6 0 8, false),
  (8, x_gI 5 4 11, false),
  (11, x_ii 12 (fun x y : Int32 => x <<< (y &&& 31)), false),
  (12, x_ic 33 15 (fun x y : Int32 => y ≤ x), false),
  (15, x_al 16 0, false),
  (16, x_il 17 3, false),
  (17, x_il 18 1, false),
  (18, x_il 19 2, false),
  (19, x_cV 6 3 P_X6_isTrap 22, false),
  (22, x_if 27 25 (fun x : Int32 => x = 0), false),
  (25, x_il 26 3, false),
  (26, x_rI, false),
  (27, x_inc 30 3 1, false),
  (30, x_go 2, false),
  (33, x_c 35 (.int (-9)), false),
  (35, x_rI, false)]
set_option maxRecDepth 100000 in
theorem tk_X6_leastTrap : TbOk (mt_X6_leastTrap) (tb_X6_leastTrap) :=
  tkc (s_iconst (at_ dl_X6_leastTrap 0 (ins := .iconst 1) rfl) (by first | rfl | decide)) (
  tkc (s_istore_n (at_ dl_X6_leastTrap 1 (ins := .istore_n 3) rfl) (by decide)) (
  tkc (s_iload_n (at_ dl_X6_leastTrap 2 (ins := .iload_n 3) rfl)) (
  tkc (s_iconst (at_ dl_X6_leastTrap 3 (ins := .iconst 1) rfl) (by first | rfl | decide)) (
  tkc (s_aload_n (at_ dl_X6_leastTrap 4 (ins := .aload_n 0) rfl)) (
  tkc (s_gR (at_ dl_X6_leastTrap 5 (ins := .getfield 9) rfl) (by decide) (by decide) (by decide) (tg 210 (by decide +kernel) (by decide +kernel))) (
  tkc (s_gI (at_ dl_X6_leastTrap 6 (ins := .getfield 32) rfl) (by decide) (by decide) (by decide) (tg 136 (by decide +kernel) (by decide +kernel))) (
  tkc (s_ishl (at_ dl_X6_leastTrap 7 (ins := .ishl) rfl)) (
  tkc (s_ic_ge (at_ dl_X6_leastTrap 8 (ins := .if_icmp .ge 21) rfl) (by decide)) (
  tkc (s_aload_n (at_ dl_X6_leastTrap 9 (ins := .aload_n 0) rfl)) (
  tkc (s_iload_n (at_ dl_X6_leastTrap 10 (ins := .iload_n 3) rfl)) (
  tkc (s_iload_n (at_ dl_X6_leastTrap 11 (ins := .iload_n 1) rfl)) (
  tkc (s_iload_n (at_ dl_X6_leastTrap 12 (ins := .iload_n 2) rfl)) (
  tkc (s_cV ok_X6_isTrap (at_ dl_X6_leastTrap 13 (ins := .invokevirtual 51) rfl) (by decide) rfl (tg 557 (by decide +kernel) (by decide +kernel)) (tg 559 (by decide +kernel) (by decide +kernel)) (tg 14 (by decide +kernel) (by decide +kernel)) (tg 48 (by decide +kernel) (by decide +kernel)) (tg 560 (by decide +kernel) (by decide +kernel)) (⟨by decide, by decide, by decide +kernel⟩) (⟨by decide, by decide⟩) rfl rfl) (
  tkc (s_if_eq (at_ dl_X6_leastTrap 14 (ins := .ifCond .eq 5) rfl) (by decide)) (
  tkc (s_iload_n (at_ dl_X6_leastTrap 15 (ins := .iload_n 3) rfl)) (
  tkc (s_rI (at_ dl_X6_leastTrap 16 (ins := .ireturn) rfl) rfl) (
  tkc (s_iinc (at_ dl_X6_leastTrap 17 (ins := .iinc 3 1) rfl) (by decide) (by first | rfl | decide)) (
  tkc (s_goto (at_ dl_X6_leastTrap 18 (ins := .goto (-28)) rfl) (by decide)) (
  tkc (s_bipush (at_ dl_X6_leastTrap 19 (ins := .bipush (-9)) rfl) (by first | rfl | decide)) (
  tkc (s_rI (at_ dl_X6_leastTrap 20 (ins := .ireturn) rfl) rfl) ( tk0)))))))))))))))))))))
theorem lf_X6_leastTrap : lk (tb_X6_leastTrap) 0 = (x_c 1 (.int 1), false) ∧ lk (tb_X6_leastTrap) 1 = (x_is 2 3, false) ∧ lk (tb_X6_leastTrap) 2 = (x_il 3 3, true) ∧ lk (tb_X6_leastTrap) 3 = (x_c 4 (.int 1), false) ∧ lk (tb_X6_leastTrap) 4 = (x_al 5 0, false) ∧ lk (tb_X6_leastTrap) 5 = (x_gR 6 0 8, false) ∧ lk (tb_X6_leastTrap) 8 = (x_gI 5 4 11, false) ∧ lk (tb_X6_leastTrap) 11 = (x_ii 12 (fun x y : Int32 => x <<< (y &&& 31)), false) ∧ lk (tb_X6_leastTrap) 12 = (x_ic 33 15 (fun x y : Int32 => y ≤ x), false) ∧ lk (tb_X6_leastTrap) 15 = (x_al 16 0, false) ∧ lk (tb_X6_leastTrap) 16 = (x_il 17 3, false) ∧ lk (tb_X6_leastTrap) 17 = (x_il 18 1, false) ∧ lk (tb_X6_leastTrap) 18 = (x_il 19 2, false) ∧ lk (tb_X6_leastTrap) 19 = (x_cV 6 3 P_X6_isTrap 22, false) ∧ lk (tb_X6_leastTrap) 22 = (x_if 27 25 (fun x : Int32 => x = 0), false) ∧ lk (tb_X6_leastTrap) 25 = (x_il 26 3, false) ∧ lk (tb_X6_leastTrap) 26 = (x_rI, false) ∧ lk (tb_X6_leastTrap) 27 = (x_inc 30 3 1, false) ∧ lk (tb_X6_leastTrap) 30 = (x_go 2, false) ∧ lk (tb_X6_leastTrap) 33 = (x_c 35 (.int (-9)), false) ∧ lk (tb_X6_leastTrap) 35 = (x_rI, false) := ⟨rfl, rfl, rfl, rfl, rfl, rfl, rfl, rfl, rfl, rfl, rfl, rfl, rfl, rfl, rfl, rfl, rfl, rfl, rfl, rfl, rfl⟩
def P_X6_leastTrap : PTT := fun as M R => match as with
  | [.ref k, .int x, .int y] => k = 19 ∧ IsSu M.1 ∧ IsSt M.1 5 ∧ ∃ a, SR M.2.1 5 a ∧ AOk a ∧ R (some (.int (lsB (tpB (aV a) (aM a) x y) (2 ^ aN a)))) M
  | _ => False
set_option maxRecDepth 20000 in
theorem ok_X6_leastTrap : Ok yX6_leastTrap mt_X6_leastTrap P_X6_leastTrap := by
  refine Ok.of (by decide) rfl rfl rfl rfl fun av ⟨S, I, L⟩ R hP => ?_
  unfold P_X6_leastTrap at hP
  split at hP
  case h_2 => exact hP.elim
  rename_i k x y
  obtain ⟨k, rfl⟩ : ∃ q : Nat, q = k := ⟨k, rfl⟩
  refine ⟨by simp [ent, wide, mt_X6_leastTrap], ?_⟩
  show J mt_X6_leastTrap R 0 [some (.ref k), some (.int x), some (.int y), none] [] (S, I, L)
  try dsimp only at hP
  obtain ⟨rfl, hk, h5, a, hsr, ha, hR⟩ := hP
  have en : I 5 4 = nI (aN a) := hsr.1
  have h9 := ha.1
  have hp := pow9 h9.2.1
  have key := up (P := fun s => 1 ≤ s → cnB (tpB (aV a) (aM a) x y) s = 0 → J mt_X6_leastTrap R 2 [some (.ref 19), some (.int x), some (.int y), some (.int (nI s))] [] (S, I, L)) (n := 2 ^ aN a) (fun s hs ih h1 h0 => ?_) 1 (one_le _) (Nat.le_refl 1) (by simp [cnB])
  · refine J.of tk_X6_leastTrap 200 fun ρ hρ => ?_
    simp only [hρ, x_c, x_il, x_ll, x_al, x_is, x_as, x_ls, x_inc, x_ii, x_iq, x_i1, x_l2, x_lq, x_lh, x_i2l, x_l2i, x_lcmp, x_dup, x_dup2, x_pop, x_if, x_ifn, x_ic, x_icn, x_go, x_sw, swc, x_l01, x_mx, x_gI, x_gL, x_gR, x_pI, x_pZ, x_pL, x_pR, x_ia, x_za, x_aa, x_ias, x_zas, x_aas, x_fac, x_fa, x_slen, x_sa, x_ac, x_oi, x_new, x_na, x_cS, x_cV, x_cI, x_rI, x_rZ, x_rL, x_r0, pa, short, oc, lg, lset, lset2, wide, cond_true, cond_false, true_and, and_true, ↓reduceIte, Bool.false_eq_true, true_or, or_true, lf_X6_leastTrap]
    exact key
  by_cases hlt : s < 2 ^ aN a
  · have et : tn (nI s) = s := tn_nI (by omega)
    refine J.of tk_X6_leastTrap 200 fun ρ hρ => ?_
    simp only [hρ, x_c, x_il, x_ll, x_al, x_is, x_as, x_ls, x_inc, x_ii, x_iq, x_i1, x_l2, x_lq, x_lh, x_i2l, x_l2i, x_lcmp, x_dup, x_dup2, x_pop, x_if, x_ifn, x_ic, x_icn, x_go, x_sw, swc, x_l01, x_mx, x_gI, x_gL, x_gR, x_pI, x_pZ, x_pL, x_pR, x_ia, x_za, x_aa, x_ias, x_zas, x_aas, x_fac, x_fa, x_slen, x_sa, x_ac, x_oi, x_new, x_na, x_cS, x_cV, x_cI, x_rI, x_rZ, x_rL, x_r0, pa, short, oc, lg, lset, lset2, wide, cond_true, cond_false, true_and, and_true, ↓reduceIte, Bool.false_eq_true, true_or, or_true, lf_X6_leastTrap, hk, hk.f, h5, h5.f, en, shl1 (show aN a < 31 by omega), nI_leI (show 2 ^ aN a < 2 ^ 31 by omega) (show s < 2 ^ 31 by omega), nI_1, P_X6_isTrap, et, bB_0, Classical.not_not, eq_true (show s < 512 by omega), true_and]
    refine ⟨fun h => absurd h (by omega), fun _ => ⟨a, hsr, ha, fun h => ?_, fun h => ?_⟩⟩
    · exact ih hlt (by omega) (by rw [cnB, if_neg (fun q => h q.2)]; omega)
    · have e1 : cnB (tpB (aV a) (aM a) x y) (s + 1) ≠ 0 := by rw [cnB, if_pos ⟨by omega, h⟩]; omega
      rw [lsB_stay e1 (show s + 1 ≤ 2 ^ aN a by omega), lsB, if_pos ⟨by omega, h, h0⟩] at hR
      exact hR
  · have : s = 2 ^ aN a := by omega
    subst this
    refine J.of tk_X6_leastTrap 200 fun ρ hρ => ?_
    simp only [hρ, x_c, x_il, x_ll, x_al, x_is, x_as, x_ls, x_inc, x_ii, x_iq, x_i1, x_l2, x_lq, x_lh, x_i2l, x_l2i, x_lcmp, x_dup, x_dup2, x_pop, x_if, x_ifn, x_ic, x_icn, x_go, x_sw, swc, x_l01, x_mx, x_gI, x_gL, x_gR, x_pI, x_pZ, x_pL, x_pR, x_ia, x_za, x_aa, x_ias, x_zas, x_aas, x_fac, x_fa, x_slen, x_sa, x_ac, x_oi, x_new, x_na, x_cS, x_cV, x_cI, x_rI, x_rZ, x_rL, x_r0, pa, short, oc, lg, lset, lset2, wide, cond_true, cond_false, true_and, and_true, ↓reduceIte, Bool.false_eq_true, true_or, or_true, lf_X6_leastTrap, hk, hk.f, h5, h5.f, en, shl1 (show aN a < 31 by omega), nI_leI (show 2 ^ aN a < 2 ^ 31 by omega) (show 2 ^ aN a < 2 ^ 31 by omega), Nat.le_refl, true_implies, not_true_eq_false, false_implies]
    rwa [lsB_none h0] at hR

/-- orders in which the rank grows by c, of the sets ahead below s -/
def facN : Nat → Nat := fun j => ([1, 1, 2, 6, 24, 120, 720] : List Nat).getD j 0
theorem facI_N : ∀ j, j < 7 → facI j = nI (facN j) := by decide +kernel
theorem facN_le : ∀ j, facN j ≤ 720
  | 0 | 1 | 2 | 3 | 4 | 5 | 6 => by decide
  | j + 7 => by simp [facN]
def shS (a : AS) (c : Nat) : Nat → Nat
  | 0 => 0
  | s + 1 => shS a c s + (if ¬ s.testBit c = true ∧ rkA a s < rkA a (s ||| 2 ^ c) then facN (ones9 s) * facN (aM a - 1 - ones9 s) else 0)
theorem ones_m : ∀ m, m < 7 → ∀ c, c < m → ∀ s, s < 2 ^ m → ¬ s.testBit c = true → ones9 s < m := by decide +kernel
theorem rkA_le (a : AS) (s : Nat) : rkA a s ≤ aM a := rkS_le _ _ _
theorem nI_sub {a b : Nat} (h : b ≤ a) : nI a - nI b = nI (a - b) := by
  obtain ⟨d, rfl⟩ : ∃ d, a = b + d := ⟨a - b, by omega⟩
  rw [← nI_add, Int32.add_comm, Int32.add_sub_cancel, show b + d - b = d by omega]
def il_X6_ordersInWhichRankGrows : List (Nat × Instr × Nat) := [(0, .iconst 0, 1), (1, .istore_n 2, 1), (2, .iconst 0, 1), (3, .istore_n 3, 1), (4, .iload_n 3, 1), (5, .aload_n 0, 1), (6, .getfield 9, 3), (9, .invokevirtual 35, 3), (12, .if_icmp .gt 66, 3), (15, .iload_n 3, 1), (16, .iload_n 1, 1), (17, .ishr, 1), (18, .iconst 1, 1), (19, .iand, 1), (20, .ifCond .ne 52, 3), (23, .aload_n 0, 1), (24, .iload_n 3, 1), (25, .iconst 1, 1), (26, .iload_n 1, 1), (27, .ishl, 1), (28, .ior, 1), (29, .invokevirtual 39, 3), (32, .aload_n 0, 1), (33, .iload_n 3, 1), (34, .invokevirtual 39, 3), (37, .if_icmp .le 35, 3), (40, .iload_n 3, 1), (41, .invokestatic 43, 3), (44, .istore 4, 2), (46, .iload_n 2, 1), (47, .getstatic 55, 3), (50, .iload 4, 2), (52, .iaload, 1), (53, .getstatic 55, 3), (56, .aload_n 0, 1), (57, .getfield 9, 3), (60, .getfield 19, 3), (63, .iconst 1, 1), (64, .isub, 1), (65, .iload 4, 2), (67, .isub, 1), (68, .iaload, 1), (69, .imul, 1), (70, .iadd, 1), (71, .istore_n 2, 1), (72, .iinc 3 1, 3), (75, .goto (-71), 3), (78, .iload_n 2, 1), (79, .ireturn, 1)]
def mt_X6_ordersInWhichRankGrows : Mt := (cX6_ordersInWhichRankGrows, RX6, 5, (some .int), ({ frames := 2, cells := 0, slots := 0, locals := 46 } : Room), false, none, none)
set_option maxRecDepth 100000 in
theorem dl_X6_ordersInWhichRankGrows : ∀ q ∈ il_X6_ordersInWhichRankGrows, decode (mt_X6_ordersInWhichRankGrows).1 q.1 = .ok q.2 := by decide +kernel
def tb_X6_ordersInWhichRankGrows : Tb := [(0, x_c 1 (.int 0), false),
  (1, x_is 2 2, false),
  (2, x_c 3 (.int 0), false),
  (3, x_is 4 3, false),
  (4, x_il 5 3, true),
  (5, x_al 6 0, false),
  (6, x_gR 6 0 9, false),
  (9, x_cV 5 0 P_X5_allChecks 12, false),
  (12, x_ic 78 15 (fun x y : Int32 => y < x), false),
  (15, x_il 16 3, false),
  (16, x_il 17 1, false),
  (17, x_ii 18 (fun x y : Int32 => x >>> (y &&& 31)), false),
  (18, x_c 19 (.int 1), false),
  (19, x_ii 20 (fun x y : Int32 => x &&& y), false),
  (20, x_ifn 72 23 (fun x : Int32 => x = 0), false),
  (23, x_al 24 0, false),
  (24, x_il 25 3, false),
  (25, x_c 26 (.int 1), false),
  (26, x_il 27 1, false),
  (27, x_ii 28 (fun x y : Int32 => x <<< (y &&& 31)), false),
  (28, x_ii 29 (fun x y : Int32 => x ||| y), false),
  (29, x_cV 6 1 P_X6_rankOf 32, false),
  (32, x_al 33 0, false),
  (33, x_il 34 3, false),
  (34, x_cV 6 1 P_X6_rankOf 37, false),
  (37, x_ic 72 40 (fun x y : Int32 => x ≤ y), false),
  (40, x_il 41 3, false),
  (41, x_cS 1 P_J6_bitCount_0f7a4 44, false),
  (44, x_is 46 4, false),
  (46, x_il 47 2, false),
  (47, x_fac 50, false),
  (50, x_il 52 4, false),
  (52, x_fa 53, false),
  (53, x_fac 56, false),
  (56, x_al 57 0, false),
  (57, x_gR 6 0 60, false),
  (60, x_gI 5 5 63, false),
  (63, x_c 64 (.int 1), false),
  (64, x_ii 65 (fun x y : Int32 => x - y), false),
  (65, x_il 67 4, false),
  (67, x_ii 68 (fun x y : Int32 => x - y), false),
  (68, x_fa 69, false),
  (69, x_ii 70 (fun x y : Int32 => x * y), false),
  (70, x_ii 71 (fun x y : Int32 => x + y), false),
  (71, x_is 72 2, false),
  (72, x_inc 75 3 1, false),
  (75, x_go 4, false),
  (78, x_il 79 2, false),
  (79, x_rI, false)]
set_option maxRecDepth 100000 in
theorem tk_X6_ordersInWhichRankGrows : TbOk (mt_X6_ordersInWhichRankGrows) (tb_X6_ordersInWhichRankGrows) :=
  tkc (s_iconst (at_ dl_X6_ordersInWhichRankGrows 0 (ins := .iconst 0) rfl) (by first | rfl | decide)) (
  tkc (s_istore_n (at_ dl_X6_ordersInWhichRankGrows 1 (ins := .istore_n 2) rfl) (by decide)) (
  tkc (s_iconst (at_ dl_X6_ordersInWhichRankGrows 2 (ins := .iconst 0) rfl) (by first | rfl | decide)) (
  tkc (s_istore_n (at_ dl_X6_ordersInWhichRankGrows 3 (ins := .istore_n 3) rfl) (by decide)) (
  tkc (s_iload_n (at_ dl_X6_ordersInWhichRankGrows 4 (ins := .iload_n 3) rfl)) (
  tkc (s_aload_n (at_ dl_X6_ordersInWhichRankGrows 5 (ins := .aload_n 0) rfl)) (
  tkc (s_gR (at_ dl_X6_ordersInWhichRankGrows 6 (ins := .getfield 9) rfl) (by decide) (by decide) (by decide) (tg 210 (by decide +kernel) (by decide +kernel))) (
  tkc (s_cV ok_X5_allChecks (at_ dl_X6_ordersInWhichRankGrows 7 (ins := .invokevirtual 35) rfl) (by decide) rfl (tg 431 (by decide +kernel) (by decide +kernel)) (tg 416 (by decide +kernel) (by decide +kernel)) (tg 417 (by decide +kernel) (by decide +kernel)) (tg 45 (by decide +kernel) (by decide +kernel)) (tg 418 (by decide +kernel) (by decide +kernel)) (⟨by decide, by decide, by decide +kernel⟩) (⟨by decide, by decide⟩) rfl rfl) (
  tkc (s_ic_gt (at_ dl_X6_ordersInWhichRankGrows 8 (ins := .if_icmp .gt 66) rfl) (by decide)) (
  tkc (s_iload_n (at_ dl_X6_ordersInWhichRankGrows 9 (ins := .iload_n 3) rfl)) (
  tkc (s_iload_n (at_ dl_X6_ordersInWhichRankGrows 10 (ins := .iload_n 1) rfl)) (
  tkc (s_ishr (at_ dl_X6_ordersInWhichRankGrows 11 (ins := .ishr) rfl)) (
  tkc (s_iconst (at_ dl_X6_ordersInWhichRankGrows 12 (ins := .iconst 1) rfl) (by first | rfl | decide)) (
  tkc (s_iand (at_ dl_X6_ordersInWhichRankGrows 13 (ins := .iand) rfl)) (
  tkc (s_if_ne (at_ dl_X6_ordersInWhichRankGrows 14 (ins := .ifCond .ne 52) rfl) (by decide)) (
  tkc (s_aload_n (at_ dl_X6_ordersInWhichRankGrows 15 (ins := .aload_n 0) rfl)) (
  tkc (s_iload_n (at_ dl_X6_ordersInWhichRankGrows 16 (ins := .iload_n 3) rfl)) (
  tkc (s_iconst (at_ dl_X6_ordersInWhichRankGrows 17 (ins := .iconst 1) rfl) (by first | rfl | decide)) (
  tkc (s_iload_n (at_ dl_X6_ordersInWhichRankGrows 18 (ins := .iload_n 1) rfl)) (
  tkc (s_ishl (at_ dl_X6_ordersInWhichRankGrows 19 (ins := .ishl) rfl)) (
  tkc (s_ior (at_ dl_X6_ordersInWhichRankGrows 20 (ins := .ior) rfl)) (
  tkc (s_cV ok_X6_rankOf (at_ dl_X6_ordersInWhichRankGrows 21 (ins := .invokevirtual 39) rfl) (by decide) rfl (tg 432 (by decide +kernel) (by decide +kernel)) (tg 420 (by decide +kernel) (by decide +kernel)) (tg 421 (by decide +kernel) (by decide +kernel)) (tg 48 (by decide +kernel) (by decide +kernel)) (tg 422 (by decide +kernel) (by decide +kernel)) (⟨by decide, by decide, by decide +kernel⟩) (⟨by decide, by decide⟩) rfl rfl) (
  tkc (s_aload_n (at_ dl_X6_ordersInWhichRankGrows 22 (ins := .aload_n 0) rfl)) (
  tkc (s_iload_n (at_ dl_X6_ordersInWhichRankGrows 23 (ins := .iload_n 3) rfl)) (
  tkc (s_cV ok_X6_rankOf (at_ dl_X6_ordersInWhichRankGrows 24 (ins := .invokevirtual 39) rfl) (by decide) rfl (tg 432 (by decide +kernel) (by decide +kernel)) (tg 420 (by decide +kernel) (by decide +kernel)) (tg 421 (by decide +kernel) (by decide +kernel)) (tg 48 (by decide +kernel) (by decide +kernel)) (tg 422 (by decide +kernel) (by decide +kernel)) (⟨by decide, by decide, by decide +kernel⟩) (⟨by decide, by decide⟩) rfl rfl) (
  tkc (s_ic_le (at_ dl_X6_ordersInWhichRankGrows 25 (ins := .if_icmp .le 35) rfl) (by decide)) (
  tkc (s_iload_n (at_ dl_X6_ordersInWhichRankGrows 26 (ins := .iload_n 3) rfl)) (
  tkc (s_cS ok_J6_bitCount_0f7a4 (at_ dl_X6_ordersInWhichRankGrows 27 (ins := .invokestatic 43) rfl) (tg 437 (by decide +kernel) (by decide +kernel)) (tg 374 (by decide +kernel) (by decide +kernel)) (tg 53 (by decide +kernel) (by decide +kernel)) (tg 375 (by decide +kernel) (by decide +kernel)) (⟨by decide, by decide, by decide +kernel⟩) (⟨by decide, by decide⟩) rfl rfl) (
  tkc (s_istore (at_ dl_X6_ordersInWhichRankGrows 28 (ins := .istore 4) rfl) (by decide)) (
  tkc (s_iload_n (at_ dl_X6_ordersInWhichRankGrows 29 (ins := .iload_n 2) rfl)) (
  tkc (s_facN (at_ dl_X6_ordersInWhichRankGrows 30 (ins := .getstatic 55) rfl) rfl) (
  tkc (s_iload (at_ dl_X6_ordersInWhichRankGrows 31 (ins := .iload 4) rfl)) (
  tkc (s_fa (at_ dl_X6_ordersInWhichRankGrows 32 (ins := .iaload) rfl)) (
  tkc (s_facN (at_ dl_X6_ordersInWhichRankGrows 33 (ins := .getstatic 55) rfl) rfl) (
  tkc (s_aload_n (at_ dl_X6_ordersInWhichRankGrows 34 (ins := .aload_n 0) rfl)) (
  tkc (s_gR (at_ dl_X6_ordersInWhichRankGrows 35 (ins := .getfield 9) rfl) (by decide) (by decide) (by decide) (tg 210 (by decide +kernel) (by decide +kernel))) (
  tkc (s_gI (at_ dl_X6_ordersInWhichRankGrows 36 (ins := .getfield 19) rfl) (by decide) (by decide) (by decide) (tg 141 (by decide +kernel) (by decide +kernel))) (
  tkc (s_iconst (at_ dl_X6_ordersInWhichRankGrows 37 (ins := .iconst 1) rfl) (by first | rfl | decide)) (
  tkc (s_isub (at_ dl_X6_ordersInWhichRankGrows 38 (ins := .isub) rfl)) (
  tkc (s_iload (at_ dl_X6_ordersInWhichRankGrows 39 (ins := .iload 4) rfl)) (
  tkc (s_isub (at_ dl_X6_ordersInWhichRankGrows 40 (ins := .isub) rfl)) (
  tkc (s_fa (at_ dl_X6_ordersInWhichRankGrows 41 (ins := .iaload) rfl)) (
  tkc (s_imul (at_ dl_X6_ordersInWhichRankGrows 42 (ins := .imul) rfl)) (
  tkc (s_iadd (at_ dl_X6_ordersInWhichRankGrows 43 (ins := .iadd) rfl)) (
  tkc (s_istore_n (at_ dl_X6_ordersInWhichRankGrows 44 (ins := .istore_n 2) rfl) (by decide)) (
  tkc (s_iinc (at_ dl_X6_ordersInWhichRankGrows 45 (ins := .iinc 3 1) rfl) (by decide) (by first | rfl | decide)) (
  tkc (s_goto (at_ dl_X6_ordersInWhichRankGrows 46 (ins := .goto (-71)) rfl) (by decide)) (
  tkc (s_iload_n (at_ dl_X6_ordersInWhichRankGrows 47 (ins := .iload_n 2) rfl)) (
  tkc (s_rI (at_ dl_X6_ordersInWhichRankGrows 48 (ins := .ireturn) rfl) rfl) ( tk0)))))))))))))))))))))))))))))))))))))))))))))))))
theorem lf_X6_ordersInWhichRankGrows : lk (tb_X6_ordersInWhichRankGrows) 0 = (x_c 1 (.int 0), false) ∧ lk (tb_X6_ordersInWhichRankGrows) 1 = (x_is 2 2, false) ∧ lk (tb_X6_ordersInWhichRankGrows) 2 = (x_c 3 (.int 0), false) ∧ lk (tb_X6_ordersInWhichRankGrows) 3 = (x_is 4 3, false) ∧ lk (tb_X6_ordersInWhichRankGrows) 4 = (x_il 5 3, true) ∧ lk (tb_X6_ordersInWhichRankGrows) 5 = (x_al 6 0, false) ∧ lk (tb_X6_ordersInWhichRankGrows) 6 = (x_gR 6 0 9, false) ∧ lk (tb_X6_ordersInWhichRankGrows) 9 = (x_cV 5 0 P_X5_allChecks 12, false) ∧ lk (tb_X6_ordersInWhichRankGrows) 12 = (x_ic 78 15 (fun x y : Int32 => y < x), false) ∧ lk (tb_X6_ordersInWhichRankGrows) 15 = (x_il 16 3, false) ∧ lk (tb_X6_ordersInWhichRankGrows) 16 = (x_il 17 1, false) ∧ lk (tb_X6_ordersInWhichRankGrows) 17 = (x_ii 18 (fun x y : Int32 => x >>> (y &&& 31)), false) ∧ lk (tb_X6_ordersInWhichRankGrows) 18 = (x_c 19 (.int 1), false) ∧ lk (tb_X6_ordersInWhichRankGrows) 19 = (x_ii 20 (fun x y : Int32 => x &&& y), false) ∧ lk (tb_X6_ordersInWhichRankGrows) 20 = (x_ifn 72 23 (fun x : Int32 => x = 0), false) ∧ lk (tb_X6_ordersInWhichRankGrows) 23 = (x_al 24 0, false) ∧ lk (tb_X6_ordersInWhichRankGrows) 24 = (x_il 25 3, false) ∧ lk (tb_X6_ordersInWhichRankGrows) 25 = (x_c 26 (.int 1), false) ∧ lk (tb_X6_ordersInWhichRankGrows) 26 = (x_il 27 1, false) ∧ lk (tb_X6_ordersInWhichRankGrows) 27 = (x_ii 28 (fun x y : Int32 => x <<< (y &&& 31)), false) ∧ lk (tb_X6_ordersInWhichRankGrows) 28 = (x_ii 29 (fun x y : Int32 => x ||| y), false) ∧ lk (tb_X6_ordersInWhichRankGrows) 29 = (x_cV 6 1 P_X6_rankOf 32, false) ∧ lk (tb_X6_ordersInWhichRankGrows) 32 = (x_al 33 0, false) ∧ lk (tb_X6_ordersInWhichRankGrows) 33 = (x_il 34 3, false) ∧ lk (tb_X6_ordersInWhichRankGrows) 34 = (x_cV 6 1 P_X6_rankOf 37, false) ∧ lk (tb_X6_ordersInWhichRankGrows) 37 = (x_ic 72 40 (fun x y : Int32 => x ≤ y), false) ∧ lk (tb_X6_ordersInWhichRankGrows) 40 = (x_il 41 3, false) ∧ lk (tb_X6_ordersInWhichRankGrows) 41 = (x_cS 1 P_J6_bitCount_0f7a4 44, false) ∧ lk (tb_X6_ordersInWhichRankGrows) 44 = (x_is 46 4, false) ∧ lk (tb_X6_ordersInWhichRankGrows) 46 = (x_il 47 2, false) ∧ lk (tb_X6_ordersInWhichRankGrows) 47 = (x_fac 50, false) ∧ lk (tb_X6_ordersInWhichRankGrows) 50 = (x_il 52 4, false) ∧ lk (tb_X6_ordersInWhichRankGrows) 52 = (x_fa 53, false) ∧ lk (tb_X6_ordersInWhichRankGrows) 53 = (x_fac 56, false) ∧ lk (tb_X6_ordersInWhichRankGrows) 56 = (x_al 57 0, false) ∧ lk (tb_X6_ordersInWhichRankGrows) 57 = (x_gR 6 0 60, false) ∧ lk (tb_X6_ordersInWhichRankGrows) 60 = (x_gI 5 5 63, false) ∧ lk (tb_X6_ordersInWhichRankGrows) 63 = (x_c 64 (.int 1), false) ∧ lk (tb_X6_ordersInWhichRankGrows) 64 = (x_ii 65 (fun x y : Int32 => x - y), false) ∧ lk (tb_X6_ordersInWhichRankGrows) 65 = (x_il 67 4, false) ∧ lk (tb_X6_ordersInWhichRankGrows) 67 = (x_ii 68 (fun x y : Int32 => x - y), false) ∧ lk (tb_X6_ordersInWhichRankGrows) 68 = (x_fa 69, false) ∧ lk (tb_X6_ordersInWhichRankGrows) 69 = (x_ii 70 (fun x y : Int32 => x * y), false) ∧ lk (tb_X6_ordersInWhichRankGrows) 70 = (x_ii 71 (fun x y : Int32 => x + y), false) ∧ lk (tb_X6_ordersInWhichRankGrows) 71 = (x_is 72 2, false) ∧ lk (tb_X6_ordersInWhichRankGrows) 72 = (x_inc 75 3 1, false) ∧ lk (tb_X6_ordersInWhichRankGrows) 75 = (x_go 4, false) ∧ lk (tb_X6_ordersInWhichRankGrows) 78 = (x_il 79 2, false) ∧ lk (tb_X6_ordersInWhichRankGrows) 79 = (x_rI, false) := ⟨rfl, rfl, rfl, rfl, rfl, rfl, rfl, rfl, rfl, rfl, rfl, rfl, rfl, rfl, rfl, rfl, rfl, rfl, rfl, rfl, rfl, rfl, rfl, rfl, rfl, rfl, rfl, rfl, rfl, rfl, rfl, rfl, rfl, rfl, rfl, rfl, rfl, rfl, rfl, rfl, rfl, rfl, rfl, rfl, rfl, rfl, rfl, rfl, rfl⟩
def P_X6_ordersInWhichRankGrows : PTT := fun as M R => match as with
  | [.ref k, .int c] => k = 19 ∧ IsSu M.1 ∧ IsSt M.1 5 ∧ ∃ a, SR M.2.1 5 a ∧ AOk a ∧ tn c < aM a ∧ ∀ I', (∀ q, q ≠ 20 → I' q = M.2.1 q) → R (some (.int (nI (shS a (tn c) (2 ^ aM a))))) (M.1, I', M.2.2)
  | _ => False
theorem pow_m {c m : Nat} (h : c < m) (hm : m ≤ 6) : 2 ^ c < 64 := by
  have : 2 ^ c < 2 ^ m := Nat.pow_lt_pow_right (by omega) h
  have := pow6 hm
  omega
set_option maxRecDepth 20000 in
theorem ok_X6_ordersInWhichRankGrows : Ok yX6_ordersInWhichRankGrows mt_X6_ordersInWhichRankGrows P_X6_ordersInWhichRankGrows := by
  refine Ok.of (by decide) rfl rfl rfl rfl fun av ⟨S, I, L⟩ R hP => ?_
  unfold P_X6_ordersInWhichRankGrows at hP
  split at hP
  case h_2 => exact hP.elim
  rename_i k c
  obtain ⟨k, rfl⟩ : ∃ q : Nat, q = k := ⟨k, rfl⟩
  refine ⟨by simp [ent, wide, mt_X6_ordersInWhichRankGrows], ?_⟩
  show J mt_X6_ordersInWhichRankGrows R 0 [some (.ref k), some (.int c), none, none, none] [] (S, I, L)
  try dsimp only at hP
  obtain ⟨rfl, hk, h5, a, hsr, ha, hc, hR⟩ := hP
  have h9 := ha.1
  obtain ⟨j, hj, rfl⟩ := tn_ex (Nat.lt_trans hc (show aM a < 512 by omega))
  rw [tn_nI (n := j) (by omega)] at hR hc
  have hp := pow6 h9.2.2
  have key := up (P := fun s => ∀ I', (∀ q, q ≠ 20 → I' q = I q) → J mt_X6_ordersInWhichRankGrows R 4 [some (.ref 19), some (.int (nI j)), some (.int (nI (shS a j s))), some (.int (nI s)), none] [] (S, I', L)) (n := 2 ^ aM a) (fun s hs ih I' hf => ?_) 0 (Nat.zero_le _) I (fun _ _ => rfl)
  · refine J.of tk_X6_ordersInWhichRankGrows 200 fun ρ hρ => ?_
    simp only [hρ, x_c, x_il, x_ll, x_al, x_is, x_as, x_ls, x_inc, x_ii, x_iq, x_i1, x_l2, x_lq, x_lh, x_i2l, x_l2i, x_lcmp, x_dup, x_dup2, x_pop, x_if, x_ifn, x_ic, x_icn, x_go, x_sw, swc, x_l01, x_mx, x_gI, x_gL, x_gR, x_pI, x_pZ, x_pL, x_pR, x_ia, x_za, x_aa, x_ias, x_zas, x_aas, x_fac, x_fa, x_slen, x_sa, x_ac, x_oi, x_new, x_na, x_cS, x_cV, x_cI, x_rI, x_rZ, x_rL, x_r0, pa, short, oc, lg, lset, lset2, wide, cond_true, cond_false, true_and, and_true, ↓reduceIte, Bool.false_eq_true, true_or, or_true, lf_X6_ordersInWhichRankGrows]
    exact key
  have hsr' : SR I' 5 a := hsr.fr (fun q h1 h2 => hf q (by omega))
  have em : I' 5 5 = nI (aM a) := hsr'.2.1
  have ho := one_le (aM a)
  by_cases hlt : s < 2 ^ aM a
  · have et : tn (nI s) = s := tn_nI (by omega)
    have hpm := pow_m hc h9.2.2
    have hor : s ||| 2 ^ j < 64 := Nat.or_lt_two_pow (n := 6) (by omega) (by omega)
    have et2 : tn (nI (s ||| 2 ^ j)) = s ||| 2 ^ j := tn_nI (by omega)
    have r1 := rkA_le a s
    have r2 := rkA_le a (s ||| 2 ^ j)
    have hn : ¬ s > 2 ^ aM a - 1 := by omega
    refine J.of tk_X6_ordersInWhichRankGrows 200 fun ρ hρ => ?_
    simp only [hρ, x_c, x_il, x_ll, x_al, x_is, x_as, x_ls, x_inc, x_ii, x_iq, x_i1, x_l2, x_lq, x_lh, x_i2l, x_l2i, x_lcmp, x_dup, x_dup2, x_pop, x_if, x_ifn, x_ic, x_icn, x_go, x_sw, swc, x_l01, x_mx, x_gI, x_gL, x_gR, x_pI, x_pZ, x_pL, x_pR, x_ia, x_za, x_aa, x_ias, x_zas, x_aas, x_fac, x_fa, x_slen, x_sa, x_ac, x_oi, x_new, x_na, x_cS, x_cV, x_cI, x_rI, x_rZ, x_rL, x_r0, pa, short, oc, lg, lset, lset2, wide, cond_true, cond_false, true_and, and_true, ↓reduceIte, Bool.false_eq_true, true_or, or_true, lf_X6_ordersInWhichRankGrows, hk, hk.f, h5, h5.f, em, allC h9.2.2, nI_ltI (show 2 ^ aM a - 1 < 2 ^ 31 by omega) (show s < 2 ^ 31 by omega), nI_1, P_X6_rankOf, P_X5_allChecks, P_J6_bitCount_0f7a4, et, et2, shl1 (show j < 31 by omega), nI_or, bit_c (show s < 2 ^ 31 by omega) (show j < 31 by omega), Classical.not_not, eq_true (show s < 512 by omega), eq_true (show s ||| 2 ^ j < 512 by omega), true_and]
    refine ⟨fun h => absurd h (by omega), fun _ => ⟨fun h => ?_, fun h => ⟨a, hsr', ha, fun I2 hf2 => ⟨a, hsr'.fr (fun q h1 h2 => hf2 q (by omega)), ha, fun I3 hf3 => ?_⟩⟩⟩⟩
    · have := ih hlt I' hf
      rwa [shS, if_neg (fun q => q.1 h)] at this
    · have hf' : ∀ q, q ≠ 20 → I3 q = I q := fun q hq => by rw [hf3 q hq, hf2 q hq, hf q hq]
      have := ih hlt I3 hf'
      have e5 : I3 5 5 = nI (aM a) := (hsr.fr (fun q h1 h2 => hf' q (by omega))).2.1
      have ho9 := ones_m (aM a) (by omega) j hc s hlt h
      have es : nI (aM a) - 1 - nI (ones9 s) = nI (aM a - 1 - ones9 s) := by rw [nI_m1 (by omega), nI_sub (by omega)]
      rw [show (rkS (aV a) (s ||| 2 ^ j) (aM a)).1 = rkA a (s ||| 2 ^ j) from rfl, show (rkS (aV a) s (aM a)).1 = rkA a s from rfl, nI_leI (by omega) (by omega), e5, es, ncl (by omega), ncl (by omega), facI_N _ (by omega), facI_N _ (by omega), pk_mul, nI_add]
      refine ⟨fun h2 => ?_, fun h2 => ⟨vp_in_nI (by omega) (by omega), vp_in_nI (by omega) (by omega), ?_⟩⟩
      · rwa [shS, if_neg (fun q => by omega)] at this
      · rw [shS, if_pos ⟨h, by omega⟩] at this
        exact J.weak (by simp [lsub]) this
  · have : s = 2 ^ aM a := by omega
    subst this
    have hn : nI (2 ^ aM a - 1) < nI (2 ^ aM a) ↔ True := by rw [nI_ltI (by omega) (by omega)]; exact ⟨fun _ => trivial, fun _ => by omega⟩
    refine J.of tk_X6_ordersInWhichRankGrows 200 fun ρ hρ => ?_
    simp only [hρ, x_c, x_il, x_ll, x_al, x_is, x_as, x_ls, x_inc, x_ii, x_iq, x_i1, x_l2, x_lq, x_lh, x_i2l, x_l2i, x_lcmp, x_dup, x_dup2, x_pop, x_if, x_ifn, x_ic, x_icn, x_go, x_sw, swc, x_l01, x_mx, x_gI, x_gL, x_gR, x_pI, x_pZ, x_pL, x_pR, x_ia, x_za, x_aa, x_ias, x_zas, x_aas, x_fac, x_fa, x_slen, x_sa, x_ac, x_oi, x_new, x_na, x_cS, x_cV, x_cI, x_rI, x_rZ, x_rL, x_r0, pa, short, oc, lg, lset, lset2, wide, cond_true, cond_false, true_and, and_true, ↓reduceIte, Bool.false_eq_true, true_or, or_true, lf_X6_ordersInWhichRankGrows, hk, hk.f, h5, h5.f, em, allC h9.2.2, P_X5_allChecks, hn, true_implies, not_true_eq_false, false_implies]
    exact hR I' hf
end
section
/-! WAYS, at 18, of the state at 5 -/
def IsWa (S : Sh) : Prop := tO S 18 8 ∧ sR S 18 0 = 5
theorem IsWa.f {S : Sh} (h : IsWa S) : tO S 18 8 ∧ sR S 18 0 = 5 := h
/-- what is in x, not in y -/
def df (x y : Nat) : Nat := x ^^^ (x &&& y)
theorem df_bit (x y i : Nat) : (df x y).testBit i = (x.testBit i && !y.testBit i) := by
  simp only [df, Nat.testBit_xor, Nat.testBit_and]
  cases x.testBit i <;> cases y.testBit i <;> rfl
theorem nI_df (x y : Nat) : nI x &&& (nI y ^^^ -1) = nI (df x y) := by
  unfold df
  rw [← nI_xor, ← nI_and]
  generalize nI x = a
  generalize nI y = b
  apply Int32.toBitVec_inj.mp
  rw [Int32.toBitVec_and, Int32.toBitVec_xor, Int32.toBitVec_xor, Int32.toBitVec_and, show (-1 : Int32).toBitVec = BitVec.allOnes 32 by decide]
  apply BitVec.eq_of_getLsbD_eq
  intro i hi
  simp only [BitVec.getLsbD_and, BitVec.getLsbD_xor, BitVec.getLsbD_allOnes, hi, decide_true]
  cases a.toBitVec.getLsbD i <;> cases b.toBitVec.getLsbD i <;> rfl
theorem df_lt {x y N : Nat} (h : x < 2 ^ N) : df x y < 2 ^ N := Nat.xor_lt_two_pow h (Nat.lt_of_le_of_lt Nat.and_le_left h)
/-- the bits under some checks, the checks over some bits -/
def uS (ov : Nat → Nat) (s : Nat) : Nat → Nat
  | 0 => 0
  | c + 1 => if s.testBit c = true then uS ov s c ||| ov c else uS ov s c
theorem uS_lt {ov : Nat → Nat} {s N : Nat} : ∀ {m : Nat}, (∀ c, c < m → ov c < 2 ^ N) → uS ov s m < 2 ^ N
  | 0, _ => Nat.pow_pos (by omega)
  | m + 1, h => by
    simp only [uS]
    split
    · exact Nat.or_lt_two_pow (uS_lt (fun c hc => h c (by omega))) (h m (by omega))
    · exact uS_lt (fun c hc => h c (by omega))
def oS (ov : Nat → Nat) (t m : Nat) : Nat := bs (fun c => decide (ov c &&& t ≠ 0)) m
def il_X8_bitsUnder : List (Nat × Instr × Nat) := [(0, .iconst 0, 1), (1, .istore_n 2, 1), (2, .iconst 0, 1), (3, .istore_n 3, 1), (4, .iload_n 3, 1), (5, .aload_n 0, 1), (6, .getfield 9, 3), (9, .getfield 15, 3), (12, .if_icmp .ge 29, 3), (15, .iload_n 1, 1), (16, .iload_n 3, 1), (17, .ishr, 1), (18, .iconst 1, 1), (19, .iand, 1), (20, .ifCond .eq 15, 3), (23, .iload_n 2, 1), (24, .aload_n 0, 1), (25, .getfield 9, 3), (28, .getfield 45, 3), (31, .iload_n 3, 1), (32, .iaload, 1), (33, .ior, 1), (34, .istore_n 2, 1), (35, .iinc 3 1, 3), (38, .goto (-34), 3), (41, .iload_n 2, 1), (42, .ireturn, 1)]
def mt_X8_bitsUnder : Mt := (cX8_bitsUnder, RX8, 4, (some .int), ({ frames := 0, cells := 0, slots := 0, locals := 0 } : Room), false, none, none)
set_option maxRecDepth 100000 in
theorem dl_X8_bitsUnder : ∀ q ∈ il_X8_bitsUnder, decode (mt_X8_bitsUnder).1 q.1 = .ok q.2 := by decide +kernel
def tb_X8_bitsUnder : Tb := [(0, x_c 1 (.int 0), false),
  (1, x_is 2 2, false),
  (2, x_c 3 (.int 0), false),
  (3, x_is 4 3, false),
  (4, x_il 5 3, true),
  (5, x_al 6 0, false),
  (6, x_gR 8 0 9, false),
  (9, x_gI 5 5 12, false),
  (12, x_ic 41 15 (fun x y : Int32 => y ≤ x), false),
  (15, x_il 16 1, false),
  (16, x_il 17 3, false),
  (17, x_ii 18 (fun x y : Int32 => x >>> (y &&& 31)), false),
  (18, x_c 19 (.int 1), false),
  (19, x_ii 20 (fun x y : Int32 => x &&& y), false),
  (20, x_if 35 23 (fun x : Int32 => x = 0), false),
  (23, x_il 24 2, false),
  (24, x_al 25 0, false),
  (25, x_gR 8 0 28, false),
  (28, x_gR 5 0 31, false),
  (31, x_il 32 3, false),
  (32, x_ia 33, false),
  (33, x_ii 34 (fun x y : Int32 => x ||| y), false),
  (34, x_is 35 2, false),
  (35, x_inc 38 3 1, false),
  (38, x_go 4, false),
  (41, x_il 42 2, false),
  (42, x_rI, false)]
set_option maxRecDepth 100000 in
theorem tk_X8_bitsUnder : TbOk (mt_X8_bitsUnder) (tb_X8_bitsUnder) :=
  tkc (s_iconst (at_ dl_X8_bitsUnder 0 (ins := .iconst 0) rfl) (by first | rfl | decide)) (
  tkc (s_istore_n (at_ dl_X8_bitsUnder 1 (ins := .istore_n 2) rfl) (by decide)) (
  tkc (s_iconst (at_ dl_X8_bitsUnder 2 (ins := .iconst 0) rfl) (by first | rfl | decide)) (
  tkc (s_istore_n (at_ dl_X8_bitsUnder 3 (ins := .istore_n 3) rfl) (by decide)) (
  tkc (s_iload_n (at_ dl_X8_bitsUnder 4 (ins := .iload_n 3) rfl)) (
  tkc (s_aload_n (at_ dl_X8_bitsUnder 5 (ins := .aload_n 0) rfl)) (
  tkc (s_gR (at_ dl_X8_bitsUnder 6 (ins := .getfield 9) rfl) (by decide) (by decide) (by decide) (tg 200 (by decide +kernel) (by decide +kernel))) (
  tkc (s_gI (at_ dl_X8_bitsUnder 7 (ins := .getfield 15) rfl) (by decide) (by decide) (by decide) (tg 140 (by decide +kernel) (by decide +kernel))) (
  tkc (s_ic_ge (at_ dl_X8_bitsUnder 8 (ins := .if_icmp .ge 29) rfl) (by decide)) (
  tkc (s_iload_n (at_ dl_X8_bitsUnder 9 (ins := .iload_n 1) rfl)) (
  tkc (s_iload_n (at_ dl_X8_bitsUnder 10 (ins := .iload_n 3) rfl)) (
  tkc (s_ishr (at_ dl_X8_bitsUnder 11 (ins := .ishr) rfl)) (
  tkc (s_iconst (at_ dl_X8_bitsUnder 12 (ins := .iconst 1) rfl) (by first | rfl | decide)) (
  tkc (s_iand (at_ dl_X8_bitsUnder 13 (ins := .iand) rfl)) (
  tkc (s_if_eq (at_ dl_X8_bitsUnder 14 (ins := .ifCond .eq 15) rfl) (by decide)) (
  tkc (s_iload_n (at_ dl_X8_bitsUnder 15 (ins := .iload_n 2) rfl)) (
  tkc (s_aload_n (at_ dl_X8_bitsUnder 16 (ins := .aload_n 0) rfl)) (
  tkc (s_gR (at_ dl_X8_bitsUnder 17 (ins := .getfield 9) rfl) (by decide) (by decide) (by decide) (tg 200 (by decide +kernel) (by decide +kernel))) (
  tkc (s_gR (at_ dl_X8_bitsUnder 18 (ins := .getfield 45) rfl) (by decide) (by decide) (by decide) (tg 123 (by decide +kernel) (by decide +kernel))) (
  tkc (s_iload_n (at_ dl_X8_bitsUnder 19 (ins := .iload_n 3) rfl)) (
  tkc (s_ia (at_ dl_X8_bitsUnder 20 (ins := .iaload) rfl)) (
  tkc (s_ior (at_ dl_X8_bitsUnder 21 (ins := .ior) rfl)) (
  tkc (s_istore_n (at_ dl_X8_bitsUnder 22 (ins := .istore_n 2) rfl) (by decide)) (
  tkc (s_iinc (at_ dl_X8_bitsUnder 23 (ins := .iinc 3 1) rfl) (by decide) (by first | rfl | decide)) (
  tkc (s_goto (at_ dl_X8_bitsUnder 24 (ins := .goto (-34)) rfl) (by decide)) (
  tkc (s_iload_n (at_ dl_X8_bitsUnder 25 (ins := .iload_n 2) rfl)) (
  tkc (s_rI (at_ dl_X8_bitsUnder 26 (ins := .ireturn) rfl) rfl) ( tk0)))))))))))))))))))))))))))
theorem lf_X8_bitsUnder : lk (tb_X8_bitsUnder) 0 = (x_c 1 (.int 0), false) ∧ lk (tb_X8_bitsUnder) 1 = (x_is 2 2, false) ∧ lk (tb_X8_bitsUnder) 2 = (x_c 3 (.int 0), false) ∧ lk (tb_X8_bitsUnder) 3 = (x_is 4 3, false) ∧ lk (tb_X8_bitsUnder) 4 = (x_il 5 3, true) ∧ lk (tb_X8_bitsUnder) 5 = (x_al 6 0, false) ∧ lk (tb_X8_bitsUnder) 6 = (x_gR 8 0 9, false) ∧ lk (tb_X8_bitsUnder) 9 = (x_gI 5 5 12, false) ∧ lk (tb_X8_bitsUnder) 12 = (x_ic 41 15 (fun x y : Int32 => y ≤ x), false) ∧ lk (tb_X8_bitsUnder) 15 = (x_il 16 1, false) ∧ lk (tb_X8_bitsUnder) 16 = (x_il 17 3, false) ∧ lk (tb_X8_bitsUnder) 17 = (x_ii 18 (fun x y : Int32 => x >>> (y &&& 31)), false) ∧ lk (tb_X8_bitsUnder) 18 = (x_c 19 (.int 1), false) ∧ lk (tb_X8_bitsUnder) 19 = (x_ii 20 (fun x y : Int32 => x &&& y), false) ∧ lk (tb_X8_bitsUnder) 20 = (x_if 35 23 (fun x : Int32 => x = 0), false) ∧ lk (tb_X8_bitsUnder) 23 = (x_il 24 2, false) ∧ lk (tb_X8_bitsUnder) 24 = (x_al 25 0, false) ∧ lk (tb_X8_bitsUnder) 25 = (x_gR 8 0 28, false) ∧ lk (tb_X8_bitsUnder) 28 = (x_gR 5 0 31, false) ∧ lk (tb_X8_bitsUnder) 31 = (x_il 32 3, false) ∧ lk (tb_X8_bitsUnder) 32 = (x_ia 33, false) ∧ lk (tb_X8_bitsUnder) 33 = (x_ii 34 (fun x y : Int32 => x ||| y), false) ∧ lk (tb_X8_bitsUnder) 34 = (x_is 35 2, false) ∧ lk (tb_X8_bitsUnder) 35 = (x_inc 38 3 1, false) ∧ lk (tb_X8_bitsUnder) 38 = (x_go 4, false) ∧ lk (tb_X8_bitsUnder) 41 = (x_il 42 2, false) ∧ lk (tb_X8_bitsUnder) 42 = (x_rI, false) := ⟨rfl, rfl, rfl, rfl, rfl, rfl, rfl, rfl, rfl, rfl, rfl, rfl, rfl, rfl, rfl, rfl, rfl, rfl, rfl, rfl, rfl, rfl, rfl, rfl, rfl, rfl, rfl⟩
def P_X8_bitsUnder : PTT := fun as M R => match as with
  | [.ref k, .int s] => k = 18 ∧ IsWa M.1 ∧ IsSt M.1 5 ∧ tn s < 512 ∧ ∃ a, SR M.2.1 5 a ∧ AOk a ∧ R (some (.int (nI (uS (aV a) (tn s) (aM a))))) M
  | _ => False
set_option maxRecDepth 20000 in
theorem ok_X8_bitsUnder : Ok yX8_bitsUnder mt_X8_bitsUnder P_X8_bitsUnder := by
  refine Ok.of (by decide) rfl rfl rfl rfl fun av ⟨S, I, L⟩ R hP => ?_
  unfold P_X8_bitsUnder at hP
  split at hP
  case h_2 => exact hP.elim
  rename_i k s
  obtain ⟨k, rfl⟩ : ∃ q : Nat, q = k := ⟨k, rfl⟩
  refine ⟨by simp [ent, wide, mt_X8_bitsUnder], ?_⟩
  show J mt_X8_bitsUnder R 0 [some (.ref k), some (.int s), none, none] [] (S, I, L)
  try dsimp only at hP
  obtain ⟨rfl, hk, h5, hs, a, hsr, ha, hR⟩ := hP
  obtain ⟨y, hy, rfl⟩ := tn_ex hs
  rw [tn_nI (n := y) (by omega)] at hR
  have h9 := ha.1
  have em : I 5 5 = nI (aM a) := hsr.2.1
  have key := up (P := fun c => J mt_X8_bitsUnder R 4 [some (.ref 18), some (.int (nI y)), some (.int (nI (uS (aV a) y c))), some (.int (nI c))] [] (S, I, L)) (n := aM a) (fun c hc ih => ?_) 0 (Nat.zero_le _)
  · refine J.of tk_X8_bitsUnder 200 fun ρ hρ => ?_
    simp only [hρ, x_c, x_il, x_ll, x_al, x_is, x_as, x_ls, x_inc, x_ii, x_iq, x_i1, x_l2, x_lq, x_lh, x_i2l, x_l2i, x_lcmp, x_dup, x_dup2, x_pop, x_if, x_ifn, x_ic, x_icn, x_go, x_sw, swc, x_l01, x_mx, x_gI, x_gL, x_gR, x_pI, x_pZ, x_pL, x_pR, x_ia, x_za, x_aa, x_ias, x_zas, x_aas, x_fac, x_fa, x_slen, x_sa, x_ac, x_oi, x_new, x_na, x_cS, x_cV, x_cI, x_rI, x_rZ, x_rL, x_r0, pa, short, oc, lg, lset, lset2, wide, cond_true, cond_false, true_and, and_true, ↓reduceIte, Bool.false_eq_true, true_or, or_true, lf_X8_bitsUnder]
    exact key
  by_cases hlt : c < aM a
  · have ov : I 6 c = nI (aV a c) := hsr.2.2.2.2.1 c hlt
    refine J.of tk_X8_bitsUnder 200 fun ρ hρ => ?_
    simp only [hρ, x_c, x_il, x_ll, x_al, x_is, x_as, x_ls, x_inc, x_ii, x_iq, x_i1, x_l2, x_lq, x_lh, x_i2l, x_l2i, x_lcmp, x_dup, x_dup2, x_pop, x_if, x_ifn, x_ic, x_icn, x_go, x_sw, swc, x_l01, x_mx, x_gI, x_gL, x_gR, x_pI, x_pZ, x_pL, x_pR, x_ia, x_za, x_aa, x_ias, x_zas, x_aas, x_fac, x_fa, x_slen, x_sa, x_ac, x_oi, x_new, x_na, x_cS, x_cV, x_cI, x_rI, x_rZ, x_rL, x_r0, pa, short, oc, lg, lset, lset2, wide, cond_true, cond_false, true_and, and_true, ↓reduceIte, Bool.false_eq_true, true_or, or_true, lf_X8_bitsUnder, hk, hk.f, h5, h5.f, em, ov, Nat.reduceAdd, nI_leI (show aM a < 2 ^ 31 by omega) (show c < 2 ^ 31 by omega), ncl (show c < 2 ^ 31 by omega), nI_1, nI_or, bit_c (show y < 2 ^ 31 by omega) (show c < 31 by omega), Classical.not_not]
    have := ih hlt
    refine ⟨fun h => absurd h (by omega), fun _ => ⟨fun h => ?_, fun h => ⟨vp_in_nI (by omega) (by omega), ?_⟩⟩⟩
    · rwa [uS, if_neg h] at this
    · rwa [uS, if_pos h] at this
  · have : c = aM a := by omega
    subst this
    refine J.of tk_X8_bitsUnder 200 fun ρ hρ => ?_
    simp only [hρ, x_c, x_il, x_ll, x_al, x_is, x_as, x_ls, x_inc, x_ii, x_iq, x_i1, x_l2, x_lq, x_lh, x_i2l, x_l2i, x_lcmp, x_dup, x_dup2, x_pop, x_if, x_ifn, x_ic, x_icn, x_go, x_sw, swc, x_l01, x_mx, x_gI, x_gL, x_gR, x_pI, x_pZ, x_pL, x_pR, x_ia, x_za, x_aa, x_ias, x_zas, x_aas, x_fac, x_fa, x_slen, x_sa, x_ac, x_oi, x_new, x_na, x_cS, x_cV, x_cI, x_rI, x_rZ, x_rL, x_r0, pa, short, oc, lg, lset, lset2, wide, cond_true, cond_false, true_and, and_true, ↓reduceIte, Bool.false_eq_true, true_or, or_true, lf_X8_bitsUnder, hk, hk.f, h5, h5.f, em, nI_leI (show aM a < 2 ^ 31 by omega) (show aM a < 2 ^ 31 by omega), Nat.le_refl, true_implies, not_true_eq_false, false_implies]
    exact hR
def il_X8_checksOverAny : List (Nat × Instr × Nat) := [(0, .iconst 0, 1), (1, .istore_n 2, 1), (2, .iconst 0, 1), (3, .istore_n 3, 1), (4, .iload_n 3, 1), (5, .aload_n 0, 1), (6, .getfield 9, 3), (9, .getfield 15, 3), (12, .if_icmp .ge 29, 3), (15, .aload_n 0, 1), (16, .getfield 9, 3), (19, .getfield 45, 3), (22, .iload_n 3, 1), (23, .iaload, 1), (24, .iload_n 1, 1), (25, .iand, 1), (26, .ifCond .eq 9, 3), (29, .iload_n 2, 1), (30, .iconst 1, 1), (31, .iload_n 3, 1), (32, .ishl, 1), (33, .ior, 1), (34, .istore_n 2, 1), (35, .iinc 3 1, 3), (38, .goto (-34), 3), (41, .iload_n 2, 1), (42, .ireturn, 1)]
def mt_X8_checksOverAny : Mt := (cX8_checksOverAny, RX8, 4, (some .int), ({ frames := 0, cells := 0, slots := 0, locals := 0 } : Room), false, none, none)
set_option maxRecDepth 100000 in
theorem dl_X8_checksOverAny : ∀ q ∈ il_X8_checksOverAny, decode (mt_X8_checksOverAny).1 q.1 = .ok q.2 := by decide +kernel
def tb_X8_checksOverAny : Tb := [(0, x_c 1 (.int 0), false),
  (1, x_is 2 2, false),
  (2, x_c 3 (.int 0), false),
  (3, x_is 4 3, false),
  (4, x_il 5 3, true),
  (5, x_al 6 0, false),
  (6, x_gR 8 0 9, false),
  (9, x_gI 5 5 12, false),
  (12, x_ic 41 15 (fun x y : Int32 => y ≤ x), false),
  (15, x_al 16 0, false),
  (16, x_gR 8 0 19, false),
  (19, x_gR 5 0 22, false),
  (22, x_il 23 3, false),
  (23, x_ia 24, false),
  (24, x_il 25 1, false),
  (25, x_ii 26 (fun x y : Int32 => x &&& y), false),
  (26, x_if 35 29 (fun x : Int32 => x = 0), false),
  (29, x_il 30 2, false),
  (30, x_c 31 (.int 1), false),
  (31, x_il 32 3, false),
  (32, x_ii 33 (fun x y : Int32 => x <<< (y &&& 31)), false),
  (33, x_ii 34 (fun x y : Int32 => x ||| y), false),
  (34, x_is 35 2, false),
  (35, x_inc 38 3 1, false),
  (38, x_go 4, false),
  (41, x_il 42 2, false),
  (42, x_rI, false)]
set_option maxRecDepth 100000 in
theorem tk_X8_checksOverAny : TbOk (mt_X8_checksOverAny) (tb_X8_checksOverAny) :=
  tkc (s_iconst (at_ dl_X8_checksOverAny 0 (ins := .iconst 0) rfl) (by first | rfl | decide)) (
  tkc (s_istore_n (at_ dl_X8_checksOverAny 1 (ins := .istore_n 2) rfl) (by decide)) (
  tkc (s_iconst (at_ dl_X8_checksOverAny 2 (ins := .iconst 0) rfl) (by first | rfl | decide)) (
  tkc (s_istore_n (at_ dl_X8_checksOverAny 3 (ins := .istore_n 3) rfl) (by decide)) (
  tkc (s_iload_n (at_ dl_X8_checksOverAny 4 (ins := .iload_n 3) rfl)) (
  tkc (s_aload_n (at_ dl_X8_checksOverAny 5 (ins := .aload_n 0) rfl)) (
  tkc (s_gR (at_ dl_X8_checksOverAny 6 (ins := .getfield 9) rfl) (by decide) (by decide) (by decide) (tg 200 (by decide +kernel) (by decide +kernel))) (
  tkc (s_gI (at_ dl_X8_checksOverAny 7 (ins := .getfield 15) rfl) (by decide) (by decide) (by decide) (tg 140 (by decide +kernel) (by decide +kernel))) (
  tkc (s_ic_ge (at_ dl_X8_checksOverAny 8 (ins := .if_icmp .ge 29) rfl) (by decide)) (
  tkc (s_aload_n (at_ dl_X8_checksOverAny 9 (ins := .aload_n 0) rfl)) (
  tkc (s_gR (at_ dl_X8_checksOverAny 10 (ins := .getfield 9) rfl) (by decide) (by decide) (by decide) (tg 200 (by decide +kernel) (by decide +kernel))) (
  tkc (s_gR (at_ dl_X8_checksOverAny 11 (ins := .getfield 45) rfl) (by decide) (by decide) (by decide) (tg 123 (by decide +kernel) (by decide +kernel))) (
  tkc (s_iload_n (at_ dl_X8_checksOverAny 12 (ins := .iload_n 3) rfl)) (
  tkc (s_ia (at_ dl_X8_checksOverAny 13 (ins := .iaload) rfl)) (
  tkc (s_iload_n (at_ dl_X8_checksOverAny 14 (ins := .iload_n 1) rfl)) (
  tkc (s_iand (at_ dl_X8_checksOverAny 15 (ins := .iand) rfl)) (
  tkc (s_if_eq (at_ dl_X8_checksOverAny 16 (ins := .ifCond .eq 9) rfl) (by decide)) (
  tkc (s_iload_n (at_ dl_X8_checksOverAny 17 (ins := .iload_n 2) rfl)) (
  tkc (s_iconst (at_ dl_X8_checksOverAny 18 (ins := .iconst 1) rfl) (by first | rfl | decide)) (
  tkc (s_iload_n (at_ dl_X8_checksOverAny 19 (ins := .iload_n 3) rfl)) (
  tkc (s_ishl (at_ dl_X8_checksOverAny 20 (ins := .ishl) rfl)) (
  tkc (s_ior (at_ dl_X8_checksOverAny 21 (ins := .ior) rfl)) (
  tkc (s_istore_n (at_ dl_X8_checksOverAny 22 (ins := .istore_n 2) rfl) (by decide)) (
  tkc (s_iinc (at_ dl_X8_checksOverAny 23 (ins := .iinc 3 1) rfl) (by decide) (by first | rfl | decide)) (
  tkc (s_goto (at_ dl_X8_checksOverAny 24 (ins := .goto (-34)) rfl) (by decide)) (
  tkc (s_iload_n (at_ dl_X8_checksOverAny 25 (ins := .iload_n 2) rfl)) (
  tkc (s_rI (at_ dl_X8_checksOverAny 26 (ins := .ireturn) rfl) rfl) ( tk0)))))))))))))))))))))))))))
theorem lf_X8_checksOverAny : lk (tb_X8_checksOverAny) 0 = (x_c 1 (.int 0), false) ∧ lk (tb_X8_checksOverAny) 1 = (x_is 2 2, false) ∧ lk (tb_X8_checksOverAny) 2 = (x_c 3 (.int 0), false) ∧ lk (tb_X8_checksOverAny) 3 = (x_is 4 3, false) ∧ lk (tb_X8_checksOverAny) 4 = (x_il 5 3, true) ∧ lk (tb_X8_checksOverAny) 5 = (x_al 6 0, false) ∧ lk (tb_X8_checksOverAny) 6 = (x_gR 8 0 9, false) ∧ lk (tb_X8_checksOverAny) 9 = (x_gI 5 5 12, false) ∧ lk (tb_X8_checksOverAny) 12 = (x_ic 41 15 (fun x y : Int32 => y ≤ x), false) ∧ lk (tb_X8_checksOverAny) 15 = (x_al 16 0, false) ∧ lk (tb_X8_checksOverAny) 16 = (x_gR 8 0 19, false) ∧ lk (tb_X8_checksOverAny) 19 = (x_gR 5 0 22, false) ∧ lk (tb_X8_checksOverAny) 22 = (x_il 23 3, false) ∧ lk (tb_X8_checksOverAny) 23 = (x_ia 24, false) ∧ lk (tb_X8_checksOverAny) 24 = (x_il 25 1, false) ∧ lk (tb_X8_checksOverAny) 25 = (x_ii 26 (fun x y : Int32 => x &&& y), false) ∧ lk (tb_X8_checksOverAny) 26 = (x_if 35 29 (fun x : Int32 => x = 0), false) ∧ lk (tb_X8_checksOverAny) 29 = (x_il 30 2, false) ∧ lk (tb_X8_checksOverAny) 30 = (x_c 31 (.int 1), false) ∧ lk (tb_X8_checksOverAny) 31 = (x_il 32 3, false) ∧ lk (tb_X8_checksOverAny) 32 = (x_ii 33 (fun x y : Int32 => x <<< (y &&& 31)), false) ∧ lk (tb_X8_checksOverAny) 33 = (x_ii 34 (fun x y : Int32 => x ||| y), false) ∧ lk (tb_X8_checksOverAny) 34 = (x_is 35 2, false) ∧ lk (tb_X8_checksOverAny) 35 = (x_inc 38 3 1, false) ∧ lk (tb_X8_checksOverAny) 38 = (x_go 4, false) ∧ lk (tb_X8_checksOverAny) 41 = (x_il 42 2, false) ∧ lk (tb_X8_checksOverAny) 42 = (x_rI, false) := ⟨rfl, rfl, rfl, rfl, rfl, rfl, rfl, rfl, rfl, rfl, rfl, rfl, rfl, rfl, rfl, rfl, rfl, rfl, rfl, rfl, rfl, rfl, rfl, rfl, rfl, rfl, rfl⟩
def P_X8_checksOverAny : PTT := fun as M R => match as with
  | [.ref k, .int s] => k = 18 ∧ IsWa M.1 ∧ IsSt M.1 5 ∧ tn s < 512 ∧ ∃ a, SR M.2.1 5 a ∧ AOk a ∧ R (some (.int (nI (oS (aV a) (tn s) (aM a))))) M
  | _ => False
set_option maxRecDepth 20000 in
theorem ok_X8_checksOverAny : Ok yX8_checksOverAny mt_X8_checksOverAny P_X8_checksOverAny := by
  refine Ok.of (by decide) rfl rfl rfl rfl fun av ⟨S, I, L⟩ R hP => ?_
  unfold P_X8_checksOverAny at hP
  split at hP
  case h_2 => exact hP.elim
  rename_i k s
  obtain ⟨k, rfl⟩ : ∃ q : Nat, q = k := ⟨k, rfl⟩
  refine ⟨by simp [ent, wide, mt_X8_checksOverAny], ?_⟩
  show J mt_X8_checksOverAny R 0 [some (.ref k), some (.int s), none, none] [] (S, I, L)
  try dsimp only at hP
  obtain ⟨rfl, hk, h5, hs, a, hsr, ha, hR⟩ := hP
  obtain ⟨y, hy, rfl⟩ := tn_ex hs
  rw [tn_nI (n := y) (by omega)] at hR
  have h9 := ha.1
  have em : I 5 5 = nI (aM a) := hsr.2.1
  have key := up (P := fun c => J mt_X8_checksOverAny R 4 [some (.ref 18), some (.int (nI y)), some (.int (nI (oS (aV a) y c))), some (.int (nI c))] [] (S, I, L)) (n := aM a) (fun c hc ih => ?_) 0 (Nat.zero_le _)
  · refine J.of tk_X8_checksOverAny 200 fun ρ hρ => ?_
    simp only [hρ, x_c, x_il, x_ll, x_al, x_is, x_as, x_ls, x_inc, x_ii, x_iq, x_i1, x_l2, x_lq, x_lh, x_i2l, x_l2i, x_lcmp, x_dup, x_dup2, x_pop, x_if, x_ifn, x_ic, x_icn, x_go, x_sw, swc, x_l01, x_mx, x_gI, x_gL, x_gR, x_pI, x_pZ, x_pL, x_pR, x_ia, x_za, x_aa, x_ias, x_zas, x_aas, x_fac, x_fa, x_slen, x_sa, x_ac, x_oi, x_new, x_na, x_cS, x_cV, x_cI, x_rI, x_rZ, x_rL, x_r0, pa, short, oc, lg, lset, lset2, wide, cond_true, cond_false, true_and, and_true, ↓reduceIte, Bool.false_eq_true, true_or, or_true, lf_X8_checksOverAny]
    exact key
  by_cases hlt : c < aM a
  · have ov : I 6 c = nI (aV a c) := hsr.2.2.2.2.1 c hlt
    have hv := ha.v hlt
    have hva : aV a c &&& y < 512 := and512 hv
    refine J.of tk_X8_checksOverAny 200 fun ρ hρ => ?_
    simp only [hρ, x_c, x_il, x_ll, x_al, x_is, x_as, x_ls, x_inc, x_ii, x_iq, x_i1, x_l2, x_lq, x_lh, x_i2l, x_l2i, x_lcmp, x_dup, x_dup2, x_pop, x_if, x_ifn, x_ic, x_icn, x_go, x_sw, swc, x_l01, x_mx, x_gI, x_gL, x_gR, x_pI, x_pZ, x_pL, x_pR, x_ia, x_za, x_aa, x_ias, x_zas, x_aas, x_fac, x_fa, x_slen, x_sa, x_ac, x_oi, x_new, x_na, x_cS, x_cV, x_cI, x_rI, x_rZ, x_rL, x_r0, pa, short, oc, lg, lset, lset2, wide, cond_true, cond_false, true_and, and_true, ↓reduceIte, Bool.false_eq_true, true_or, or_true, lf_X8_checksOverAny, hk, hk.f, h5, h5.f, em, ov, Nat.reduceAdd, nI_leI (show aM a < 2 ^ 31 by omega) (show c < 2 ^ 31 by omega), ncl (show c < 2 ^ 31 by omega), nI_1, nI_and, nI_z (show aV a c &&& y < 2 ^ 31 by omega), Classical.not_not]
    have := ih hlt
    refine ⟨fun h => absurd h (by omega), fun _ => ⟨vp_in_nI (by omega) (by omega), fun h => ?_, fun h => ?_⟩⟩
    · rwa [oS, ← bs_f (by simpa using h)] at this
    · rwa [oS, ← bs_t (by omega) (by simpa using h)] at this
  · have : c = aM a := by omega
    subst this
    refine J.of tk_X8_checksOverAny 200 fun ρ hρ => ?_
    simp only [hρ, x_c, x_il, x_ll, x_al, x_is, x_as, x_ls, x_inc, x_ii, x_iq, x_i1, x_l2, x_lq, x_lh, x_i2l, x_l2i, x_lcmp, x_dup, x_dup2, x_pop, x_if, x_ifn, x_ic, x_icn, x_go, x_sw, swc, x_l01, x_mx, x_gI, x_gL, x_gR, x_pI, x_pZ, x_pL, x_pR, x_ia, x_za, x_aa, x_ias, x_zas, x_aas, x_fac, x_fa, x_slen, x_sa, x_ac, x_oi, x_new, x_na, x_cS, x_cV, x_cI, x_rI, x_rZ, x_rL, x_r0, pa, short, oc, lg, lset, lset2, wide, cond_true, cond_false, true_and, and_true, ↓reduceIte, Bool.false_eq_true, true_or, or_true, lf_X8_checksOverAny, hk, hk.f, h5, h5.f, em, nI_leI (show aM a < 2 ^ 31 by omega) (show aM a < 2 ^ 31 by omega), Nat.le_refl, true_implies, not_true_eq_false, false_implies]
    exact hR
end
section
/-! RING -/
theorem and_nz {a b : Nat} : a &&& b ≠ 0 ↔ ∃ x, a.testBit x = true ∧ b.testBit x = true := by
  constructor
  · intro h
    obtain ⟨i, hi⟩ := Nat.exists_testBit_of_ne_zero h
    rw [Nat.testBit_and, Bool.and_eq_true] at hi
    exact ⟨i, hi⟩
  · rintro ⟨x, h1, h2⟩ h
    have : (a &&& b).testBit x = true := by rw [Nat.testBit_and, h1, h2]; rfl
    rw [h] at this
    simp at this
theorem uS_bit {ov : Nat → Nat} {s x : Nat} : ∀ {m : Nat}, (uS ov s m).testBit x = true ↔ ∃ c, c < m ∧ s.testBit c = true ∧ (ov c).testBit x = true
  | 0 => by simp [uS]
  | m + 1 => by
    simp only [uS]
    split
    · next h =>
      rw [Nat.testBit_or, Bool.or_eq_true, uS_bit]
      constructor
      · rintro (⟨c, h1, h2⟩ | h1)
        · exact ⟨c, by omega, h2⟩
        · exact ⟨m, by omega, h, h1⟩
      · rintro ⟨c, h1, h2, h3⟩
        by_cases e : c = m
        · subst e; exact .inr h3
        · exact .inl ⟨c, by omega, h2, h3⟩
    · next h =>
      rw [uS_bit]
      constructor
      · rintro ⟨c, h1, h2⟩
        exact ⟨c, by omega, h2⟩
      · rintro ⟨c, h1, h2, h3⟩
        by_cases e : c = m
        · subst e; exact absurd h2 h
        · exact ⟨c, by omega, h2, h3⟩
theorem oS_bit {ov : Nat → Nat} {t m c : Nat} : (oS ov t m).testBit c = true ↔ c < m ∧ ∃ x, (ov c).testBit x = true ∧ t.testBit x = true := by
  rw [oS, bs_bit, Bool.and_eq_true, decide_eq_true_eq, decide_eq_true_eq, and_nz]
theorem oS_lt {ov : Nat → Nat} {t m : Nat} (h : m ≤ 6) : oS ov t m < 64 := Nat.lt_of_lt_of_le (bs_lt _ _) (pow6 h)
theorem df_t {x y i : Nat} : (df x y).testBit i = true ↔ x.testBit i = true ∧ ¬ y.testBit i = true := by
  rw [df_bit, Bool.and_eq_true, Bool.not_eq_true', Bool.not_eq_true]
/-- bits and checks met, a step more -/
def stW (ov : Nat → Nat) (m : Nat) (p : Nat × Nat) : Nat × Nat := (p.1 ||| uS ov p.2 m, p.2 ||| oS ov (p.1 ||| uS ov p.2 m) m)
def cW (ov : Nat → Nat) (m b : Nat) : Nat → Nat × Nat
  | 0 => (2 ^ b, oS ov (2 ^ b) m)
  | s + 1 => stW ov m (cW ov m b s)
/-- what a search keeps: behind P all bits are met, over B all checks are met -/
def WI (ov : Nat → Nat) (m B C P : Nat) : Prop := (∀ c, c < m → P.testBit c = true → ∀ x, (ov c).testBit x = true → B.testBit x = true) ∧ (∀ c, c < m → ∀ x, (ov c).testBit x = true → B.testBit x = true → C.testBit c = true)
theorem WI.step {ov ov' : Nat → Nat} {m B C P : Nat} (h : WI ov' m B C P) (h1 : ∀ c, c < m → C.testBit c = true → ov' c = ov c) (h2 : ∀ c, c < m → ∀ x, ¬ B.testBit x = true → (ov' c).testBit x = (ov c).testBit x) : B ||| df (uS ov (df C P) m) B = (stW ov' m (B, C)).1 ∧ df (oS ov (df (uS ov (df C P) m) B) m) C = df (stW ov' m (B, C)).2 C ∧ C ||| df (oS ov (df (uS ov (df C P) m) B) m) C = (stW ov' m (B, C)).2 ∧ WI ov' m (stW ov' m (B, C)).1 (stW ov' m (B, C)).2 C := by
  have e1 : B ||| df (uS ov (df C P) m) B = (stW ov' m (B, C)).1 := by
    apply Nat.eq_of_testBit_eq
    intro x
    rw [Bool.eq_iff_iff]
    simp only [stW, Nat.testBit_or, Bool.or_eq_true, df_t, uS_bit]
    constructor
    · rintro (hx | ⟨⟨c, hc, ⟨hC, hP⟩, hx⟩, hB⟩)
      · exact .inl hx
      · exact .inr ⟨c, hc, hC, by rw [h1 c hc hC]; exact hx⟩
    · rintro (hx | ⟨c, hc, hC, hx⟩)
      · exact .inl hx
      · by_cases hB : B.testBit x = true
        · exact .inl hB
        · exact .inr ⟨⟨c, hc, ⟨hC, fun hP => hB (h.1 c hc hP x hx)⟩, by rw [← h1 c hc hC]; exact hx⟩, hB⟩
  have e2 : df (oS ov (df (uS ov (df C P) m) B) m) C = df (stW ov' m (B, C)).2 C := by
    apply Nat.eq_of_testBit_eq
    intro c
    rw [Bool.eq_iff_iff]
    have hB' : ∀ x, (stW ov' m (B, C)).1.testBit x = true ↔ B.testBit x = true ∨ (df (uS ov (df C P) m) B).testBit x = true := fun x => by
      rw [← e1, Nat.testBit_or, Bool.or_eq_true]
    have h22 : (stW ov' m (B, C)).2 = C ||| oS ov' (stW ov' m (B, C)).1 m := rfl
    rw [h22]
    simp only [df_t, Nat.testBit_or, Bool.or_eq_true, oS_bit, hB']
    constructor
    · rintro ⟨⟨hc, x, hx, hx2, hB⟩, hC⟩
      exact ⟨.inr ⟨hc, x, by rw [h2 c hc x hB]; exact hx, .inr ⟨hx2, hB⟩⟩, hC⟩
    · rintro ⟨hC' | ⟨hc, x, hx, hxB | ⟨hx2, hB⟩⟩, hC⟩
      · exact absurd hC' hC
      · exact absurd (h.2 c hc x hx hxB) hC
      · exact ⟨⟨hc, x, by rw [← h2 c hc x hB]; exact hx, hx2, hB⟩, hC⟩
  refine ⟨e1, e2, ?_, ?_, ?_⟩
  · rw [e2]
    apply Nat.eq_of_testBit_eq
    intro c
    rw [Bool.eq_iff_iff, Nat.testBit_or, Bool.or_eq_true, df_t]
    constructor
    · rintro (hc | hc)
      · simp only [stW, Nat.testBit_or, Bool.or_eq_true]; exact .inl hc
      · exact hc.1
    · intro hc
      by_cases hC : C.testBit c = true
      · exact .inl hC
      · exact .inr ⟨hc, hC⟩
  · intro c hc hC x hx
    simp only [stW, Nat.testBit_or, Bool.or_eq_true, uS_bit]
    exact .inr ⟨c, hc, hC, hx⟩
  · intro c hc x hx hB
    have h22 : (stW ov' m (B, C)).2 = C ||| oS ov' (stW ov' m (B, C)).1 m := rfl
    rw [h22, Nat.testBit_or, Bool.or_eq_true, oS_bit]
    exact .inr ⟨hc, x, hx, hB⟩
theorem WI.zero (ov : Nat → Nat) (m b : Nat) : WI ov m (2 ^ b) (oS ov (2 ^ b) m) 0 := by
  refine ⟨fun c _ h => by simp at h, fun c hc x hx hB => ?_⟩
  rw [oS_bit]
  exact ⟨hc, x, hx, hB⟩
theorem cW_b (ov : Nat → Nat) (m b : Nat) : ∀ s, (cW ov m b s).1.testBit b = true
  | 0 => by simp [cW]
  | s + 1 => by
    simp only [cW, stW, Nat.testBit_or, Bool.or_eq_true]
    exact .inl (cW_b ov m b s)
theorem cW_mono (ov : Nat → Nat) (m b c : Nat) (s : Nat) (h : (cW ov m b s).2.testBit c = true) : (cW ov m b (s + 1)).2.testBit c = true := by
  simp only [cW, stW, Nat.testBit_or, Bool.or_eq_true]
  exact .inl h
theorem cW_lt {ov : Nat → Nat} {m b N : Nat} (hm : m ≤ 6) (hb : b < N) (hv : ∀ c, c < m → ov c < 2 ^ N) : ∀ s, (cW ov m b s).1 < 2 ^ N ∧ (cW ov m b s).2 < 64
  | 0 => ⟨Nat.pow_lt_pow_right (by omega) hb, oS_lt hm⟩
  | s + 1 => by
    have := cW_lt hm hb hv s
    exact ⟨Nat.or_lt_two_pow this.1 (uS_lt hv), Nat.or_lt_two_pow (n := 6) this.2 (oS_lt hm)⟩
/-- the step behind which c is met, of the next l steps, as a ring -/
def rgS (f : Nat → Bool) : Nat → Nat → Nat
  | _, 0 => 99
  | s, l + 1 => if f s = true then 2 * (s + 1) else rgS f (s + 1) l
theorem rgS_none {f : Nat → Bool} : ∀ {l s : Nat}, (∀ i, s ≤ i → ¬ f i = true) → rgS f s l = 99
  | 0, _, _ => rfl
  | l + 1, s, h => by rw [rgS, if_neg (h s (Nat.le_refl s)), rgS_none (fun i hi => h i (by omega))]
/-- the sets without one bit of one check -/
def wo (ov : Nat → Nat) (c b : Nat) : Nat → Nat := va_up ov c (df (ov c) (2 ^ b))
def rgA (a : AS) (c b : Nat) : Nat := rgS (fun s => (cW (wo (aV a) c b) (aM a) b s).2.testBit c) 1 6
theorem pow_bit {b x : Nat} : (2 ^ b).testBit x = true ↔ x = b := by
  rw [Nat.testBit_two_pow, decide_eq_true_eq]
  exact ⟨Eq.symm, Eq.symm⟩
theorem wo_s {ov : Nat → Nat} {c b : Nat} : wo ov c b c = df (ov c) (2 ^ b) := by simp [wo, va_up]
theorem wo_n {ov : Nat → Nat} {c b x : Nat} (h : x ≠ c) : wo ov c b x = ov x := by simp [wo, va_up, h]
theorem wo_lt {ov : Nat → Nat} {c b N m : Nat} (hv : ∀ c, c < m → ov c < 2 ^ N) : ∀ x, x < m → wo ov c b x < 2 ^ N := fun x hx => by
  by_cases h : x = c
  · subst h; rw [wo_s]; exact df_lt (hv x hx)
  · rw [wo_n h]; exact hv x hx
theorem co_0 {ov : Nat → Nat} {m b : Nat} : coF ov m b = oS ov (2 ^ b) m := by
  apply Nat.eq_of_testBit_eq
  intro c
  rw [Bool.eq_iff_iff, oS_bit, coF, bs_bit, Bool.and_eq_true, decide_eq_true_eq]
  refine ⟨fun h => ⟨h.1, b, h.2, pow_bit.mpr rfl⟩, ?_⟩
  rintro ⟨h1, x, h2, h3⟩
  rw [pow_bit] at h3
  subst h3
  exact ⟨h1, h2⟩
theorem wo_0 {ov : Nat → Nat} {m b c : Nat} : df (coF ov m b) (2 ^ c) = oS (wo ov c b) (2 ^ b) m := by
  apply Nat.eq_of_testBit_eq
  intro x
  rw [Bool.eq_iff_iff, df_t, co_0, oS_bit, oS_bit, pow_bit]
  constructor
  · rintro ⟨⟨h1, h2⟩, h3⟩
    rw [wo_n h3]
    exact ⟨h1, h2⟩
  · rintro ⟨h1, y, h2, h3⟩
    by_cases h : x = c
    · subst h
      rw [wo_s, df_t, pow_bit] at h2
      rw [pow_bit] at h3
      exact absurd h3 h2.2
    · rw [wo_n h] at h2
      exact ⟨⟨h1, y, h2, h3⟩, h⟩
theorem df_0 {x : Nat} : df x 0 = x := by simp [df]
theorem SR.co {I : MI} {k : Nat} {a : AS} (h : SR I k a) (ho : AOk a) {b : Nat} : coF (ovS I k) (tn (I k 5)) b = coF (aV a) (aM a) b := by
  rw [h.2.1, tn_nI (n := aM a) (by have := ho.1; omega)]
  exact bs_congr (fun c hc => by rw [h.ov ho c hc])
theorem cW_st {ov : Nat → Nat} {m b s : Nat} (h : cW ov m b (s + 1) = cW ov m b s) : ∀ i, cW ov m b (s + i) = cW ov m b s
  | 0 => rfl
  | i + 1 => by
    have := cW_st h i
    show stW ov m (cW ov m b (s + i)) = _
    rw [this]
    exact h
theorem or_z {B x : Nat} : B ||| df 0 x = B := by simp [df]
theorem uS_0 {ov : Nat → Nat} {m : Nat} : uS ov 0 m = 0 := by
  apply Nat.eq_of_testBit_eq
  intro x
  rw [Bool.eq_iff_iff, uS_bit]
  simp
theorem oS_0 {ov : Nat → Nat} {m : Nat} : oS ov 0 m = 0 := by
  apply Nat.eq_of_testBit_eq
  intro x
  rw [Bool.eq_iff_iff, oS_bit]
  simp
theorem df_z {x : Nat} : df 0 x = 0 := by simp [df]
def il_X8_ringOver : List (Nat × Instr × Nat) := [(0, .iconst 1, 1), (1, .iload_n 2, 1), (2, .ishl, 1), (3, .istore_n 3, 1), (4, .aload_n 0, 1), (5, .getfield 9, 3), (8, .iload_n 2, 1), (9, .invokevirtual 32, 3), (12, .iconst 1, 1), (13, .iload_n 1, 1), (14, .ishl, 1), (15, .iconst (-1), 1), (16, .ixor, 1), (17, .iand, 1), (18, .istore 4, 2), (20, .iload 4, 2), (22, .istore 5, 2), (24, .iconst 1, 1), (25, .istore 6, 2), (27, .iload 6, 2), (29, .bipush 6, 2), (31, .if_icmp .gt 67, 3), (34, .iload 4, 2), (36, .ifCond .eq 62, 3), (39, .aload_n 0, 1), (40, .iload 4, 2), (42, .invokevirtual 36, 3), (45, .iload_n 3, 1), (46, .iconst (-1), 1), (47, .ixor, 1), (48, .iand, 1), (49, .istore 7, 2), (51, .iload_n 3, 1), (52, .iload 7, 2), (54, .ior, 1), (55, .istore_n 3, 1), (56, .aload_n 0, 1), (57, .iload 7, 2), (59, .invokevirtual 39, 3), (62, .iload 5, 2), (64, .iconst (-1), 1), (65, .ixor, 1), (66, .iand, 1), (67, .istore 4, 2), (69, .iload 5, 2), (71, .iload 4, 2), (73, .ior, 1), (74, .istore 5, 2), (76, .iload 4, 2), (78, .iload_n 1, 1), (79, .ishr, 1), (80, .iconst 1, 1), (81, .iand, 1), (82, .ifCond .eq 10, 3), (85, .iconst 2, 1), (86, .iload 6, 2), (88, .iconst 1, 1), (89, .iadd, 1), (90, .imul, 1), (91, .ireturn, 1), (92, .iinc 6 1, 3), (95, .goto (-68), 3), (98, .bipush (-9), 2), (100, .ireturn, 1)]
def mt_X8_ringOver : Mt := (cX8_ringOver, RX8, 8, (some .int), ({ frames := 1, cells := 0, slots := 0, locals := 23 } : Room), false, none, none)
set_option maxRecDepth 100000 in
theorem dl_X8_ringOver : ∀ q ∈ il_X8_ringOver, decode (mt_X8_ringOver).1 q.1 = .ok q.2 := by decide +kernel
def tb_X8_ringOver : Tb := [(0, x_c 1 (.int 1), false),
  (1, x_il 2 2, false),
  (2, x_ii 3 (fun x y : Int32 => x <<< (y &&& 31)), false),
  (3, x_is 4 3, false),
  (4, x_al 5 0, false),
  (5, x_gR 8 0 8, false),
  (8, x_il 9 2, false),
  (9, x_cV 5 1 P_X5_checksOver 12, false),
  (12, x_c 13 (.int 1), false),
  (13, x_il 14 1, false),
  (14, x_ii 15 (fun x y : Int32 => x <<< (y &&& 31)), false),
  (15, x_c 16 (.int (-1)), false),
  (16, x_ii 17 (fun x y : Int32 => x ^^^ y), false),
  (17, x_ii 18 (fun x y : Int32 => x &&& y), false),
  (18, x_is 20 4, false),
  (20, x_il 22 4, false),
  (22, x_is 24 5, false),
  (24, x_c 25 (.int 1), false),
  (25, x_is 27 6, false),
  (27, x_il 29 6, true),
  (29, x_c 31 (.int 6), false),
  (31, x_ic 98 34 (fun x y : Int32 => y < x), false),
  (34, x_il 36 4, false),
  (36, x_if 98 39 (fun x : Int32 => x = 0), false),
  (39, x_al 40 0, false),
  (40, x_il 42 4, false),
  (42, x_cV 8 1 P_X8_bitsUnder 45, false),
  (45, x_il 46 3, false),
  (46, x_c 47 (.int (-1)), false),
  (47, x_ii 48 (fun x y : Int32 => x ^^^ y), false),
  (48, x_ii 49 (fun x y : Int32 => x &&& y), false),
  (49, x_is 51 7, false),
  (51, x_il 52 3, false),
  (52, x_il 54 7, false),
  (54, x_ii 55 (fun x y : Int32 => x ||| y), false),
  (55, x_is 56 3, false),
  (56, x_al 57 0, false),
  (57, x_il 59 7, false),
  (59, x_cV 8 1 P_X8_checksOverAny 62, false),
  (62, x_il 64 5, false),
  (64, x_c 65 (.int (-1)), false),
  (65, x_ii 66 (fun x y : Int32 => x ^^^ y), false),
  (66, x_ii 67 (fun x y : Int32 => x &&& y), false),
  (67, x_is 69 4, false),
  (69, x_il 71 5, false),
  (71, x_il 73 4, false),
  (73, x_ii 74 (fun x y : Int32 => x ||| y), false),
  (74, x_is 76 5, false),
  (76, x_il 78 4, false),
  (78, x_il 79 1, false),
  (79, x_ii 80 (fun x y : Int32 => x >>> (y &&& 31)), false),
  (80, x_c 81 (.int 1), false),
  (81, x_ii 82 (fun x y : Int32 => x &&& y), false),
  (82, x_if 92 85 (fun x : Int32 => x = 0), false),
  (85, x_c 86 (.int 2), false),
  (86, x_il 88 6, false),
  (88, x_c 89 (.int 1), false),
  (89, x_ii 90 (fun x y : Int32 => x + y), false),
  (90, x_ii 91 (fun x y : Int32 => x * y), false),
  (91, x_rI, false),
  (92, x_inc 95 6 1, false),
  (95, x_go 27, false),
  (98, x_c 100 (.int (-9)), false),
  (100, x_rI, false)]
set_option maxRecDepth 100000 in
theorem tk_X8_ringOver : TbOk (mt_X8_ringOver) (tb_X8_ringOver) :=
  tkc (s_iconst (at_ dl_X8_ringOver 0 (ins := .iconst 1) rfl) (by first | rfl | decide)) (
  tkc (s_iload_n (at_ dl_X8_ringOver 1 (ins := .iload_n 2) rfl)) (
  tkc (s_ishl (at_ dl_X8_ringOver 2 (ins := .ishl) rfl)) (
  tkc (s_istore_n (at_ dl_X8_ringOver 3 (ins := .istore_n 3) rfl) (by decide)) (
  tkc (s_aload_n (at_ dl_X8_ringOver 4 (ins := .aload_n 0) rfl)) (
  tkc (s_gR (at_ dl_X8_ringOver 5 (ins := .getfield 9) rfl) (by decide) (by decide) (by decide) (tg 200 (by decide +kernel) (by decide +kernel))) (
  tkc (s_iload_n (at_ dl_X8_ringOver 6 (ins := .iload_n 2) rfl)) (
  tkc (s_cV ok_X5_checksOver (at_ dl_X8_ringOver 7 (ins := .invokevirtual 32) rfl) (by decide) rfl (tg 403 (by decide +kernel) (by decide +kernel)) (tg 404 (by decide +kernel) (by decide +kernel)) (tg 405 (by decide +kernel) (by decide +kernel)) (tg 45 (by decide +kernel) (by decide +kernel)) (tg 406 (by decide +kernel) (by decide +kernel)) (⟨by decide, by decide, by decide +kernel⟩) (⟨by decide, by decide⟩) rfl rfl) (
  tkc (s_iconst (at_ dl_X8_ringOver 8 (ins := .iconst 1) rfl) (by first | rfl | decide)) (
  tkc (s_iload_n (at_ dl_X8_ringOver 9 (ins := .iload_n 1) rfl)) (
  tkc (s_ishl (at_ dl_X8_ringOver 10 (ins := .ishl) rfl)) (
  tkc (s_iconst (at_ dl_X8_ringOver 11 (ins := .iconst (-1)) rfl) (by first | rfl | decide)) (
  tkc (s_ixor (at_ dl_X8_ringOver 12 (ins := .ixor) rfl)) (
  tkc (s_iand (at_ dl_X8_ringOver 13 (ins := .iand) rfl)) (
  tkc (s_istore (at_ dl_X8_ringOver 14 (ins := .istore 4) rfl) (by decide)) (
  tkc (s_iload (at_ dl_X8_ringOver 15 (ins := .iload 4) rfl)) (
  tkc (s_istore (at_ dl_X8_ringOver 16 (ins := .istore 5) rfl) (by decide)) (
  tkc (s_iconst (at_ dl_X8_ringOver 17 (ins := .iconst 1) rfl) (by first | rfl | decide)) (
  tkc (s_istore (at_ dl_X8_ringOver 18 (ins := .istore 6) rfl) (by decide)) (
  tkc (s_iload (at_ dl_X8_ringOver 19 (ins := .iload 6) rfl)) (
  tkc (s_bipush (at_ dl_X8_ringOver 20 (ins := .bipush 6) rfl) (by first | rfl | decide)) (
  tkc (s_ic_gt (at_ dl_X8_ringOver 21 (ins := .if_icmp .gt 67) rfl) (by decide)) (
  tkc (s_iload (at_ dl_X8_ringOver 22 (ins := .iload 4) rfl)) (
  tkc (s_if_eq (at_ dl_X8_ringOver 23 (ins := .ifCond .eq 62) rfl) (by decide)) (
  tkc (s_aload_n (at_ dl_X8_ringOver 24 (ins := .aload_n 0) rfl)) (
  tkc (s_iload (at_ dl_X8_ringOver 25 (ins := .iload 4) rfl)) (
  tkc (s_cV ok_X8_bitsUnder (at_ dl_X8_ringOver 26 (ins := .invokevirtual 36) rfl) (by decide) rfl (tg 407 (by decide +kernel) (by decide +kernel)) (tg 409 (by decide +kernel) (by decide +kernel)) (tg 5 (by decide +kernel) (by decide +kernel)) (tg 47 (by decide +kernel) (by decide +kernel)) (tg 410 (by decide +kernel) (by decide +kernel)) (⟨by decide, by decide, by decide +kernel⟩) (⟨by decide, by decide⟩) rfl rfl) (
  tkc (s_iload_n (at_ dl_X8_ringOver 27 (ins := .iload_n 3) rfl)) (
  tkc (s_iconst (at_ dl_X8_ringOver 28 (ins := .iconst (-1)) rfl) (by first | rfl | decide)) (
  tkc (s_ixor (at_ dl_X8_ringOver 29 (ins := .ixor) rfl)) (
  tkc (s_iand (at_ dl_X8_ringOver 30 (ins := .iand) rfl)) (
  tkc (s_istore (at_ dl_X8_ringOver 31 (ins := .istore 7) rfl) (by decide)) (
  tkc (s_iload_n (at_ dl_X8_ringOver 32 (ins := .iload_n 3) rfl)) (
  tkc (s_iload (at_ dl_X8_ringOver 33 (ins := .iload 7) rfl)) (
  tkc (s_ior (at_ dl_X8_ringOver 34 (ins := .ior) rfl)) (
  tkc (s_istore_n (at_ dl_X8_ringOver 35 (ins := .istore_n 3) rfl) (by decide)) (
  tkc (s_aload_n (at_ dl_X8_ringOver 36 (ins := .aload_n 0) rfl)) (
  tkc (s_iload (at_ dl_X8_ringOver 37 (ins := .iload 7) rfl)) (
  tkc (s_cV ok_X8_checksOverAny (at_ dl_X8_ringOver 38 (ins := .invokevirtual 39) rfl) (by decide) rfl (tg 411 (by decide +kernel) (by decide +kernel)) (tg 413 (by decide +kernel) (by decide +kernel)) (tg 6 (by decide +kernel) (by decide +kernel)) (tg 47 (by decide +kernel) (by decide +kernel)) (tg 414 (by decide +kernel) (by decide +kernel)) (⟨by decide, by decide, by decide +kernel⟩) (⟨by decide, by decide⟩) rfl rfl) (
  tkc (s_iload (at_ dl_X8_ringOver 39 (ins := .iload 5) rfl)) (
  tkc (s_iconst (at_ dl_X8_ringOver 40 (ins := .iconst (-1)) rfl) (by first | rfl | decide)) (
  tkc (s_ixor (at_ dl_X8_ringOver 41 (ins := .ixor) rfl)) (
  tkc (s_iand (at_ dl_X8_ringOver 42 (ins := .iand) rfl)) (
  tkc (s_istore (at_ dl_X8_ringOver 43 (ins := .istore 4) rfl) (by decide)) (
  tkc (s_iload (at_ dl_X8_ringOver 44 (ins := .iload 5) rfl)) (
  tkc (s_iload (at_ dl_X8_ringOver 45 (ins := .iload 4) rfl)) (
  tkc (s_ior (at_ dl_X8_ringOver 46 (ins := .ior) rfl)) (
  tkc (s_istore (at_ dl_X8_ringOver 47 (ins := .istore 5) rfl) (by decide)) (
  tkc (s_iload (at_ dl_X8_ringOver 48 (ins := .iload 4) rfl)) (
  tkc (s_iload_n (at_ dl_X8_ringOver 49 (ins := .iload_n 1) rfl)) (
  tkc (s_ishr (at_ dl_X8_ringOver 50 (ins := .ishr) rfl)) (
  tkc (s_iconst (at_ dl_X8_ringOver 51 (ins := .iconst 1) rfl) (by first | rfl | decide)) (
  tkc (s_iand (at_ dl_X8_ringOver 52 (ins := .iand) rfl)) (
  tkc (s_if_eq (at_ dl_X8_ringOver 53 (ins := .ifCond .eq 10) rfl) (by decide)) (
  tkc (s_iconst (at_ dl_X8_ringOver 54 (ins := .iconst 2) rfl) (by first | rfl | decide)) (
  tkc (s_iload (at_ dl_X8_ringOver 55 (ins := .iload 6) rfl)) (
  tkc (s_iconst (at_ dl_X8_ringOver 56 (ins := .iconst 1) rfl) (by first | rfl | decide)) (
  tkc (s_iadd (at_ dl_X8_ringOver 57 (ins := .iadd) rfl)) (
  tkc (s_imul (at_ dl_X8_ringOver 58 (ins := .imul) rfl)) (
  tkc (s_rI (at_ dl_X8_ringOver 59 (ins := .ireturn) rfl) rfl) (
  tkc (s_iinc (at_ dl_X8_ringOver 60 (ins := .iinc 6 1) rfl) (by decide) (by first | rfl | decide)) (
  tkc (s_goto (at_ dl_X8_ringOver 61 (ins := .goto (-68)) rfl) (by decide)) (
  tkc (s_bipush (at_ dl_X8_ringOver 62 (ins := .bipush (-9)) rfl) (by first | rfl | decide)) (
  tkc (s_rI (at_ dl_X8_ringOver 63 (ins := .ireturn) rfl) rfl) ( tk0))))))))))))))))))))))))))))))))))))))))))))))))))))))))))))))))
theorem lf_X8_ringOver : lk (tb_X8_ringOver) 0 = (x_c 1 (.int 1), false) ∧ lk (tb_X8_ringOver) 1 = (x_il 2 2, false) ∧ lk (tb_X8_ringOver) 2 = (x_ii 3 (fun x y : Int32 => x <<< (y &&& 31)), false) ∧ lk (tb_X8_ringOver) 3 = (x_is 4 3, false) ∧ lk (tb_X8_ringOver) 4 = (x_al 5 0, false) ∧ lk (tb_X8_ringOver) 5 = (x_gR 8 0 8, false) ∧ lk (tb_X8_ringOver) 8 = (x_il 9 2, false) ∧ lk (tb_X8_ringOver) 9 = (x_cV 5 1 P_X5_checksOver 12, false) ∧ lk (tb_X8_ringOver) 12 = (x_c 13 (.int 1), false) ∧ lk (tb_X8_ringOver) 13 = (x_il 14 1, false) ∧ lk (tb_X8_ringOver) 14 = (x_ii 15 (fun x y : Int32 => x <<< (y &&& 31)), false) ∧ lk (tb_X8_ringOver) 15 = (x_c 16 (.int (-1)), false) ∧ lk (tb_X8_ringOver) 16 = (x_ii 17 (fun x y : Int32 => x ^^^ y), false) ∧ lk (tb_X8_ringOver) 17 = (x_ii 18 (fun x y : Int32 => x &&& y), false) ∧ lk (tb_X8_ringOver) 18 = (x_is 20 4, false) ∧ lk (tb_X8_ringOver) 20 = (x_il 22 4, false) ∧ lk (tb_X8_ringOver) 22 = (x_is 24 5, false) ∧ lk (tb_X8_ringOver) 24 = (x_c 25 (.int 1), false) ∧ lk (tb_X8_ringOver) 25 = (x_is 27 6, false) ∧ lk (tb_X8_ringOver) 27 = (x_il 29 6, true) ∧ lk (tb_X8_ringOver) 29 = (x_c 31 (.int 6), false) ∧ lk (tb_X8_ringOver) 31 = (x_ic 98 34 (fun x y : Int32 => y < x), false) ∧ lk (tb_X8_ringOver) 34 = (x_il 36 4, false) ∧ lk (tb_X8_ringOver) 36 = (x_if 98 39 (fun x : Int32 => x = 0), false) ∧ lk (tb_X8_ringOver) 39 = (x_al 40 0, false) ∧ lk (tb_X8_ringOver) 40 = (x_il 42 4, false) ∧ lk (tb_X8_ringOver) 42 = (x_cV 8 1 P_X8_bitsUnder 45, false) ∧ lk (tb_X8_ringOver) 45 = (x_il 46 3, false) ∧ lk (tb_X8_ringOver) 46 = (x_c 47 (.int (-1)), false) ∧ lk (tb_X8_ringOver) 47 = (x_ii 48 (fun x y : Int32 => x ^^^ y), false) ∧ lk (tb_X8_ringOver) 48 = (x_ii 49 (fun x y : Int32 => x &&& y), false) ∧ lk (tb_X8_ringOver) 49 = (x_is 51 7, false) ∧ lk (tb_X8_ringOver) 51 = (x_il 52 3, false) ∧ lk (tb_X8_ringOver) 52 = (x_il 54 7, false) ∧ lk (tb_X8_ringOver) 54 = (x_ii 55 (fun x y : Int32 => x ||| y), false) ∧ lk (tb_X8_ringOver) 55 = (x_is 56 3, false) ∧ lk (tb_X8_ringOver) 56 = (x_al 57 0, false) ∧ lk (tb_X8_ringOver) 57 = (x_il 59 7, false) ∧ lk (tb_X8_ringOver) 59 = (x_cV 8 1 P_X8_checksOverAny 62, false) ∧ lk (tb_X8_ringOver) 62 = (x_il 64 5, false) ∧ lk (tb_X8_ringOver) 64 = (x_c 65 (.int (-1)), false) ∧ lk (tb_X8_ringOver) 65 = (x_ii 66 (fun x y : Int32 => x ^^^ y), false) ∧ lk (tb_X8_ringOver) 66 = (x_ii 67 (fun x y : Int32 => x &&& y), false) ∧ lk (tb_X8_ringOver) 67 = (x_is 69 4, false) ∧ lk (tb_X8_ringOver) 69 = (x_il 71 5, false) ∧ lk (tb_X8_ringOver) 71 = (x_il 73 4, false) ∧ lk (tb_X8_ringOver) 73 = (x_ii 74 (fun x y : Int32 => x ||| y), false) ∧ lk (tb_X8_ringOver) 74 = (x_is 76 5, false) ∧ lk (tb_X8_ringOver) 76 = (x_il 78 4, false) ∧ lk (tb_X8_ringOver) 78 = (x_il 79 1, false) ∧ lk (tb_X8_ringOver) 79 = (x_ii 80 (fun x y : Int32 => x >>> (y &&& 31)), false) ∧ lk (tb_X8_ringOver) 80 = (x_c 81 (.int 1), false) ∧ lk (tb_X8_ringOver) 81 = (x_ii 82 (fun x y : Int32 => x &&& y), false) ∧ lk (tb_X8_ringOver) 82 = (x_if 92 85 (fun x : Int32 => x = 0), false) ∧ lk (tb_X8_ringOver) 85 = (x_c 86 (.int 2), false) ∧ lk (tb_X8_ringOver) 86 = (x_il 88 6, false) ∧ lk (tb_X8_ringOver) 88 = (x_c 89 (.int 1), false) ∧ lk (tb_X8_ringOver) 89 = (x_ii 90 (fun x y : Int32 => x + y), false) ∧ lk (tb_X8_ringOver) 90 = (x_ii 91 (fun x y : Int32 => x * y), false) ∧ lk (tb_X8_ringOver) 91 = (x_rI, false) ∧ lk (tb_X8_ringOver) 92 = (x_inc 95 6 1, false) ∧ lk (tb_X8_ringOver) 95 = (x_go 27, false) ∧ lk (tb_X8_ringOver) 98 = (x_c 100 (.int (-9)), false) ∧ lk (tb_X8_ringOver) 100 = (x_rI, false) := ⟨rfl, rfl, rfl, rfl, rfl, rfl, rfl, rfl, rfl, rfl, rfl, rfl, rfl, rfl, rfl, rfl, rfl, rfl, rfl, rfl, rfl, rfl, rfl, rfl, rfl, rfl, rfl, rfl, rfl, rfl, rfl, rfl, rfl, rfl, rfl, rfl, rfl, rfl, rfl, rfl, rfl, rfl, rfl, rfl, rfl, rfl, rfl, rfl, rfl, rfl, rfl, rfl, rfl, rfl, rfl, rfl, rfl, rfl, rfl, rfl, rfl, rfl, rfl, rfl⟩
def P_X8_ringOver : PTT := fun as M R => match as with
  | [.ref k, .int c, .int b] => k = 18 ∧ IsWa M.1 ∧ IsSt M.1 5 ∧ ∃ a, SR M.2.1 5 a ∧ AOk a ∧ tn c < aM a ∧ tn b < aN a ∧ R (some (.int (nn (rgA a (tn c) (tn b))))) M
  | _ => False
set_option maxRecDepth 20000 in
theorem ok_X8_ringOver : Ok yX8_ringOver mt_X8_ringOver P_X8_ringOver := by
  refine Ok.of (by decide) rfl rfl rfl rfl fun av ⟨S, I, L⟩ R hP => ?_
  unfold P_X8_ringOver at hP
  split at hP
  case h_2 => exact hP.elim
  rename_i k c b
  obtain ⟨k, rfl⟩ : ∃ q : Nat, q = k := ⟨k, rfl⟩
  refine ⟨by simp [ent, wide, mt_X8_ringOver], ?_⟩
  show J mt_X8_ringOver R 0 [some (.ref k), some (.int c), some (.int b), none, none, none, none, none] [] (S, I, L)
  try dsimp only at hP
  obtain ⟨rfl, hk, h5, a, hsr, ha, hc, hb, hR⟩ := hP
  have h9 := ha.1
  obtain ⟨i, hi, rfl⟩ := tn_ex (Nat.lt_trans hc (show aM a < 512 by omega))
  obtain ⟨j, hj, rfl⟩ := tn_ex (Nat.lt_trans hb (show aN a < 512 by omega))
  rw [tn_nI (n := i) (by omega)] at hR hc
  rw [tn_nI (n := j) (by omega)] at hR hb
  have hp9 := pow9 h9.2.1
  have hp6 := pow6 h9.2.2
  have hV := wo_lt (c := i) (b := j) ha.2.1
  have hW := cW_lt (ov := wo (aV a) i j) h9.2.2 hb hV
  have key : ∀ l s P, l + s = 6 → WI (wo (aV a) i j) (aM a) (cW (wo (aV a) i j) (aM a) j s).1 (cW (wo (aV a) i j) (aM a) j s).2 P → ¬ (cW (wo (aV a) i j) (aM a) j s).2.testBit i = true → rgS (fun s => (cW (wo (aV a) i j) (aM a) j s).2.testBit i) (s + 1) l = rgA a i j → J mt_X8_ringOver R 27 [some (.ref 18), some (.int (nI i)), some (.int (nI j)), some (.int (nI (cW (wo (aV a) i j) (aM a) j s).1)), some (.int (nI (df (cW (wo (aV a) i j) (aM a) j s).2 P))), some (.int (nI (cW (wo (aV a) i j) (aM a) j s).2)), some (.int (nI (s + 1))), none] [] (S, I, L) := by
    intro l
    induction l with
    | zero =>
      intro s P hl hI hn hr
      have : s = 6 := by omega
      subst this
      have e6 : (6 : Int32) < nI (6 + 1) ↔ True := by decide
      rw [← hr] at hR
      refine J.of tk_X8_ringOver 200 fun ρ hρ => ?_
      simp only [hρ, x_c, x_il, x_ll, x_al, x_is, x_as, x_ls, x_inc, x_ii, x_iq, x_i1, x_l2, x_lq, x_lh, x_i2l, x_l2i, x_lcmp, x_dup, x_dup2, x_pop, x_if, x_ifn, x_ic, x_icn, x_go, x_sw, swc, x_l01, x_mx, x_gI, x_gL, x_gR, x_pI, x_pZ, x_pL, x_pR, x_ia, x_za, x_aa, x_ias, x_zas, x_aas, x_fac, x_fa, x_slen, x_sa, x_ac, x_oi, x_new, x_na, x_cS, x_cV, x_cI, x_rI, x_rZ, x_rL, x_r0, pa, short, oc, lg, lset, lset2, wide, cond_true, cond_false, true_and, and_true, ↓reduceIte, Bool.false_eq_true, true_or, or_true, lf_X8_ringOver, hk, hk.f, h5, h5.f, e6, true_implies, not_true_eq_false, false_implies]
      exact hR
    | succ l ih =>
      intro s P hl hI hn hr
      obtain ⟨w1, w2⟩ := hW s
      have hst := hI.step (ov := aV a) (fun c hc hC => wo_n (fun q => hn (q ▸ hC))) (fun c hc x hx => by
        by_cases q : c = i
        · subst q
          rw [wo_s, df_bit]
          have : ¬ (2 ^ j).testBit x = true := fun q => hx (by rw [pow_bit] at q; subst q; exact cW_b _ _ _ _)
          rw [Bool.not_eq_true] at this
          rw [this]; simp
        · rw [wo_n q])
      obtain ⟨e1, e2, e3, e4⟩ := hst
      have hD : df (cW (wo (aV a) i j) (aM a) j s).2 P < 64 := df_lt (N := 6) w2
      have hu : uS (aV a) (df (cW (wo (aV a) i j) (aM a) j s).2 P) (aM a) < 2 ^ aN a := uS_lt ha.2.1
      have hbn : df (uS (aV a) (df (cW (wo (aV a) i j) (aM a) j s).2 P) (aM a)) (cW (wo (aV a) i j) (aM a) j s).1 < 2 ^ aN a := df_lt hu
      obtain ⟨v1, v2⟩ := hW (s + 1)
      have e6 : (6 : Int32) < nI (s + 1) ↔ False := by
        rw [show (6 : Int32) = nI 6 by decide, nI_ltI (by omega) (by omega)]
        exact ⟨fun h => by omega, False.elim⟩
      have t1 : tn (nI (df (cW (wo (aV a) i j) (aM a) j s).2 P)) = df (cW (wo (aV a) i j) (aM a) j s).2 P := tn_nI (by omega)
      have t2 : tn (nI (df (uS (aV a) (df (cW (wo (aV a) i j) (aM a) j s).2 P) (aM a)) (cW (wo (aV a) i j) (aM a) j s).1)) = df (uS (aV a) (df (cW (wo (aV a) i j) (aM a) j s).2 P) (aM a)) (cW (wo (aV a) i j) (aM a) j s).1 := tn_nI (by omega)
      refine J.of tk_X8_ringOver 200 fun ρ hρ => ?_
      simp only [hρ, x_c, x_il, x_ll, x_al, x_is, x_as, x_ls, x_inc, x_ii, x_iq, x_i1, x_l2, x_lq, x_lh, x_i2l, x_l2i, x_lcmp, x_dup, x_dup2, x_pop, x_if, x_ifn, x_ic, x_icn, x_go, x_sw, swc, x_l01, x_mx, x_gI, x_gL, x_gR, x_pI, x_pZ, x_pL, x_pR, x_ia, x_za, x_aa, x_ias, x_zas, x_aas, x_fac, x_fa, x_slen, x_sa, x_ac, x_oi, x_new, x_na, x_cS, x_cV, x_cI, x_rI, x_rZ, x_rL, x_r0, pa, short, oc, lg, lset, lset2, wide, cond_true, cond_false, true_and, and_true, ↓reduceIte, Bool.false_eq_true, true_or, or_true, lf_X8_ringOver, hk, hk.f, h5, h5.f, e6, false_implies, not_false_eq_true, true_implies, P_X8_bitsUnder, P_X8_checksOverAny, t1, t2, nI_z (show df (cW (wo (aV a) i j) (aM a) j s).2 P < 2 ^ 31 by omega), nI_df, eq_true (show df (cW (wo (aV a) i j) (aM a) j s).2 P < 512 by omega)]
      refine ⟨fun h0 => ?_, fun h0 => ⟨a, hsr, ha, by rw [t2]; omega, a, hsr, ha, ?_⟩⟩
      · -- nothing new
        have est : cW (wo (aV a) i j) (aM a) j (s + 1) = cW (wo (aV a) i j) (aM a) j s := by
          rw [h0, uS_0, or_z] at e1
          rw [h0, uS_0, df_z, oS_0, or_z] at e3
          exact Prod.ext e1.symm e3.symm
        have hno := rgS_none (f := fun s => (cW (wo (aV a) i j) (aM a) j s).2.testBit i) (s := s + 1) (l := l + 1) (fun q hq => by
          obtain ⟨d, rfl⟩ : ∃ d, q = s + d := ⟨q - s, by omega⟩
          show ¬ (cW (wo (aV a) i j) (aM a) j (s + d)).2.testBit i = true
          rw [cW_st est]
          exact hn)
        rw [hno] at hr
        rw [← hr] at hR
        exact hR
      · have g1 : (cW (wo (aV a) i j) (aM a) j (s + 1)).1 = (stW (wo (aV a) i j) (aM a) ((cW (wo (aV a) i j) (aM a) j s).1, (cW (wo (aV a) i j) (aM a) j s).2)).1 := rfl
        have g2 : (cW (wo (aV a) i j) (aM a) j (s + 1)).2 = (stW (wo (aV a) i j) (aM a) ((cW (wo (aV a) i j) (aM a) j s).1, (cW (wo (aV a) i j) (aM a) j s).2)).2 := rfl
        rw [← g1] at e1 e4
        rw [← g2] at e2 e3 e4
        rw [t2, nI_or, nI_or, e1, e3, e2, nI_1, bit_c (show df (cW (wo (aV a) i j) (aM a) j (s + 1)).2 (cW (wo (aV a) i j) (aM a) j s).2 < 2 ^ 31 by have := df_lt (N := 6) (y := (cW (wo (aV a) i j) (aM a) j s).2) v2; omega) (show i < 31 by omega)]
        have hiff : (df (cW (wo (aV a) i j) (aM a) j (s + 1)).2 (cW (wo (aV a) i j) (aM a) j s).2).testBit i = true ↔ (cW (wo (aV a) i j) (aM a) j (s + 1)).2.testBit i = true := by
          rw [df_t]
          exact ⟨fun h => h.1, fun h => ⟨h, hn⟩⟩
        rw [hiff, Classical.not_not]
        refine ⟨fun h => ?_, fun h => ?_⟩
        · rw [rgS, if_neg h] at hr
          exact J.weak (by simp [lsub]) (ih (s + 1) _ (by omega) e4 h hr)
        · rw [rgS, if_pos h] at hr
          rw [← hr, nn, if_neg (by omega)] at hR
          rw [show (2 : Int32) = nI 2 by decide, pk_mul]
          exact hR
  refine J.of tk_X8_ringOver 200 fun ρ hρ => ?_
  simp only [hρ, x_c, x_il, x_ll, x_al, x_is, x_as, x_ls, x_inc, x_ii, x_iq, x_i1, x_l2, x_lq, x_lh, x_i2l, x_l2i, x_lcmp, x_dup, x_dup2, x_pop, x_if, x_ifn, x_ic, x_icn, x_go, x_sw, swc, x_l01, x_mx, x_gI, x_gL, x_gR, x_pI, x_pZ, x_pL, x_pR, x_ia, x_za, x_aa, x_ias, x_zas, x_aas, x_fac, x_fa, x_slen, x_sa, x_ac, x_oi, x_new, x_na, x_cS, x_cV, x_cI, x_rI, x_rZ, x_rL, x_r0, pa, short, oc, lg, lset, lset2, wide, cond_true, cond_false, true_and, and_true, ↓reduceIte, Bool.false_eq_true, true_or, or_true, lf_X8_ringOver, hk, hk.f, h5, h5.f, P_X5_checksOver, eq_true (hsr.ovq ha)]
  refine ⟨⟨j, by omega, rfl⟩, ?_⟩
  rw [tn_nI (n := j) (by omega), hsr.co ha, shl1 (by omega), shl1 (by omega), nI_df, wo_0]
  have := key 6 0 0 rfl (WI.zero _ _ _) (fun h => ?_) rfl
  · rw [df_0] at this
    exact this
  · rw [cW, oS_bit, wo_s] at h
    obtain ⟨-, x, h1, h2⟩ := h
    rw [df_t] at h1
    exact h1.2 h2
/-- the shortest ring yet: c checks are through, and b bits of the next -/
def mnR (x y : Nat) : Nat := if y < x then y else x
def rbA (a : AS) (c : Nat) : Nat → Nat → Nat
  | 0, x => x
  | b + 1, x => mnR (rbA a c b x) (if (aV a c).testBit b = true then rgA a c b else 99)
def rcA (a : AS) : Nat → Nat
  | 0 => 99
  | c + 1 => rbA a c (aN a) (rcA a c)
theorem rgS_le (f : Nat → Bool) : ∀ {l s : Nat}, s + l ≤ 7 → rgS f s l ≤ 14 ∨ rgS f s l = 99
  | 0, _, _ => .inr rfl
  | l + 1, s, h => by
    simp only [rgS]
    split
    · exact .inl (by omega)
    · exact rgS_le f (by omega)
theorem rgA_le (a : AS) (c b : Nat) : rgA a c b ≤ 14 ∨ rgA a c b = 99 := rgS_le _ (by omega)
theorem rbA_le (a : AS) (c : Nat) : ∀ {b x : Nat}, (x ≤ 14 ∨ x = 99) → rbA a c b x ≤ 14 ∨ rbA a c b x = 99
  | 0, x, h => h
  | b + 1, x, h => by
    have h1 := rbA_le a c (b := b) h
    have h2 := rgA_le a c b
    simp only [rbA, mnR]
    split <;> split <;> omega
theorem rcA_le (a : AS) : ∀ c, rcA a c ≤ 14 ∨ rcA a c = 99
  | 0 => .inr rfl
  | c + 1 => rbA_le a c (rcA_le a c)
def il_X8_ring : List (Nat × Instr × Nat) := [(0, .bipush (-9), 2), (2, .istore_n 1, 1), (3, .iconst 0, 1), (4, .istore_n 2, 1), (5, .iload_n 2, 1), (6, .aload_n 0, 1), (7, .getfield 9, 3), (10, .getfield 15, 3), (13, .if_icmp .ge 75, 3), (16, .iconst 0, 1), (17, .istore_n 3, 1), (18, .iload_n 3, 1), (19, .aload_n 0, 1), (20, .getfield 9, 3), (23, .getfield 21, 3), (26, .if_icmp .ge 56, 3), (29, .aload_n 0, 1), (30, .getfield 9, 3), (33, .iload_n 2, 1), (34, .iload_n 3, 1), (35, .invokevirtual 24, 3), (38, .ifCond .eq 12, 3), (41, .aload_n 0, 1), (42, .iload_n 2, 1), (43, .iload_n 3, 1), (44, .invokevirtual 28, 3), (47, .goto 5, 3), (50, .bipush (-9), 2), (52, .istore 4, 2), (54, .iload 4, 2), (56, .bipush (-9), 2), (58, .if_icmp .eq 18, 3), (61, .iload_n 1, 1), (62, .bipush (-9), 2), (64, .if_icmp .eq 9, 3), (67, .iload 4, 2), (69, .iload_n 1, 1), (70, .if_icmp .ge 6, 3), (73, .iload 4, 2), (75, .istore_n 1, 1), (76, .iinc 3 1, 3), (79, .goto (-61), 3), (82, .iinc 2 1, 3), (85, .goto (-80), 3), (88, .iload_n 1, 1), (89, .ireturn, 1)]
def mt_X8_ring : Mt := (cX8_ring, RX8, 5, (some .int), ({ frames := 2, cells := 0, slots := 0, locals := 50 } : Room), false, none, none)
set_option maxRecDepth 100000 in
theorem dl_X8_ring : ∀ q ∈ il_X8_ring, decode (mt_X8_ring).1 q.1 = .ok q.2 := by decide +kernel
def tb_X8_ring : Tb := [(0, x_c 2 (.int (-9)), false),
  (2, x_is 3 1, false),
  (3, x_c 4 (.int 0), false),
  (4, x_is 5 2, false),
  (5, x_il 6 2, true),
  (6, x_al 7 0, false),
  (7, x_gR 8 0 10, false),
  (10, x_gI 5 5 13, false),
  (13, x_ic 88 16 (fun x y : Int32 => y ≤ x), false),
  (16, x_c 17 (.int 0), false),
  (17, x_is 18 3, false),
  (18, x_il 19 3, true),
  (19, x_al 20 0, false),
  (20, x_gR 8 0 23, false),
  (23, x_gI 5 4 26, false),
  (26, x_ic 82 29 (fun x y : Int32 => y ≤ x), false),
  (29, x_al 30 0, false),
  (30, x_gR 8 0 33, false),
  (33, x_il 34 2, false),
  (34, x_il 35 3, false),
  (35, x_cV 5 2 P_X5_isOver 38, false),
  (38, x_if 50 41 (fun x : Int32 => x = 0), false),
  (41, x_al 42 0, false),
  (42, x_il 43 2, false),
  (43, x_il 44 3, false),
  (44, x_cV 8 2 P_X8_ringOver 47, false),
  (47, x_go 52, false),
  (50, x_c 52 (.int (-9)), false),
  (52, x_is 54 4, false),
  (54, x_il 56 4, false),
  (56, x_c 58 (.int (-9)), false),
  (58, x_ic 76 61 (fun x y : Int32 => x = y), false),
  (61, x_il 62 1, false),
  (62, x_c 64 (.int (-9)), false),
  (64, x_ic 73 67 (fun x y : Int32 => x = y), false),
  (67, x_il 69 4, false),
  (69, x_il 70 1, false),
  (70, x_ic 76 73 (fun x y : Int32 => y ≤ x), false),
  (73, x_il 75 4, false),
  (75, x_is 76 1, false),
  (76, x_inc 79 3 1, false),
  (79, x_go 18, false),
  (82, x_inc 85 2 1, false),
  (85, x_go 5, false),
  (88, x_il 89 1, false),
  (89, x_rI, false)]
set_option maxRecDepth 100000 in
theorem tk_X8_ring : TbOk (mt_X8_ring) (tb_X8_ring) :=
  tkc (s_bipush (at_ dl_X8_ring 0 (ins := .bipush (-9)) rfl) (by first | rfl | decide)) (
  tkc (s_istore_n (at_ dl_X8_ring 1 (ins := .istore_n 1) rfl) (by decide)) (
  tkc (s_iconst (at_ dl_X8_ring 2 (ins := .iconst 0) rfl) (by first | rfl | decide)) (
  tkc (s_istore_n (at_ dl_X8_ring 3 (ins := .istore_n 2) rfl) (by decide)) (
  tkc (s_iload_n (at_ dl_X8_ring 4 (ins := .iload_n 2) rfl)) (
  tkc (s_aload_n (at_ dl_X8_ring 5 (ins := .aload_n 0) rfl)) (
  tkc (s_gR (at_ dl_X8_ring 6 (ins := .getfield 9) rfl) (by decide) (by decide) (by decide) (tg 200 (by decide +kernel) (by decide +kernel))) (
  tkc (s_gI (at_ dl_X8_ring 7 (ins := .getfield 15) rfl) (by decide) (by decide) (by decide) (tg 140 (by decide +kernel) (by decide +kernel))) (
  tkc (s_ic_ge (at_ dl_X8_ring 8 (ins := .if_icmp .ge 75) rfl) (by decide)) (
  tkc (s_iconst (at_ dl_X8_ring 9 (ins := .iconst 0) rfl) (by first | rfl | decide)) (
  tkc (s_istore_n (at_ dl_X8_ring 10 (ins := .istore_n 3) rfl) (by decide)) (
  tkc (s_iload_n (at_ dl_X8_ring 11 (ins := .iload_n 3) rfl)) (
  tkc (s_aload_n (at_ dl_X8_ring 12 (ins := .aload_n 0) rfl)) (
  tkc (s_gR (at_ dl_X8_ring 13 (ins := .getfield 9) rfl) (by decide) (by decide) (by decide) (tg 200 (by decide +kernel) (by decide +kernel))) (
  tkc (s_gI (at_ dl_X8_ring 14 (ins := .getfield 21) rfl) (by decide) (by decide) (by decide) (tg 135 (by decide +kernel) (by decide +kernel))) (
  tkc (s_ic_ge (at_ dl_X8_ring 15 (ins := .if_icmp .ge 56) rfl) (by decide)) (
  tkc (s_aload_n (at_ dl_X8_ring 16 (ins := .aload_n 0) rfl)) (
  tkc (s_gR (at_ dl_X8_ring 17 (ins := .getfield 9) rfl) (by decide) (by decide) (by decide) (tg 200 (by decide +kernel) (by decide +kernel))) (
  tkc (s_iload_n (at_ dl_X8_ring 18 (ins := .iload_n 2) rfl)) (
  tkc (s_iload_n (at_ dl_X8_ring 19 (ins := .iload_n 3) rfl)) (
  tkc (s_cV ok_X5_isOver (at_ dl_X8_ring 20 (ins := .invokevirtual 24) rfl) (by decide) rfl (tg 387 (by decide +kernel) (by decide +kernel)) (tg 388 (by decide +kernel) (by decide +kernel)) (tg 389 (by decide +kernel) (by decide +kernel)) (tg 45 (by decide +kernel) (by decide +kernel)) (tg 390 (by decide +kernel) (by decide +kernel)) (⟨by decide, by decide, by decide +kernel⟩) (⟨by decide, by decide⟩) rfl rfl) (
  tkc (s_if_eq (at_ dl_X8_ring 21 (ins := .ifCond .eq 12) rfl) (by decide)) (
  tkc (s_aload_n (at_ dl_X8_ring 22 (ins := .aload_n 0) rfl)) (
  tkc (s_iload_n (at_ dl_X8_ring 23 (ins := .iload_n 2) rfl)) (
  tkc (s_iload_n (at_ dl_X8_ring 24 (ins := .iload_n 3) rfl)) (
  tkc (s_cV ok_X8_ringOver (at_ dl_X8_ring 25 (ins := .invokevirtual 28) rfl) (by decide) rfl (tg 399 (by decide +kernel) (by decide +kernel)) (tg 401 (by decide +kernel) (by decide +kernel)) (tg 4 (by decide +kernel) (by decide +kernel)) (tg 47 (by decide +kernel) (by decide +kernel)) (tg 402 (by decide +kernel) (by decide +kernel)) (⟨by decide, by decide, by decide +kernel⟩) (⟨by decide, by decide⟩) rfl rfl) (
  tkc (s_goto (at_ dl_X8_ring 26 (ins := .goto 5) rfl) (by decide)) (
  tkc (s_bipush (at_ dl_X8_ring 27 (ins := .bipush (-9)) rfl) (by first | rfl | decide)) (
  tkc (s_istore (at_ dl_X8_ring 28 (ins := .istore 4) rfl) (by decide)) (
  tkc (s_iload (at_ dl_X8_ring 29 (ins := .iload 4) rfl)) (
  tkc (s_bipush (at_ dl_X8_ring 30 (ins := .bipush (-9)) rfl) (by first | rfl | decide)) (
  tkc (s_ic_eq (at_ dl_X8_ring 31 (ins := .if_icmp .eq 18) rfl) (by decide)) (
  tkc (s_iload_n (at_ dl_X8_ring 32 (ins := .iload_n 1) rfl)) (
  tkc (s_bipush (at_ dl_X8_ring 33 (ins := .bipush (-9)) rfl) (by first | rfl | decide)) (
  tkc (s_ic_eq (at_ dl_X8_ring 34 (ins := .if_icmp .eq 9) rfl) (by decide)) (
  tkc (s_iload (at_ dl_X8_ring 35 (ins := .iload 4) rfl)) (
  tkc (s_iload_n (at_ dl_X8_ring 36 (ins := .iload_n 1) rfl)) (
  tkc (s_ic_ge (at_ dl_X8_ring 37 (ins := .if_icmp .ge 6) rfl) (by decide)) (
  tkc (s_iload (at_ dl_X8_ring 38 (ins := .iload 4) rfl)) (
  tkc (s_istore_n (at_ dl_X8_ring 39 (ins := .istore_n 1) rfl) (by decide)) (
  tkc (s_iinc (at_ dl_X8_ring 40 (ins := .iinc 3 1) rfl) (by decide) (by first | rfl | decide)) (
  tkc (s_goto (at_ dl_X8_ring 41 (ins := .goto (-61)) rfl) (by decide)) (
  tkc (s_iinc (at_ dl_X8_ring 42 (ins := .iinc 2 1) rfl) (by decide) (by first | rfl | decide)) (
  tkc (s_goto (at_ dl_X8_ring 43 (ins := .goto (-80)) rfl) (by decide)) (
  tkc (s_iload_n (at_ dl_X8_ring 44 (ins := .iload_n 1) rfl)) (
  tkc (s_rI (at_ dl_X8_ring 45 (ins := .ireturn) rfl) rfl) ( tk0))))))))))))))))))))))))))))))))))))))))))))))
theorem lf_X8_ring : lk (tb_X8_ring) 0 = (x_c 2 (.int (-9)), false) ∧ lk (tb_X8_ring) 2 = (x_is 3 1, false) ∧ lk (tb_X8_ring) 3 = (x_c 4 (.int 0), false) ∧ lk (tb_X8_ring) 4 = (x_is 5 2, false) ∧ lk (tb_X8_ring) 5 = (x_il 6 2, true) ∧ lk (tb_X8_ring) 6 = (x_al 7 0, false) ∧ lk (tb_X8_ring) 7 = (x_gR 8 0 10, false) ∧ lk (tb_X8_ring) 10 = (x_gI 5 5 13, false) ∧ lk (tb_X8_ring) 13 = (x_ic 88 16 (fun x y : Int32 => y ≤ x), false) ∧ lk (tb_X8_ring) 16 = (x_c 17 (.int 0), false) ∧ lk (tb_X8_ring) 17 = (x_is 18 3, false) ∧ lk (tb_X8_ring) 18 = (x_il 19 3, true) ∧ lk (tb_X8_ring) 19 = (x_al 20 0, false) ∧ lk (tb_X8_ring) 20 = (x_gR 8 0 23, false) ∧ lk (tb_X8_ring) 23 = (x_gI 5 4 26, false) ∧ lk (tb_X8_ring) 26 = (x_ic 82 29 (fun x y : Int32 => y ≤ x), false) ∧ lk (tb_X8_ring) 29 = (x_al 30 0, false) ∧ lk (tb_X8_ring) 30 = (x_gR 8 0 33, false) ∧ lk (tb_X8_ring) 33 = (x_il 34 2, false) ∧ lk (tb_X8_ring) 34 = (x_il 35 3, false) ∧ lk (tb_X8_ring) 35 = (x_cV 5 2 P_X5_isOver 38, false) ∧ lk (tb_X8_ring) 38 = (x_if 50 41 (fun x : Int32 => x = 0), false) ∧ lk (tb_X8_ring) 41 = (x_al 42 0, false) ∧ lk (tb_X8_ring) 42 = (x_il 43 2, false) ∧ lk (tb_X8_ring) 43 = (x_il 44 3, false) ∧ lk (tb_X8_ring) 44 = (x_cV 8 2 P_X8_ringOver 47, false) ∧ lk (tb_X8_ring) 47 = (x_go 52, false) ∧ lk (tb_X8_ring) 50 = (x_c 52 (.int (-9)), false) ∧ lk (tb_X8_ring) 52 = (x_is 54 4, false) ∧ lk (tb_X8_ring) 54 = (x_il 56 4, false) ∧ lk (tb_X8_ring) 56 = (x_c 58 (.int (-9)), false) ∧ lk (tb_X8_ring) 58 = (x_ic 76 61 (fun x y : Int32 => x = y), false) ∧ lk (tb_X8_ring) 61 = (x_il 62 1, false) ∧ lk (tb_X8_ring) 62 = (x_c 64 (.int (-9)), false) ∧ lk (tb_X8_ring) 64 = (x_ic 73 67 (fun x y : Int32 => x = y), false) ∧ lk (tb_X8_ring) 67 = (x_il 69 4, false) ∧ lk (tb_X8_ring) 69 = (x_il 70 1, false) ∧ lk (tb_X8_ring) 70 = (x_ic 76 73 (fun x y : Int32 => y ≤ x), false) ∧ lk (tb_X8_ring) 73 = (x_il 75 4, false) ∧ lk (tb_X8_ring) 75 = (x_is 76 1, false) ∧ lk (tb_X8_ring) 76 = (x_inc 79 3 1, false) ∧ lk (tb_X8_ring) 79 = (x_go 18, false) ∧ lk (tb_X8_ring) 82 = (x_inc 85 2 1, false) ∧ lk (tb_X8_ring) 85 = (x_go 5, false) ∧ lk (tb_X8_ring) 88 = (x_il 89 1, false) ∧ lk (tb_X8_ring) 89 = (x_rI, false) := ⟨rfl, rfl, rfl, rfl, rfl, rfl, rfl, rfl, rfl, rfl, rfl, rfl, rfl, rfl, rfl, rfl, rfl, rfl, rfl, rfl, rfl, rfl, rfl, rfl, rfl, rfl, rfl, rfl, rfl, rfl, rfl, rfl, rfl, rfl, rfl, rfl, rfl, rfl, rfl, rfl, rfl, rfl, rfl, rfl, rfl, rfl⟩
def P_X8_ring : PTT := fun as M R => match as with
  | [.ref k] => k = 18 ∧ IsWa M.1 ∧ IsSt M.1 5 ∧ ∃ a, SR M.2.1 5 a ∧ AOk a ∧ R (some (.int (nn (rcA a (aM a))))) M
  | _ => False
set_option maxRecDepth 20000 in
theorem ok_X8_ring : Ok yX8_ring mt_X8_ring P_X8_ring := by
  refine Ok.of (by decide) rfl rfl rfl rfl fun av ⟨S, I, L⟩ R hP => ?_
  unfold P_X8_ring at hP
  split at hP
  case h_2 => exact hP.elim
  rename_i k
  obtain ⟨k, rfl⟩ : ∃ q : Nat, q = k := ⟨k, rfl⟩
  refine ⟨by simp [ent, wide, mt_X8_ring], ?_⟩
  show J mt_X8_ring R 0 [some (.ref k), none, none, none, none] [] (S, I, L)
  try dsimp only at hP
  obtain ⟨rfl, hk, h5, a, hsr, ha, hR⟩ := hP
  have h9 := ha.1
  have en : I 5 4 = nI (aN a) := hsr.1
  have em : I 5 5 = nI (aM a) := hsr.2.1
  have key := up (P := fun c => J mt_X8_ring R 5 [some (.ref 18), some (.int (nn (rcA a c))), some (.int (nI c)), none, none] [] (S, I, L)) (n := aM a) (fun c hc ih => ?_) 0 (Nat.zero_le _)
  · refine J.of tk_X8_ring 200 fun ρ hρ => ?_
    simp only [hρ, x_c, x_il, x_ll, x_al, x_is, x_as, x_ls, x_inc, x_ii, x_iq, x_i1, x_l2, x_lq, x_lh, x_i2l, x_l2i, x_lcmp, x_dup, x_dup2, x_pop, x_if, x_ifn, x_ic, x_icn, x_go, x_sw, swc, x_l01, x_mx, x_gI, x_gL, x_gR, x_pI, x_pZ, x_pL, x_pR, x_ia, x_za, x_aa, x_ias, x_zas, x_aas, x_fac, x_fa, x_slen, x_sa, x_ac, x_oi, x_new, x_na, x_cS, x_cV, x_cI, x_rI, x_rZ, x_rL, x_r0, pa, short, oc, lg, lset, lset2, wide, cond_true, cond_false, true_and, and_true, ↓reduceIte, Bool.false_eq_true, true_or, or_true, lf_X8_ring]
    exact key
  by_cases hlt : c < aM a
  · have key2 := up (P := fun b => J mt_X8_ring R 18 [some (.ref 18), some (.int (nn (rbA a c b (rcA a c)))), some (.int (nI c)), some (.int (nI b)), none] [] (S, I, L)) (n := aN a) (fun b hb ih2 => ?_) 0 (Nat.zero_le _)
    · refine J.of tk_X8_ring 200 fun ρ hρ => ?_
      simp only [hρ, x_c, x_il, x_ll, x_al, x_is, x_as, x_ls, x_inc, x_ii, x_iq, x_i1, x_l2, x_lq, x_lh, x_i2l, x_l2i, x_lcmp, x_dup, x_dup2, x_pop, x_if, x_ifn, x_ic, x_icn, x_go, x_sw, swc, x_l01, x_mx, x_gI, x_gL, x_gR, x_pI, x_pZ, x_pL, x_pR, x_ia, x_za, x_aa, x_ias, x_zas, x_aas, x_fac, x_fa, x_slen, x_sa, x_ac, x_oi, x_new, x_na, x_cS, x_cV, x_cI, x_rI, x_rZ, x_rL, x_r0, pa, short, oc, lg, lset, lset2, wide, cond_true, cond_false, true_and, and_true, ↓reduceIte, Bool.false_eq_true, true_or, or_true, lf_X8_ring, hk, hk.f, h5, h5.f, em, nI_leI (show aM a < 2 ^ 31 by omega) (show c < 2 ^ 31 by omega)]
      exact ⟨fun h => absurd h (by omega), fun _ => key2⟩
    by_cases hbl : b < aN a
    · have e1 : (nI c < 0) = False := eq_false (nI_pos (by omega))
      have e2 : (nI b < 0) = False := eq_false (nI_pos (by omega))
      have e3 : (aM a ≤ c) = False := eq_false (by omega)
      have e4 : (aN a ≤ b) = False := eq_false (by omega)
      have ov : I 6 c = nI (aV a c) := hsr.2.2.2.2.1 c hlt
      have hv := ha.v hlt
      have tc : tn (nI c) = c := tn_nI (by omega)
      have tb : tn (nI b) = b := tn_nI (by omega)
      have r1 := rgA_le a c b
      have r2 := rbA_le a c (b := b) (rcA_le a c)
      refine J.of tk_X8_ring 200 fun ρ hρ => ?_
      simp only [hρ, x_c, x_il, x_ll, x_al, x_is, x_as, x_ls, x_inc, x_ii, x_iq, x_i1, x_l2, x_lq, x_lh, x_i2l, x_l2i, x_lcmp, x_dup, x_dup2, x_pop, x_if, x_ifn, x_ic, x_icn, x_go, x_sw, swc, x_l01, x_mx, x_gI, x_gL, x_gR, x_pI, x_pZ, x_pL, x_pR, x_ia, x_za, x_aa, x_ias, x_zas, x_aas, x_fac, x_fa, x_slen, x_sa, x_ac, x_oi, x_new, x_na, x_cS, x_cV, x_cI, x_rI, x_rZ, x_rL, x_r0, pa, short, oc, lg, lset, lset2, wide, cond_true, cond_false, true_and, and_true, ↓reduceIte, Bool.false_eq_true, true_or, or_true, lf_X8_ring, hk, hk.f, h5, h5.f, en, em, nI_leI (show aN a < 2 ^ 31 by omega) (show b < 2 ^ 31 by omega), nI_leI (show aM a < 2 ^ 31 by omega) (show c < 2 ^ 31 by omega), P_X5_isOver, P_X8_ringOver, e1, e2, e3, e4, not_false_eq_true, true_implies, false_implies, not_true_eq_false, nn_9 (show rgA a c b < 2 ^ 31 by omega), nn_9 (show rbA a c b (rcA a c) < 2 ^ 31 by omega), ov, ncl (show c < 2 ^ 31 by omega), Nat.reduceAdd, bI_0, bit_c (show aV a c < 2 ^ 31 by omega) (show b < 31 by omega), Classical.not_not, tc, tb, nI_1]
      have hr : ∀ x, rbA a c (b + 1) (rcA a c) = x → ∀ v, J mt_X8_ring R 18 [some (.ref 18), some (.int (nn x)), some (.int (nI c)), some (.int (nI (b + 1))), some v] [] (S, I, L) := fun x hx v => J.weak (by simp [lsub]) (hx ▸ ih2 hbl)
      refine ⟨⟨aM a, h9.2.2, rfl⟩, fun h => hr _ (by rw [rbA, if_neg h, mnR, if_neg (by omega)]) _, fun h => ⟨a, hsr, ha, hlt, hbl, ?_⟩⟩
      rw [nn_9 (show rgA a c b < 2 ^ 31 by omega)]
      refine ⟨fun h1 => hr _ (by rw [rbA, if_pos h, mnR, if_neg (by omega)]) _, fun h1 => ⟨fun h2 => hr _ (by rw [rbA, if_pos h, mnR, if_pos (by omega)]) _, fun h2 => ?_⟩⟩
      have hle : nn (rbA a c b (rcA a c)) ≤ nn (rgA a c b) ↔ rbA a c b (rcA a c) ≤ rgA a c b := by
        rw [nn, nn, if_neg h1, if_neg h2, nI_leI (by omega) (by omega)]
      rw [hle]
      exact ⟨fun h3 => hr _ (by rw [rbA, if_pos h, mnR, if_neg (by omega)]) _, fun h3 => hr _ (by rw [rbA, if_pos h, mnR, if_pos (by omega)]) _⟩
    · have : b = aN a := by omega
      subst this
      refine J.of tk_X8_ring 200 fun ρ hρ => ?_
      simp only [hρ, x_c, x_il, x_ll, x_al, x_is, x_as, x_ls, x_inc, x_ii, x_iq, x_i1, x_l2, x_lq, x_lh, x_i2l, x_l2i, x_lcmp, x_dup, x_dup2, x_pop, x_if, x_ifn, x_ic, x_icn, x_go, x_sw, swc, x_l01, x_mx, x_gI, x_gL, x_gR, x_pI, x_pZ, x_pL, x_pR, x_ia, x_za, x_aa, x_ias, x_zas, x_aas, x_fac, x_fa, x_slen, x_sa, x_ac, x_oi, x_new, x_na, x_cS, x_cV, x_cI, x_rI, x_rZ, x_rL, x_r0, pa, short, oc, lg, lset, lset2, wide, cond_true, cond_false, true_and, and_true, ↓reduceIte, Bool.false_eq_true, true_or, or_true, lf_X8_ring, hk, hk.f, h5, h5.f, en, nI_leI (show aN a < 2 ^ 31 by omega) (show aN a < 2 ^ 31 by omega), Nat.le_refl, true_implies, not_true_eq_false, false_implies, nI_1]
      exact J.weak (by simp [lsub, rcA]) (ih hlt)
  · have : c = aM a := by omega
    subst this
    refine J.of tk_X8_ring 200 fun ρ hρ => ?_
    simp only [hρ, x_c, x_il, x_ll, x_al, x_is, x_as, x_ls, x_inc, x_ii, x_iq, x_i1, x_l2, x_lq, x_lh, x_i2l, x_l2i, x_lcmp, x_dup, x_dup2, x_pop, x_if, x_ifn, x_ic, x_icn, x_go, x_sw, swc, x_l01, x_mx, x_gI, x_gL, x_gR, x_pI, x_pZ, x_pL, x_pR, x_ia, x_za, x_aa, x_ias, x_zas, x_aas, x_fac, x_fa, x_slen, x_sa, x_ac, x_oi, x_new, x_na, x_cS, x_cV, x_cI, x_rI, x_rZ, x_rL, x_r0, pa, short, oc, lg, lset, lset2, wide, cond_true, cond_false, true_and, and_true, ↓reduceIte, Bool.false_eq_true, true_or, or_true, lf_X8_ring, hk, hk.f, h5, h5.f, em, nI_leI (show aM a < 2 ^ 31 by omega) (show aM a < 2 ^ 31 by omega), Nat.le_refl, true_implies, not_true_eq_false, false_implies]
    exact hR
end
section
/-! GROW: where a bit comes to next -/
def Cp (ov : Nat → Nat) (m b : Nat) : Nat → Nat
  | 0 => 0
  | s + 1 => (cW ov m b s).2
/-- the checks met by the step s first -/
def lyW (ov : Nat → Nat) (m b s : Nat) : Nat := df (cW ov m b s).2 (Cp ov m b s)
/-- the step at which nothing is new, and the last that was -/
def fsW (ov : Nat → Nat) (m b : Nat) : Nat → Nat → Nat → Nat × Nat
  | 0, s, last => (s, last)
  | l + 1, s, last => if lyW ov m b s = 0 then (s, last) else fsW ov m b l (s + 1) (lyW ov m b s)
def faW (ov : Nat → Nat) (m b : Nat) : Nat := if df (2 ^ m - 1) (cW ov m b (fsW ov m b 6 0 (cW ov m b 0).2).1).2 ≠ 0 then df (2 ^ m - 1) (cW ov m b (fsW ov m b 6 0 (cW ov m b 0).2).1).2 else (fsW ov m b 6 0 (cW ov m b 0).2).2
theorem WI.all (ov : Nat → Nat) (m b : Nat) : ∀ s, WI ov m (cW ov m b s).1 (cW ov m b s).2 (Cp ov m b s)
  | 0 => WI.zero ov m b
  | s + 1 => ((WI.all ov m b s).step (ov := ov) (fun _ _ _ => rfl) (fun _ _ _ _ => rfl)).2.2.2
def il_X8_farthestChecks : List (Nat × Instr × Nat) := [(0, .iconst 1, 1), (1, .iload_n 1, 1), (2, .ishl, 1), (3, .istore_n 2, 1), (4, .aload_n 0, 1), (5, .getfield 9, 3), (8, .iload_n 1, 1), (9, .invokevirtual 32, 3), (12, .istore_n 3, 1), (13, .iload_n 3, 1), (14, .istore 4, 2), (16, .iload 4, 2), (18, .istore 5, 2), (20, .iconst 1, 1), (21, .istore 6, 2), (23, .iload 6, 2), (25, .bipush 6, 2), (27, .if_icmp .gt 52, 3), (30, .iload 5, 2), (32, .ifCond .eq 47, 3), (35, .iload 5, 2), (37, .istore 4, 2), (39, .aload_n 0, 1), (40, .iload 4, 2), (42, .invokevirtual 36, 3), (45, .iload_n 2, 1), (46, .iconst (-1), 1), (47, .ixor, 1), (48, .iand, 1), (49, .istore 7, 2), (51, .iload_n 2, 1), (52, .iload 7, 2), (54, .ior, 1), (55, .istore_n 2, 1), (56, .aload_n 0, 1), (57, .iload 7, 2), (59, .invokevirtual 39, 3), (62, .iload_n 3, 1), (63, .iconst (-1), 1), (64, .ixor, 1), (65, .iand, 1), (66, .istore 5, 2), (68, .iload_n 3, 1), (69, .iload 5, 2), (71, .ior, 1), (72, .istore_n 3, 1), (73, .iinc 6 1, 3), (76, .goto (-53), 3), (79, .aload_n 0, 1), (80, .getfield 9, 3), (83, .invokevirtual 54, 3), (86, .iload_n 3, 1), (87, .iconst (-1), 1), (88, .ixor, 1), (89, .iand, 1), (90, .istore 6, 2), (92, .iload 6, 2), (94, .ifCond .eq 8, 3), (97, .iload 6, 2), (99, .goto 5, 3), (102, .iload 4, 2), (104, .ireturn, 1)]
def mt_X8_farthestChecks : Mt := (cX8_farthestChecks, RX8, 8, (some .int), ({ frames := 1, cells := 0, slots := 0, locals := 23 } : Room), false, none, none)
set_option maxRecDepth 100000 in
theorem dl_X8_farthestChecks : ∀ q ∈ il_X8_farthestChecks, decode (mt_X8_farthestChecks).1 q.1 = .ok q.2 := by decide +kernel
def tb_X8_farthestChecks : Tb := [(0, x_c 1 (.int 1), false),
  (1, x_il 2 1, false),
  (2, x_ii 3 (fun x y : Int32 => x <<< (y &&& 31)), false),
  (3, x_is 4 2, false),
  (4, x_al 5 0, false),
  (5, x_gR 8 0 8, false),
  (8, x_il 9 1, false),
  (9, x_cV 5 1 P_X5_checksOver 12, false),
  (12, x_is 13 3, false),
  (13, x_il 14 3, false),
  (14, x_is 16 4, false),
  (16, x_il 18 4, false),
  (18, x_is 20 5, false),
  (20, x_c 21 (.int 1), false),
  (21, x_is 23 6, false),
  (23, x_il 25 6, true),
  (25, x_c 27 (.int 6), false),
  (27, x_ic 79 30 (fun x y : Int32 => y < x), false),
  (30, x_il 32 5, false),
  (32, x_if 79 35 (fun x : Int32 => x = 0), false),
  (35, x_il 37 5, false),
  (37, x_is 39 4, false),
  (39, x_al 40 0, false),
  (40, x_il 42 4, false),
  (42, x_cV 8 1 P_X8_bitsUnder 45, false),
  (45, x_il 46 2, false),
  (46, x_c 47 (.int (-1)), false),
  (47, x_ii 48 (fun x y : Int32 => x ^^^ y), false),
  (48, x_ii 49 (fun x y : Int32 => x &&& y), false),
  (49, x_is 51 7, false),
  (51, x_il 52 2, false),
  (52, x_il 54 7, false),
  (54, x_ii 55 (fun x y : Int32 => x ||| y), false),
  (55, x_is 56 2, false),
  (56, x_al 57 0, false),
  (57, x_il 59 7, false),
  (59, x_cV 8 1 P_X8_checksOverAny 62, false),
  (62, x_il 63 3, false),
  (63, x_c 64 (.int (-1)), false),
  (64, x_ii 65 (fun x y : Int32 => x ^^^ y), false),
  (65, x_ii 66 (fun x y : Int32 => x &&& y), false),
  (66, x_is 68 5, false),
  (68, x_il 69 3, false),
  (69, x_il 71 5, false),
  (71, x_ii 72 (fun x y : Int32 => x ||| y), false),
  (72, x_is 73 3, false),
  (73, x_inc 76 6 1, false),
  (76, x_go 23, false),
  (79, x_al 80 0, true),
  (80, x_gR 8 0 83, false),
  (83, x_cV 5 0 P_X5_allChecks 86, false),
  (86, x_il 87 3, false),
  (87, x_c 88 (.int (-1)), false),
  (88, x_ii 89 (fun x y : Int32 => x ^^^ y), false),
  (89, x_ii 90 (fun x y : Int32 => x &&& y), false),
  (90, x_is 92 6, false),
  (92, x_il 94 6, false),
  (94, x_if 102 97 (fun x : Int32 => x = 0), false),
  (97, x_il 99 6, false),
  (99, x_go 104, false),
  (102, x_il 104 4, false),
  (104, x_rI, false)]
set_option maxRecDepth 100000 in
theorem tk_X8_farthestChecks : TbOk (mt_X8_farthestChecks) (tb_X8_farthestChecks) :=
  tkc (s_iconst (at_ dl_X8_farthestChecks 0 (ins := .iconst 1) rfl) (by first | rfl | decide)) (
  tkc (s_iload_n (at_ dl_X8_farthestChecks 1 (ins := .iload_n 1) rfl)) (
  tkc (s_ishl (at_ dl_X8_farthestChecks 2 (ins := .ishl) rfl)) (
  tkc (s_istore_n (at_ dl_X8_farthestChecks 3 (ins := .istore_n 2) rfl) (by decide)) (
  tkc (s_aload_n (at_ dl_X8_farthestChecks 4 (ins := .aload_n 0) rfl)) (
  tkc (s_gR (at_ dl_X8_farthestChecks 5 (ins := .getfield 9) rfl) (by decide) (by decide) (by decide) (tg 200 (by decide +kernel) (by decide +kernel))) (
  tkc (s_iload_n (at_ dl_X8_farthestChecks 6 (ins := .iload_n 1) rfl)) (
  tkc (s_cV ok_X5_checksOver (at_ dl_X8_farthestChecks 7 (ins := .invokevirtual 32) rfl) (by decide) rfl (tg 403 (by decide +kernel) (by decide +kernel)) (tg 404 (by decide +kernel) (by decide +kernel)) (tg 405 (by decide +kernel) (by decide +kernel)) (tg 45 (by decide +kernel) (by decide +kernel)) (tg 406 (by decide +kernel) (by decide +kernel)) (⟨by decide, by decide, by decide +kernel⟩) (⟨by decide, by decide⟩) rfl rfl) (
  tkc (s_istore_n (at_ dl_X8_farthestChecks 8 (ins := .istore_n 3) rfl) (by decide)) (
  tkc (s_iload_n (at_ dl_X8_farthestChecks 9 (ins := .iload_n 3) rfl)) (
  tkc (s_istore (at_ dl_X8_farthestChecks 10 (ins := .istore 4) rfl) (by decide)) (
  tkc (s_iload (at_ dl_X8_farthestChecks 11 (ins := .iload 4) rfl)) (
  tkc (s_istore (at_ dl_X8_farthestChecks 12 (ins := .istore 5) rfl) (by decide)) (
  tkc (s_iconst (at_ dl_X8_farthestChecks 13 (ins := .iconst 1) rfl) (by first | rfl | decide)) (
  tkc (s_istore (at_ dl_X8_farthestChecks 14 (ins := .istore 6) rfl) (by decide)) (
  tkc (s_iload (at_ dl_X8_farthestChecks 15 (ins := .iload 6) rfl)) (
  tkc (s_bipush (at_ dl_X8_farthestChecks 16 (ins := .bipush 6) rfl) (by first | rfl | decide)) (
  tkc (s_ic_gt (at_ dl_X8_farthestChecks 17 (ins := .if_icmp .gt 52) rfl) (by decide)) (
  tkc (s_iload (at_ dl_X8_farthestChecks 18 (ins := .iload 5) rfl)) (
  tkc (s_if_eq (at_ dl_X8_farthestChecks 19 (ins := .ifCond .eq 47) rfl) (by decide)) (
  tkc (s_iload (at_ dl_X8_farthestChecks 20 (ins := .iload 5) rfl)) (
  tkc (s_istore (at_ dl_X8_farthestChecks 21 (ins := .istore 4) rfl) (by decide)) (
  tkc (s_aload_n (at_ dl_X8_farthestChecks 22 (ins := .aload_n 0) rfl)) (
  tkc (s_iload (at_ dl_X8_farthestChecks 23 (ins := .iload 4) rfl)) (
  tkc (s_cV ok_X8_bitsUnder (at_ dl_X8_farthestChecks 24 (ins := .invokevirtual 36) rfl) (by decide) rfl (tg 407 (by decide +kernel) (by decide +kernel)) (tg 409 (by decide +kernel) (by decide +kernel)) (tg 5 (by decide +kernel) (by decide +kernel)) (tg 47 (by decide +kernel) (by decide +kernel)) (tg 410 (by decide +kernel) (by decide +kernel)) (⟨by decide, by decide, by decide +kernel⟩) (⟨by decide, by decide⟩) rfl rfl) (
  tkc (s_iload_n (at_ dl_X8_farthestChecks 25 (ins := .iload_n 2) rfl)) (
  tkc (s_iconst (at_ dl_X8_farthestChecks 26 (ins := .iconst (-1)) rfl) (by first | rfl | decide)) (
  tkc (s_ixor (at_ dl_X8_farthestChecks 27 (ins := .ixor) rfl)) (
  tkc (s_iand (at_ dl_X8_farthestChecks 28 (ins := .iand) rfl)) (
  tkc (s_istore (at_ dl_X8_farthestChecks 29 (ins := .istore 7) rfl) (by decide)) (
  tkc (s_iload_n (at_ dl_X8_farthestChecks 30 (ins := .iload_n 2) rfl)) (
  tkc (s_iload (at_ dl_X8_farthestChecks 31 (ins := .iload 7) rfl)) (
  tkc (s_ior (at_ dl_X8_farthestChecks 32 (ins := .ior) rfl)) (
  tkc (s_istore_n (at_ dl_X8_farthestChecks 33 (ins := .istore_n 2) rfl) (by decide)) (
  tkc (s_aload_n (at_ dl_X8_farthestChecks 34 (ins := .aload_n 0) rfl)) (
  tkc (s_iload (at_ dl_X8_farthestChecks 35 (ins := .iload 7) rfl)) (
  tkc (s_cV ok_X8_checksOverAny (at_ dl_X8_farthestChecks 36 (ins := .invokevirtual 39) rfl) (by decide) rfl (tg 411 (by decide +kernel) (by decide +kernel)) (tg 413 (by decide +kernel) (by decide +kernel)) (tg 6 (by decide +kernel) (by decide +kernel)) (tg 47 (by decide +kernel) (by decide +kernel)) (tg 414 (by decide +kernel) (by decide +kernel)) (⟨by decide, by decide, by decide +kernel⟩) (⟨by decide, by decide⟩) rfl rfl) (
  tkc (s_iload_n (at_ dl_X8_farthestChecks 37 (ins := .iload_n 3) rfl)) (
  tkc (s_iconst (at_ dl_X8_farthestChecks 38 (ins := .iconst (-1)) rfl) (by first | rfl | decide)) (
  tkc (s_ixor (at_ dl_X8_farthestChecks 39 (ins := .ixor) rfl)) (
  tkc (s_iand (at_ dl_X8_farthestChecks 40 (ins := .iand) rfl)) (
  tkc (s_istore (at_ dl_X8_farthestChecks 41 (ins := .istore 5) rfl) (by decide)) (
  tkc (s_iload_n (at_ dl_X8_farthestChecks 42 (ins := .iload_n 3) rfl)) (
  tkc (s_iload (at_ dl_X8_farthestChecks 43 (ins := .iload 5) rfl)) (
  tkc (s_ior (at_ dl_X8_farthestChecks 44 (ins := .ior) rfl)) (
  tkc (s_istore_n (at_ dl_X8_farthestChecks 45 (ins := .istore_n 3) rfl) (by decide)) (
  tkc (s_iinc (at_ dl_X8_farthestChecks 46 (ins := .iinc 6 1) rfl) (by decide) (by first | rfl | decide)) (
  tkc (s_goto (at_ dl_X8_farthestChecks 47 (ins := .goto (-53)) rfl) (by decide)) (
  tkc (s_aload_n (at_ dl_X8_farthestChecks 48 (ins := .aload_n 0) rfl)) (
  tkc (s_gR (at_ dl_X8_farthestChecks 49 (ins := .getfield 9) rfl) (by decide) (by decide) (by decide) (tg 200 (by decide +kernel) (by decide +kernel))) (
  tkc (s_cV ok_X5_allChecks (at_ dl_X8_farthestChecks 50 (ins := .invokevirtual 54) rfl) (by decide) rfl (tg 535 (by decide +kernel) (by decide +kernel)) (tg 416 (by decide +kernel) (by decide +kernel)) (tg 417 (by decide +kernel) (by decide +kernel)) (tg 45 (by decide +kernel) (by decide +kernel)) (tg 418 (by decide +kernel) (by decide +kernel)) (⟨by decide, by decide, by decide +kernel⟩) (⟨by decide, by decide⟩) rfl rfl) (
  tkc (s_iload_n (at_ dl_X8_farthestChecks 51 (ins := .iload_n 3) rfl)) (
  tkc (s_iconst (at_ dl_X8_farthestChecks 52 (ins := .iconst (-1)) rfl) (by first | rfl | decide)) (
  tkc (s_ixor (at_ dl_X8_farthestChecks 53 (ins := .ixor) rfl)) (
  tkc (s_iand (at_ dl_X8_farthestChecks 54 (ins := .iand) rfl)) (
  tkc (s_istore (at_ dl_X8_farthestChecks 55 (ins := .istore 6) rfl) (by decide)) (
  tkc (s_iload (at_ dl_X8_farthestChecks 56 (ins := .iload 6) rfl)) (
  tkc (s_if_eq (at_ dl_X8_farthestChecks 57 (ins := .ifCond .eq 8) rfl) (by decide)) (
  tkc (s_iload (at_ dl_X8_farthestChecks 58 (ins := .iload 6) rfl)) (
  tkc (s_goto (at_ dl_X8_farthestChecks 59 (ins := .goto 5) rfl) (by decide)) (
  tkc (s_iload (at_ dl_X8_farthestChecks 60 (ins := .iload 4) rfl)) (
  tkc (s_rI (at_ dl_X8_farthestChecks 61 (ins := .ireturn) rfl) rfl) ( tk0))))))))))))))))))))))))))))))))))))))))))))))))))))))))))))))
theorem lf_X8_farthestChecks : lk (tb_X8_farthestChecks) 0 = (x_c 1 (.int 1), false) ∧ lk (tb_X8_farthestChecks) 1 = (x_il 2 1, false) ∧ lk (tb_X8_farthestChecks) 2 = (x_ii 3 (fun x y : Int32 => x <<< (y &&& 31)), false) ∧ lk (tb_X8_farthestChecks) 3 = (x_is 4 2, false) ∧ lk (tb_X8_farthestChecks) 4 = (x_al 5 0, false) ∧ lk (tb_X8_farthestChecks) 5 = (x_gR 8 0 8, false) ∧ lk (tb_X8_farthestChecks) 8 = (x_il 9 1, false) ∧ lk (tb_X8_farthestChecks) 9 = (x_cV 5 1 P_X5_checksOver 12, false) ∧ lk (tb_X8_farthestChecks) 12 = (x_is 13 3, false) ∧ lk (tb_X8_farthestChecks) 13 = (x_il 14 3, false) ∧ lk (tb_X8_farthestChecks) 14 = (x_is 16 4, false) ∧ lk (tb_X8_farthestChecks) 16 = (x_il 18 4, false) ∧ lk (tb_X8_farthestChecks) 18 = (x_is 20 5, false) ∧ lk (tb_X8_farthestChecks) 20 = (x_c 21 (.int 1), false) ∧ lk (tb_X8_farthestChecks) 21 = (x_is 23 6, false) ∧ lk (tb_X8_farthestChecks) 23 = (x_il 25 6, true) ∧ lk (tb_X8_farthestChecks) 25 = (x_c 27 (.int 6), false) ∧ lk (tb_X8_farthestChecks) 27 = (x_ic 79 30 (fun x y : Int32 => y < x), false) ∧ lk (tb_X8_farthestChecks) 30 = (x_il 32 5, false) ∧ lk (tb_X8_farthestChecks) 32 = (x_if 79 35 (fun x : Int32 => x = 0), false) ∧ lk (tb_X8_farthestChecks) 35 = (x_il 37 5, false) ∧ lk (tb_X8_farthestChecks) 37 = (x_is 39 4, false) ∧ lk (tb_X8_farthestChecks) 39 = (x_al 40 0, false) ∧ lk (tb_X8_farthestChecks) 40 = (x_il 42 4, false) ∧ lk (tb_X8_farthestChecks) 42 = (x_cV 8 1 P_X8_bitsUnder 45, false) ∧ lk (tb_X8_farthestChecks) 45 = (x_il 46 2, false) ∧ lk (tb_X8_farthestChecks) 46 = (x_c 47 (.int (-1)), false) ∧ lk (tb_X8_farthestChecks) 47 = (x_ii 48 (fun x y : Int32 => x ^^^ y), false) ∧ lk (tb_X8_farthestChecks) 48 = (x_ii 49 (fun x y : Int32 => x &&& y), false) ∧ lk (tb_X8_farthestChecks) 49 = (x_is 51 7, false) ∧ lk (tb_X8_farthestChecks) 51 = (x_il 52 2, false) ∧ lk (tb_X8_farthestChecks) 52 = (x_il 54 7, false) ∧ lk (tb_X8_farthestChecks) 54 = (x_ii 55 (fun x y : Int32 => x ||| y), false) ∧ lk (tb_X8_farthestChecks) 55 = (x_is 56 2, false) ∧ lk (tb_X8_farthestChecks) 56 = (x_al 57 0, false) ∧ lk (tb_X8_farthestChecks) 57 = (x_il 59 7, false) ∧ lk (tb_X8_farthestChecks) 59 = (x_cV 8 1 P_X8_checksOverAny 62, false) ∧ lk (tb_X8_farthestChecks) 62 = (x_il 63 3, false) ∧ lk (tb_X8_farthestChecks) 63 = (x_c 64 (.int (-1)), false) ∧ lk (tb_X8_farthestChecks) 64 = (x_ii 65 (fun x y : Int32 => x ^^^ y), false) ∧ lk (tb_X8_farthestChecks) 65 = (x_ii 66 (fun x y : Int32 => x &&& y), false) ∧ lk (tb_X8_farthestChecks) 66 = (x_is 68 5, false) ∧ lk (tb_X8_farthestChecks) 68 = (x_il 69 3, false) ∧ lk (tb_X8_farthestChecks) 69 = (x_il 71 5, false) ∧ lk (tb_X8_farthestChecks) 71 = (x_ii 72 (fun x y : Int32 => x ||| y), false) ∧ lk (tb_X8_farthestChecks) 72 = (x_is 73 3, false) ∧ lk (tb_X8_farthestChecks) 73 = (x_inc 76 6 1, false) ∧ lk (tb_X8_farthestChecks) 76 = (x_go 23, false) ∧ lk (tb_X8_farthestChecks) 79 = (x_al 80 0, true) ∧ lk (tb_X8_farthestChecks) 80 = (x_gR 8 0 83, false) ∧ lk (tb_X8_farthestChecks) 83 = (x_cV 5 0 P_X5_allChecks 86, false) ∧ lk (tb_X8_farthestChecks) 86 = (x_il 87 3, false) ∧ lk (tb_X8_farthestChecks) 87 = (x_c 88 (.int (-1)), false) ∧ lk (tb_X8_farthestChecks) 88 = (x_ii 89 (fun x y : Int32 => x ^^^ y), false) ∧ lk (tb_X8_farthestChecks) 89 = (x_ii 90 (fun x y : Int32 => x &&& y), false) ∧ lk (tb_X8_farthestChecks) 90 = (x_is 92 6, false) ∧ lk (tb_X8_farthestChecks) 92 = (x_il 94 6, false) ∧ lk (tb_X8_farthestChecks) 94 = (x_if 102 97 (fun x : Int32 => x = 0), false) ∧ lk (tb_X8_farthestChecks) 97 = (x_il 99 6, false) ∧ lk (tb_X8_farthestChecks) 99 = (x_go 104, false) ∧ lk (tb_X8_farthestChecks) 102 = (x_il 104 4, false) ∧ lk (tb_X8_farthestChecks) 104 = (x_rI, false) := ⟨rfl, rfl, rfl, rfl, rfl, rfl, rfl, rfl, rfl, rfl, rfl, rfl, rfl, rfl, rfl, rfl, rfl, rfl, rfl, rfl, rfl, rfl, rfl, rfl, rfl, rfl, rfl, rfl, rfl, rfl, rfl, rfl, rfl, rfl, rfl, rfl, rfl, rfl, rfl, rfl, rfl, rfl, rfl, rfl, rfl, rfl, rfl, rfl, rfl, rfl, rfl, rfl, rfl, rfl, rfl, rfl, rfl, rfl, rfl, rfl, rfl, rfl⟩
def P_X8_farthestChecks : PTT := fun as M R => match as with
  | [.ref k, .int b] => k = 18 ∧ IsWa M.1 ∧ IsSt M.1 5 ∧ ∃ a, SR M.2.1 5 a ∧ AOk a ∧ tn b < aN a ∧ R (some (.int (nI (faW (aV a) (aM a) (tn b))))) M
  | _ => False
set_option maxRecDepth 20000 in
theorem ok_X8_farthestChecks : Ok yX8_farthestChecks mt_X8_farthestChecks P_X8_farthestChecks := by
  refine Ok.of (by decide) rfl rfl rfl rfl fun av ⟨S, I, L⟩ R hP => ?_
  unfold P_X8_farthestChecks at hP
  split at hP
  case h_2 => exact hP.elim
  rename_i k b
  obtain ⟨k, rfl⟩ : ∃ q : Nat, q = k := ⟨k, rfl⟩
  refine ⟨by simp [ent, wide, mt_X8_farthestChecks], ?_⟩
  show J mt_X8_farthestChecks R 0 [some (.ref k), some (.int b), none, none, none, none, none, none] [] (S, I, L)
  try dsimp only at hP
  obtain ⟨rfl, hk, h5, a, hsr, ha, hb, hR⟩ := hP
  have h9 := ha.1
  obtain ⟨j, hj, rfl⟩ := tn_ex (Nat.lt_trans hb (show aN a < 512 by omega))
  rw [tn_nI (n := j) (by omega)] at hR hb
  have hp9 := pow9 h9.2.1
  have hp6 := pow6 h9.2.2
  have hW := cW_lt (ov := aV a) h9.2.2 hb ha.2.1
  have em : I 5 5 = nI (aM a) := hsr.2.1
  have hend : ∀ s last x, last < 64 → fsW (aV a) (aM a) j 6 0 (cW (aV a) (aM a) j 0).2 = (s, last) → J mt_X8_farthestChecks R 79 [some (.ref 18), some (.int (nI j)), some (.int (nI (cW (aV a) (aM a) j s).1)), some (.int (nI (cW (aV a) (aM a) j s).2)), some (.int (nI last)), some (.int x), some (.int (nI (s + 1))), none] [] (S, I, L) := by
    intro s last x hla hfs
    unfold faW at hR
    rw [hfs] at hR
    have hd : df (2 ^ aM a - 1) (cW (aV a) (aM a) j s).2 < 64 := df_lt (N := 6) (by omega)
    refine J.of tk_X8_farthestChecks 200 fun ρ hρ => ?_
    simp only [hρ, x_c, x_il, x_ll, x_al, x_is, x_as, x_ls, x_inc, x_ii, x_iq, x_i1, x_l2, x_lq, x_lh, x_i2l, x_l2i, x_lcmp, x_dup, x_dup2, x_pop, x_if, x_ifn, x_ic, x_icn, x_go, x_sw, swc, x_l01, x_mx, x_gI, x_gL, x_gR, x_pI, x_pZ, x_pL, x_pR, x_ia, x_za, x_aa, x_ias, x_zas, x_aas, x_fac, x_fa, x_slen, x_sa, x_ac, x_oi, x_new, x_na, x_cS, x_cV, x_cI, x_rI, x_rZ, x_rL, x_r0, pa, short, oc, lg, lset, lset2, wide, cond_true, cond_false, true_and, and_true, ↓reduceIte, Bool.false_eq_true, true_or, or_true, lf_X8_farthestChecks, hk, hk.f, h5, h5.f, em, P_X5_allChecks, allC h9.2.2, nI_df, nI_z (show df (2 ^ aM a - 1) (cW (aV a) (aM a) j s).2 < 2 ^ 31 by omega)]
    refine ⟨fun h => ?_, fun h => ?_⟩
    · rwa [if_neg (fun q => q h)] at hR
    · rwa [if_pos h] at hR
  have key : ∀ l s last, l + s = 6 → last < 64 → fsW (aV a) (aM a) j l s last = fsW (aV a) (aM a) j 6 0 (cW (aV a) (aM a) j 0).2 → J mt_X8_farthestChecks R 23 [some (.ref 18), some (.int (nI j)), some (.int (nI (cW (aV a) (aM a) j s).1)), some (.int (nI (cW (aV a) (aM a) j s).2)), some (.int (nI last)), some (.int (nI (lyW (aV a) (aM a) j s))), some (.int (nI (s + 1))), none] [] (S, I, L) := by
    intro l
    induction l with
    | zero =>
      intro s last hl hla hr
      have : s = 6 := by omega
      subst this
      have e6 : (6 : Int32) < nI (6 + 1) ↔ True := by decide
      refine J.of tk_X8_farthestChecks 200 fun ρ hρ => ?_
      simp only [hρ, x_c, x_il, x_ll, x_al, x_is, x_as, x_ls, x_inc, x_ii, x_iq, x_i1, x_l2, x_lq, x_lh, x_i2l, x_l2i, x_lcmp, x_dup, x_dup2, x_pop, x_if, x_ifn, x_ic, x_icn, x_go, x_sw, swc, x_l01, x_mx, x_gI, x_gL, x_gR, x_pI, x_pZ, x_pL, x_pR, x_ia, x_za, x_aa, x_ias, x_zas, x_aas, x_fac, x_fa, x_slen, x_sa, x_ac, x_oi, x_new, x_na, x_cS, x_cV, x_cI, x_rI, x_rZ, x_rL, x_r0, pa, short, oc, lg, lset, lset2, wide, cond_true, cond_false, true_and, and_true, ↓reduceIte, Bool.false_eq_true, true_or, or_true, lf_X8_farthestChecks, hk, hk.f, h5, h5.f, e6, true_implies, not_true_eq_false, false_implies]
      exact hend 6 last _ hla (by rw [← hr]; rfl)
    | succ l ih =>
      intro s last hl hla hr
      obtain ⟨w1, w2⟩ := hW s
      obtain ⟨e1, e2, e3, e4⟩ := (WI.all (aV a) (aM a) j s).step (ov := aV a) (fun _ _ _ => rfl) (fun _ _ _ _ => rfl)
      have hD : lyW (aV a) (aM a) j s < 64 := df_lt (N := 6) w2
      have hu : uS (aV a) (lyW (aV a) (aM a) j s) (aM a) < 2 ^ aN a := uS_lt ha.2.1
      have hbn : df (uS (aV a) (lyW (aV a) (aM a) j s) (aM a)) (cW (aV a) (aM a) j s).1 < 2 ^ aN a := df_lt hu
      obtain ⟨v1, v2⟩ := hW (s + 1)
      have e6 : (6 : Int32) < nI (s + 1) ↔ False := by
        rw [show (6 : Int32) = nI 6 by decide, nI_ltI (by omega) (by omega)]
        exact ⟨fun h => by omega, False.elim⟩
      have t1 : tn (nI (lyW (aV a) (aM a) j s)) = lyW (aV a) (aM a) j s := tn_nI (by omega)
      have t2 : tn (nI (df (uS (aV a) (lyW (aV a) (aM a) j s) (aM a)) (cW (aV a) (aM a) j s).1)) = df (uS (aV a) (lyW (aV a) (aM a) j s) (aM a)) (cW (aV a) (aM a) j s).1 := tn_nI (by omega)
      refine J.of tk_X8_farthestChecks 200 fun ρ hρ => ?_
      simp only [hρ, x_c, x_il, x_ll, x_al, x_is, x_as, x_ls, x_inc, x_ii, x_iq, x_i1, x_l2, x_lq, x_lh, x_i2l, x_l2i, x_lcmp, x_dup, x_dup2, x_pop, x_if, x_ifn, x_ic, x_icn, x_go, x_sw, swc, x_l01, x_mx, x_gI, x_gL, x_gR, x_pI, x_pZ, x_pL, x_pR, x_ia, x_za, x_aa, x_ias, x_zas, x_aas, x_fac, x_fa, x_slen, x_sa, x_ac, x_oi, x_new, x_na, x_cS, x_cV, x_cI, x_rI, x_rZ, x_rL, x_r0, pa, short, oc, lg, lset, lset2, wide, cond_true, cond_false, true_and, and_true, ↓reduceIte, Bool.false_eq_true, true_or, or_true, lf_X8_farthestChecks, hk, hk.f, h5, h5.f, e6, false_implies, not_false_eq_true, true_implies, P_X8_bitsUnder, P_X8_checksOverAny, t1, t2, nI_z (show lyW (aV a) (aM a) j s < 2 ^ 31 by omega), nI_df, eq_true (show lyW (aV a) (aM a) j s < 512 by omega)]
      refine ⟨fun h0 => ?_, fun h0 => ⟨a, hsr, ha, by rw [t2]; omega, a, hsr, ha, ?_⟩⟩
      · exact hend s last _ hla (by rw [← hr, fsW, if_pos h0])
      · have g1 : (cW (aV a) (aM a) j (s + 1)).1 = (stW (aV a) (aM a) ((cW (aV a) (aM a) j s).1, (cW (aV a) (aM a) j s).2)).1 := rfl
        have g2 : (cW (aV a) (aM a) j (s + 1)).2 = (stW (aV a) (aM a) ((cW (aV a) (aM a) j s).1, (cW (aV a) (aM a) j s).2)).2 := rfl
        have g3 : df (cW (aV a) (aM a) j s).2 (Cp (aV a) (aM a) j s) = lyW (aV a) (aM a) j s := rfl
        rw [← g1, g3] at e1
        rw [← g2, g3] at e2 e3
        rw [t2, nI_or, nI_or, e1, e3, e2, nI_1]
        rw [fsW, if_neg h0] at hr
        exact J.weak (by simp [lsub, lyW, Cp]) (ih (s + 1) _ (by omega) hD hr)
  refine J.of tk_X8_farthestChecks 200 fun ρ hρ => ?_
  simp only [hρ, x_c, x_il, x_ll, x_al, x_is, x_as, x_ls, x_inc, x_ii, x_iq, x_i1, x_l2, x_lq, x_lh, x_i2l, x_l2i, x_lcmp, x_dup, x_dup2, x_pop, x_if, x_ifn, x_ic, x_icn, x_go, x_sw, swc, x_l01, x_mx, x_gI, x_gL, x_gR, x_pI, x_pZ, x_pL, x_pR, x_ia, x_za, x_aa, x_ias, x_zas, x_aas, x_fac, x_fa, x_slen, x_sa, x_ac, x_oi, x_new, x_na, x_cS, x_cV, x_cI, x_rI, x_rZ, x_rL, x_r0, pa, short, oc, lg, lset, lset2, wide, cond_true, cond_false, true_and, and_true, ↓reduceIte, Bool.false_eq_true, true_or, or_true, lf_X8_farthestChecks, hk, hk.f, h5, h5.f, P_X5_checksOver, eq_true (hsr.ovq ha)]
  refine ⟨⟨j, by omega, rfl⟩, ?_⟩
  rw [tn_nI (n := j) (by omega), hsr.co ha, shl1 (by omega), co_0]
  have := key 6 0 (cW (aV a) (aM a) j 0).2 rfl (hW 0).2 rfl
  rw [lyW, Cp, df_0] at this
  exact this
/-- of some checks the first of those over the fewest bits -/
def gcF (ov : Nat → Nat) (F : Nat) : Nat → Nat × Int32
  | 0 => (10, -1)
  | c + 1 => if F.testBit c = true ∧ ones9 (ov c) < (gcF ov F c).1 then (ones9 (ov c), nI c) else gcF ov F c
theorem gcF_le (ov : Nat → Nat) (F : Nat) : ∀ c, (gcF ov F c).1 ≤ 10
  | 0 => Nat.le_refl _
  | c + 1 => by
    have := ones9_le (ov c)
    have := gcF_le ov F c
    simp only [gcF]
    split
    · simp only; omega
    · assumption
theorem faW_lt {ov : Nat → Nat} {m b : Nat} (hm : m ≤ 6) (hW : ∀ s, (cW ov m b s).2 < 64) : faW ov m b < 64 := by
  have hf : ∀ l s last, last < 64 → (fsW ov m b l s last).2 < 64 := by
    intro l
    induction l with
    | zero => intro s last h; exact h
    | succ l ih =>
      intro s last h
      simp only [fsW]
      split
      · exact h
      · exact ih _ _ (df_lt (N := 6) (hW s))
  unfold faW
  split
  · exact df_lt (N := 6) (by have := pow6 hm; omega)
  · exact hf _ _ _ (hW 0)
def cgA (a : AS) (b : Nat) : Int32 := (gcF (aV a) (faW (aV a) (aM a) b) (aM a)).2
def il_X8_checkToGrowInto : List (Nat × Instr × Nat) := [(0, .aload_n 0, 1), (1, .iload_n 1, 1), (2, .invokevirtual 42, 3), (5, .istore_n 2, 1), (6, .iconst (-1), 1), (7, .istore_n 3, 1), (8, .bipush 10, 2), (10, .istore 4, 2), (12, .iconst 0, 1), (13, .istore 5, 2), (15, .iload 5, 2), (17, .aload_n 0, 1), (18, .getfield 9, 3), (21, .getfield 15, 3), (24, .if_icmp .ge 47, 3), (27, .aload_n 0, 1), (28, .getfield 9, 3), (31, .getfield 45, 3), (34, .iload 5, 2), (36, .iaload, 1), (37, .invokestatic 49, 3), (40, .istore 6, 2), (42, .iload_n 2, 1), (43, .iload 5, 2), (45, .ishr, 1), (46, .iconst 1, 1), (47, .iand, 1), (48, .ifCond .eq 17, 3), (51, .iload 6, 2), (53, .iload 4, 2), (55, .if_icmp .ge 10, 3), (58, .iload 6, 2), (60, .istore 4, 2), (62, .iload 5, 2), (64, .istore_n 3, 1), (65, .iinc 5 1, 3), (68, .goto (-53), 3), (71, .iload_n 3, 1), (72, .ireturn, 1)]
def mt_X8_checkToGrowInto : Mt := (cX8_checkToGrowInto, RX8, 7, (some .int), ({ frames := 2, cells := 0, slots := 0, locals := 50 } : Room), false, none, none)
set_option maxRecDepth 100000 in
theorem dl_X8_checkToGrowInto : ∀ q ∈ il_X8_checkToGrowInto, decode (mt_X8_checkToGrowInto).1 q.1 = .ok q.2 := by decide +kernel
def tb_X8_checkToGrowInto : Tb := [(0, x_al 1 0, false),
  (1, x_il 2 1, false),
  (2, x_cV 8 1 P_X8_farthestChecks 5, false),
  (5, x_is 6 2, false),
  (6, x_c 7 (.int (-1)), false),
  (7, x_is 8 3, false),
  (8, x_c 10 (.int 10), false),
  (10, x_is 12 4, false),
  (12, x_c 13 (.int 0), false),
  (13, x_is 15 5, false),
  (15, x_il 17 5, true),
  (17, x_al 18 0, false),
  (18, x_gR 8 0 21, false),
  (21, x_gI 5 5 24, false),
  (24, x_ic 71 27 (fun x y : Int32 => y ≤ x), false),
  (27, x_al 28 0, false),
  (28, x_gR 8 0 31, false),
  (31, x_gR 5 0 34, false),
  (34, x_il 36 5, false),
  (36, x_ia 37, false),
  (37, x_cS 1 P_J6_bitCount_0f7a4 40, false),
  (40, x_is 42 6, false),
  (42, x_il 43 2, false),
  (43, x_il 45 5, false),
  (45, x_ii 46 (fun x y : Int32 => x >>> (y &&& 31)), false),
  (46, x_c 47 (.int 1), false),
  (47, x_ii 48 (fun x y : Int32 => x &&& y), false),
  (48, x_if 65 51 (fun x : Int32 => x = 0), false),
  (51, x_il 53 6, false),
  (53, x_il 55 4, false),
  (55, x_ic 65 58 (fun x y : Int32 => y ≤ x), false),
  (58, x_il 60 6, false),
  (60, x_is 62 4, false),
  (62, x_il 64 5, false),
  (64, x_is 65 3, false),
  (65, x_inc 68 5 1, false),
  (68, x_go 15, false),
  (71, x_il 72 3, false),
  (72, x_rI, false)]
set_option maxRecDepth 100000 in
theorem tk_X8_checkToGrowInto : TbOk (mt_X8_checkToGrowInto) (tb_X8_checkToGrowInto) :=
  tkc (s_aload_n (at_ dl_X8_checkToGrowInto 0 (ins := .aload_n 0) rfl)) (
  tkc (s_iload_n (at_ dl_X8_checkToGrowInto 1 (ins := .iload_n 1) rfl)) (
  tkc (s_cV ok_X8_farthestChecks (at_ dl_X8_checkToGrowInto 2 (ins := .invokevirtual 42) rfl) (by decide) rfl (tg 531 (by decide +kernel) (by decide +kernel)) (tg 533 (by decide +kernel) (by decide +kernel)) (tg 13 (by decide +kernel) (by decide +kernel)) (tg 47 (by decide +kernel) (by decide +kernel)) (tg 534 (by decide +kernel) (by decide +kernel)) (⟨by decide, by decide, by decide +kernel⟩) (⟨by decide, by decide⟩) rfl rfl) (
  tkc (s_istore_n (at_ dl_X8_checkToGrowInto 3 (ins := .istore_n 2) rfl) (by decide)) (
  tkc (s_iconst (at_ dl_X8_checkToGrowInto 4 (ins := .iconst (-1)) rfl) (by first | rfl | decide)) (
  tkc (s_istore_n (at_ dl_X8_checkToGrowInto 5 (ins := .istore_n 3) rfl) (by decide)) (
  tkc (s_bipush (at_ dl_X8_checkToGrowInto 6 (ins := .bipush 10) rfl) (by first | rfl | decide)) (
  tkc (s_istore (at_ dl_X8_checkToGrowInto 7 (ins := .istore 4) rfl) (by decide)) (
  tkc (s_iconst (at_ dl_X8_checkToGrowInto 8 (ins := .iconst 0) rfl) (by first | rfl | decide)) (
  tkc (s_istore (at_ dl_X8_checkToGrowInto 9 (ins := .istore 5) rfl) (by decide)) (
  tkc (s_iload (at_ dl_X8_checkToGrowInto 10 (ins := .iload 5) rfl)) (
  tkc (s_aload_n (at_ dl_X8_checkToGrowInto 11 (ins := .aload_n 0) rfl)) (
  tkc (s_gR (at_ dl_X8_checkToGrowInto 12 (ins := .getfield 9) rfl) (by decide) (by decide) (by decide) (tg 200 (by decide +kernel) (by decide +kernel))) (
  tkc (s_gI (at_ dl_X8_checkToGrowInto 13 (ins := .getfield 15) rfl) (by decide) (by decide) (by decide) (tg 140 (by decide +kernel) (by decide +kernel))) (
  tkc (s_ic_ge (at_ dl_X8_checkToGrowInto 14 (ins := .if_icmp .ge 47) rfl) (by decide)) (
  tkc (s_aload_n (at_ dl_X8_checkToGrowInto 15 (ins := .aload_n 0) rfl)) (
  tkc (s_gR (at_ dl_X8_checkToGrowInto 16 (ins := .getfield 9) rfl) (by decide) (by decide) (by decide) (tg 200 (by decide +kernel) (by decide +kernel))) (
  tkc (s_gR (at_ dl_X8_checkToGrowInto 17 (ins := .getfield 45) rfl) (by decide) (by decide) (by decide) (tg 123 (by decide +kernel) (by decide +kernel))) (
  tkc (s_iload (at_ dl_X8_checkToGrowInto 18 (ins := .iload 5) rfl)) (
  tkc (s_ia (at_ dl_X8_checkToGrowInto 19 (ins := .iaload) rfl)) (
  tkc (s_cS ok_J6_bitCount_0f7a4 (at_ dl_X8_checkToGrowInto 20 (ins := .invokestatic 49) rfl) (tg 536 (by decide +kernel) (by decide +kernel)) (tg 374 (by decide +kernel) (by decide +kernel)) (tg 53 (by decide +kernel) (by decide +kernel)) (tg 375 (by decide +kernel) (by decide +kernel)) (⟨by decide, by decide, by decide +kernel⟩) (⟨by decide, by decide⟩) rfl rfl) (
  tkc (s_istore (at_ dl_X8_checkToGrowInto 21 (ins := .istore 6) rfl) (by decide)) (
  tkc (s_iload_n (at_ dl_X8_checkToGrowInto 22 (ins := .iload_n 2) rfl)) (
  tkc (s_iload (at_ dl_X8_checkToGrowInto 23 (ins := .iload 5) rfl)) (
  tkc (s_ishr (at_ dl_X8_checkToGrowInto 24 (ins := .ishr) rfl)) (
  tkc (s_iconst (at_ dl_X8_checkToGrowInto 25 (ins := .iconst 1) rfl) (by first | rfl | decide)) (
  tkc (s_iand (at_ dl_X8_checkToGrowInto 26 (ins := .iand) rfl)) (
  tkc (s_if_eq (at_ dl_X8_checkToGrowInto 27 (ins := .ifCond .eq 17) rfl) (by decide)) (
  tkc (s_iload (at_ dl_X8_checkToGrowInto 28 (ins := .iload 6) rfl)) (
  tkc (s_iload (at_ dl_X8_checkToGrowInto 29 (ins := .iload 4) rfl)) (
  tkc (s_ic_ge (at_ dl_X8_checkToGrowInto 30 (ins := .if_icmp .ge 10) rfl) (by decide)) (
  tkc (s_iload (at_ dl_X8_checkToGrowInto 31 (ins := .iload 6) rfl)) (
  tkc (s_istore (at_ dl_X8_checkToGrowInto 32 (ins := .istore 4) rfl) (by decide)) (
  tkc (s_iload (at_ dl_X8_checkToGrowInto 33 (ins := .iload 5) rfl)) (
  tkc (s_istore_n (at_ dl_X8_checkToGrowInto 34 (ins := .istore_n 3) rfl) (by decide)) (
  tkc (s_iinc (at_ dl_X8_checkToGrowInto 35 (ins := .iinc 5 1) rfl) (by decide) (by first | rfl | decide)) (
  tkc (s_goto (at_ dl_X8_checkToGrowInto 36 (ins := .goto (-53)) rfl) (by decide)) (
  tkc (s_iload_n (at_ dl_X8_checkToGrowInto 37 (ins := .iload_n 3) rfl)) (
  tkc (s_rI (at_ dl_X8_checkToGrowInto 38 (ins := .ireturn) rfl) rfl) ( tk0)))))))))))))))))))))))))))))))))))))))
theorem lf_X8_checkToGrowInto : lk (tb_X8_checkToGrowInto) 0 = (x_al 1 0, false) ∧ lk (tb_X8_checkToGrowInto) 1 = (x_il 2 1, false) ∧ lk (tb_X8_checkToGrowInto) 2 = (x_cV 8 1 P_X8_farthestChecks 5, false) ∧ lk (tb_X8_checkToGrowInto) 5 = (x_is 6 2, false) ∧ lk (tb_X8_checkToGrowInto) 6 = (x_c 7 (.int (-1)), false) ∧ lk (tb_X8_checkToGrowInto) 7 = (x_is 8 3, false) ∧ lk (tb_X8_checkToGrowInto) 8 = (x_c 10 (.int 10), false) ∧ lk (tb_X8_checkToGrowInto) 10 = (x_is 12 4, false) ∧ lk (tb_X8_checkToGrowInto) 12 = (x_c 13 (.int 0), false) ∧ lk (tb_X8_checkToGrowInto) 13 = (x_is 15 5, false) ∧ lk (tb_X8_checkToGrowInto) 15 = (x_il 17 5, true) ∧ lk (tb_X8_checkToGrowInto) 17 = (x_al 18 0, false) ∧ lk (tb_X8_checkToGrowInto) 18 = (x_gR 8 0 21, false) ∧ lk (tb_X8_checkToGrowInto) 21 = (x_gI 5 5 24, false) ∧ lk (tb_X8_checkToGrowInto) 24 = (x_ic 71 27 (fun x y : Int32 => y ≤ x), false) ∧ lk (tb_X8_checkToGrowInto) 27 = (x_al 28 0, false) ∧ lk (tb_X8_checkToGrowInto) 28 = (x_gR 8 0 31, false) ∧ lk (tb_X8_checkToGrowInto) 31 = (x_gR 5 0 34, false) ∧ lk (tb_X8_checkToGrowInto) 34 = (x_il 36 5, false) ∧ lk (tb_X8_checkToGrowInto) 36 = (x_ia 37, false) ∧ lk (tb_X8_checkToGrowInto) 37 = (x_cS 1 P_J6_bitCount_0f7a4 40, false) ∧ lk (tb_X8_checkToGrowInto) 40 = (x_is 42 6, false) ∧ lk (tb_X8_checkToGrowInto) 42 = (x_il 43 2, false) ∧ lk (tb_X8_checkToGrowInto) 43 = (x_il 45 5, false) ∧ lk (tb_X8_checkToGrowInto) 45 = (x_ii 46 (fun x y : Int32 => x >>> (y &&& 31)), false) ∧ lk (tb_X8_checkToGrowInto) 46 = (x_c 47 (.int 1), false) ∧ lk (tb_X8_checkToGrowInto) 47 = (x_ii 48 (fun x y : Int32 => x &&& y), false) ∧ lk (tb_X8_checkToGrowInto) 48 = (x_if 65 51 (fun x : Int32 => x = 0), false) ∧ lk (tb_X8_checkToGrowInto) 51 = (x_il 53 6, false) ∧ lk (tb_X8_checkToGrowInto) 53 = (x_il 55 4, false) ∧ lk (tb_X8_checkToGrowInto) 55 = (x_ic 65 58 (fun x y : Int32 => y ≤ x), false) ∧ lk (tb_X8_checkToGrowInto) 58 = (x_il 60 6, false) ∧ lk (tb_X8_checkToGrowInto) 60 = (x_is 62 4, false) ∧ lk (tb_X8_checkToGrowInto) 62 = (x_il 64 5, false) ∧ lk (tb_X8_checkToGrowInto) 64 = (x_is 65 3, false) ∧ lk (tb_X8_checkToGrowInto) 65 = (x_inc 68 5 1, false) ∧ lk (tb_X8_checkToGrowInto) 68 = (x_go 15, false) ∧ lk (tb_X8_checkToGrowInto) 71 = (x_il 72 3, false) ∧ lk (tb_X8_checkToGrowInto) 72 = (x_rI, false) := ⟨rfl, rfl, rfl, rfl, rfl, rfl, rfl, rfl, rfl, rfl, rfl, rfl, rfl, rfl, rfl, rfl, rfl, rfl, rfl, rfl, rfl, rfl, rfl, rfl, rfl, rfl, rfl, rfl, rfl, rfl, rfl, rfl, rfl, rfl, rfl, rfl, rfl, rfl, rfl⟩
def P_X8_checkToGrowInto : PTT := fun as M R => match as with
  | [.ref k, .int b] => k = 18 ∧ IsWa M.1 ∧ IsSt M.1 5 ∧ ∃ a, SR M.2.1 5 a ∧ AOk a ∧ tn b < aN a ∧ R (some (.int (cgA a (tn b)))) M
  | _ => False
set_option maxRecDepth 20000 in
theorem ok_X8_checkToGrowInto : Ok yX8_checkToGrowInto mt_X8_checkToGrowInto P_X8_checkToGrowInto := by
  refine Ok.of (by decide) rfl rfl rfl rfl fun av ⟨S, I, L⟩ R hP => ?_
  unfold P_X8_checkToGrowInto at hP
  split at hP
  case h_2 => exact hP.elim
  rename_i k b
  obtain ⟨k, rfl⟩ : ∃ q : Nat, q = k := ⟨k, rfl⟩
  refine ⟨by simp [ent, wide, mt_X8_checkToGrowInto], ?_⟩
  show J mt_X8_checkToGrowInto R 0 [some (.ref k), some (.int b), none, none, none, none, none] [] (S, I, L)
  try dsimp only at hP
  obtain ⟨rfl, hk, h5, a, hsr, ha, hb, hR⟩ := hP
  have h9 := ha.1
  obtain ⟨j, hj, rfl⟩ := tn_ex (Nat.lt_trans hb (show aN a < 512 by omega))
  have tj : tn (nI j) = j := tn_nI (by omega)
  rw [tj] at hR hb
  have em : I 5 5 = nI (aM a) := hsr.2.1
  have hF := faW_lt (ov := aV a) (b := j) h9.2.2 (fun s => (cW_lt (ov := aV a) h9.2.2 hb ha.2.1 s).2)
  have key := up (P := fun c => J mt_X8_checkToGrowInto R 15 [some (.ref 18), some (.int (nI j)), some (.int (nI (faW (aV a) (aM a) j))), some (.int (gcF (aV a) (faW (aV a) (aM a) j) c).2), some (.int (nI (gcF (aV a) (faW (aV a) (aM a) j) c).1)), some (.int (nI c)), none] [] (S, I, L)) (n := aM a) (fun c hc ih => ?_) 0 (Nat.zero_le _)
  · refine J.of tk_X8_checkToGrowInto 200 fun ρ hρ => ?_
    simp only [hρ, x_c, x_il, x_ll, x_al, x_is, x_as, x_ls, x_inc, x_ii, x_iq, x_i1, x_l2, x_lq, x_lh, x_i2l, x_l2i, x_lcmp, x_dup, x_dup2, x_pop, x_if, x_ifn, x_ic, x_icn, x_go, x_sw, swc, x_l01, x_mx, x_gI, x_gL, x_gR, x_pI, x_pZ, x_pL, x_pR, x_ia, x_za, x_aa, x_ias, x_zas, x_aas, x_fac, x_fa, x_slen, x_sa, x_ac, x_oi, x_new, x_na, x_cS, x_cV, x_cI, x_rI, x_rZ, x_rL, x_r0, pa, short, oc, lg, lset, lset2, wide, cond_true, cond_false, true_and, and_true, ↓reduceIte, Bool.false_eq_true, true_or, or_true, lf_X8_checkToGrowInto, hk, hk.f, h5, h5.f, P_X8_farthestChecks, tj]
    exact ⟨a, hsr, ha, hb, key⟩
  by_cases hlt : c < aM a
  · have ov : I 6 c = nI (aV a c) := hsr.2.2.2.2.1 c hlt
    have hv := ha.v hlt
    have tv : tn (nI (aV a c)) = aV a c := tn_nI (by omega)
    have o9 := ones9_le (aV a c)
    have g9 := gcF_le (aV a) (faW (aV a) (aM a) j) c
    refine J.of tk_X8_checkToGrowInto 200 fun ρ hρ => ?_
    simp only [hρ, x_c, x_il, x_ll, x_al, x_is, x_as, x_ls, x_inc, x_ii, x_iq, x_i1, x_l2, x_lq, x_lh, x_i2l, x_l2i, x_lcmp, x_dup, x_dup2, x_pop, x_if, x_ifn, x_ic, x_icn, x_go, x_sw, swc, x_l01, x_mx, x_gI, x_gL, x_gR, x_pI, x_pZ, x_pL, x_pR, x_ia, x_za, x_aa, x_ias, x_zas, x_aas, x_fac, x_fa, x_slen, x_sa, x_ac, x_oi, x_new, x_na, x_cS, x_cV, x_cI, x_rI, x_rZ, x_rL, x_r0, pa, short, oc, lg, lset, lset2, wide, cond_true, cond_false, true_and, and_true, ↓reduceIte, Bool.false_eq_true, true_or, or_true, lf_X8_checkToGrowInto, hk, hk.f, h5, h5.f, em, ov, tv, hv, Nat.reduceAdd, P_J6_bitCount_0f7a4, nI_leI (show aM a < 2 ^ 31 by omega) (show c < 2 ^ 31 by omega), nI_leI (show (gcF (aV a) (faW (aV a) (aM a) j) c).1 < 2 ^ 31 by omega) (show ones9 (aV a c) < 2 ^ 31 by omega), ncl (show c < 2 ^ 31 by omega), nI_1, bit_c (show faW (aV a) (aM a) j < 2 ^ 31 by omega) (show c < 31 by omega), Classical.not_not]
    have := ih hlt
    refine ⟨fun h => absurd h (by omega), fun _ => ⟨vp_in_nI (by omega) (by omega), fun h => ?_, fun h => ⟨fun h2 => ?_, fun h2 => ?_⟩⟩⟩
    · rw [gcF, if_neg (fun q => h q.1)] at this
      exact J.weak (by simp [lsub]) this
    · rw [gcF, if_neg (fun q => by omega)] at this
      exact J.weak (by simp [lsub]) this
    · rw [gcF, if_pos ⟨h, by omega⟩] at this
      exact J.weak (by simp [lsub]) this
  · have : c = aM a := by omega
    subst this
    refine J.of tk_X8_checkToGrowInto 200 fun ρ hρ => ?_
    simp only [hρ, x_c, x_il, x_ll, x_al, x_is, x_as, x_ls, x_inc, x_ii, x_iq, x_i1, x_l2, x_lq, x_lh, x_i2l, x_l2i, x_lcmp, x_dup, x_dup2, x_pop, x_if, x_ifn, x_ic, x_icn, x_go, x_sw, swc, x_l01, x_mx, x_gI, x_gL, x_gR, x_pI, x_pZ, x_pL, x_pR, x_ia, x_za, x_aa, x_ias, x_zas, x_aas, x_fac, x_fa, x_slen, x_sa, x_ac, x_oi, x_new, x_na, x_cS, x_cV, x_cI, x_rI, x_rZ, x_rL, x_r0, pa, short, oc, lg, lset, lset2, wide, cond_true, cond_false, true_and, and_true, ↓reduceIte, Bool.false_eq_true, true_or, or_true, lf_X8_checkToGrowInto, hk, hk.f, h5, h5.f, em, nI_leI (show aM a < 2 ^ 31 by omega) (show aM a < 2 ^ 31 by omega), Nat.le_refl, true_implies, not_true_eq_false, false_implies]
    exact hR
end
section
/-! THE CLASS: what it holds, as one abstract thing -/
/-- the text; now; the acts, the newest first; what is kept; what is seen; the seed -/
abbrev GS : Type := Nat × (Nat → Nat) × AS × Nat × (Nat → AS) × (Nat → Bool) × (Nat → AS) × Nat × (Nat → Int32) × (Nat → Int32) × Int64
abbrev gL (g : GS) : Nat := g.1
abbrev gT (g : GS) : Nat → Nat := g.2.1
abbrev gA (g : GS) : AS := g.2.2.1
abbrev gC (g : GS) : Nat := g.2.2.2.1
abbrev gH (g : GS) : Nat → AS := g.2.2.2.2.1
abbrev gK (g : GS) : Nat → Bool := g.2.2.2.2.2.1
abbrev gS (g : GS) : Nat → AS := g.2.2.2.2.2.2.1
abbrev gN (g : GS) : Nat := g.2.2.2.2.2.2.2.1
abbrev gB (g : GS) : Nat → Int32 := g.2.2.2.2.2.2.2.2.1
abbrev gO (g : GS) : Nat → Int32 := g.2.2.2.2.2.2.2.2.2.1
abbrev gZ (g : GS) : Int64 := g.2.2.2.2.2.2.2.2.2.2
def GT (g : GS) (l : Nat) (t : Nat → Nat) : GS := (l, t, g.2.2)
def GA (g : GS) (a : AS) : GS := (g.1, g.2.1, a, g.2.2.2)
def GH (g : GS) (c : Nat) (h : Nat → AS) : GS := (g.1, g.2.1, g.2.2.1, c, h, g.2.2.2.2.2)
def GK (g : GS) (k : Nat → Bool) (s : Nat → AS) : GS := (g.1, g.2.1, g.2.2.1, g.2.2.2.1, g.2.2.2.2.1, k, s, g.2.2.2.2.2.2.2)
def GE (g : GS) (n : Nat) (b o : Nat → Int32) : GS := (g.1, g.2.1, g.2.2.1, g.2.2.2.1, g.2.2.2.2.1, g.2.2.2.2.2.1, g.2.2.2.2.2.2.1, n, b, o, g.2.2.2.2.2.2.2.2.2.2)
def GZ (g : GS) (z : Int64) : GS := (g.1, g.2.1, g.2.2.1, g.2.2.2.1, g.2.2.2.2.1, g.2.2.2.2.2.1, g.2.2.2.2.2.2.1, g.2.2.2.2.2.2.2.1, g.2.2.2.2.2.2.2.2.1, g.2.2.2.2.2.2.2.2.2.1, z)
def sz (a b : AS) : Prop := aN a = aN b ∧ aM a = aM b
def GOk (g : GS) : Prop := (gL g ≤ 70 ∧ ∀ j, j < gL g → gT g j < 256) ∧ AOk (gA g) ∧ (gC g ≤ 14 ∧ ∀ j, j < gC g → AOk (gH g j) ∧ sz (gH g j) (gA g)) ∧ (∀ i, i < 2 → gK g i = true → AOk (gS g i) ∧ sz (gS g i) (gA g)) ∧ (gN g ≤ 6 ∧ ∀ i, i < gN g → tn (gB g i) ≤ 20)
/-- the shapes -/
def IsSl (S : Sh) : Prop := tA S 96 3 ∧ ln S 96 = 2 ∧ sR S 96 0 = 97 ∧ sR S 96 1 = 102 ∧ tA S 107 2 ∧ ln S 107 = 2
def IsC0 (S : Sh) : Prop := tO S 0 9 ∧ sR S 0 0 = 1 ∧ sR S 0 1 = 5 ∧ sR S 0 2 = 10 ∧ sR S 0 3 = 15 ∧ sR S 0 4 = 18 ∧ sR S 0 5 = 19 ∧ sR S 0 6 = 21 ∧ sR S 0 7 = 93 ∧ sR S 0 8 = 96 ∧ sR S 0 9 = 107
def IsCl (S : Sh) : Prop := IsC0 S ∧ IsTx S ∧ IsRd S 3 ∧ IsSt S 5 ∧ IsSt S 10 ∧ IsDc S ∧ IsWa S ∧ IsSu S ∧ IsAc S ∧ IsSe S ∧ IsSl S ∧ IsSt S 97 ∧ IsSt S 102
theorem IsC0.f {S : Sh} (h : IsC0 S) : tO S 0 9 ∧ sR S 0 0 = 1 ∧ sR S 0 1 = 5 ∧ sR S 0 2 = 10 ∧ sR S 0 3 = 15 ∧ sR S 0 4 = 18 ∧ sR S 0 5 = 19 ∧ sR S 0 6 = 21 ∧ sR S 0 7 = 93 ∧ sR S 0 8 = 96 ∧ sR S 0 9 = 107 := h
theorem IsSl.f {S : Sh} (h : IsSl S) : tA S 96 3 ∧ ln S 96 = 2 ∧ sR S 96 0 = 97 ∧ sR S 96 1 = 102 ∧ tA S 107 2 ∧ ln S 107 = 2 := h
/-- the places -/
def CT (I : MI) (g : GS) : Prop := I 1 2 = nI (gL g) ∧ ∀ j, j < gL g → I 2 j = nI (gT g j)
def CA (I : MI) (g : GS) : Prop := ∃ f, AcV I f (gC g) ∧ ∀ j, j < gC g → SR I (23 + 5 * ((f + gC g - 1 - j) % 14)) (gH g j)
def CK (I : MI) (g : GS) : Prop := ∀ i, i < 2 → I 107 i = bB (gK g i) ∧ (gK g i = true → SR I (97 + 5 * i) (gS g i))
def CE (I : MI) (g : GS) : Prop := I 93 2 = nI (gN g) ∧ ∀ i, i < gN g → I 94 i = gB g i ∧ I 95 i = gO g i
def CR (S : Sh) (I : MI) (L : Nat → Nat → Int64) (g : GS) : Prop := IsCl S ∧ CT I g ∧ SR I 5 (gA g) ∧ CA I g ∧ CK I g ∧ CE I g ∧ L 0 10 = gZ g ∧ OrdId I
theorem CT.fr {I I' : MI} {g : GS} (h : CT I g) (h1 : I' 1 = I 1) (h2 : I' 2 = I 2) : CT I' g := by unfold CT at h ⊢; rw [h1, h2]; exact h
theorem CA.fr {I I' : MI} {g : GS} (h : CA I g) (h1 : ∀ q, 21 ≤ q → q < 93 → I' q = I q) : CA I' g := by
  obtain ⟨f, ha, hs⟩ := h
  refine ⟨f, ?_, fun j hj => (hs j hj).fr (fun q q1 q2 => h1 q (by omega) (by have := Nat.mod_lt (f + gC g - 1 - j) (show 0 < 14 by omega); omega))⟩
  unfold AcV at ha ⊢; rw [h1 21 (by omega) (by omega)]; exact ha
theorem CK.fr {I I' : MI} {g : GS} (h : CK I g) (h1 : ∀ q, 97 ≤ q → q < 108 → I' q = I q) : CK I' g := fun i hi => by
  rw [h1 107 (by omega) (by omega)]
  exact ⟨(h i hi).1, fun hk => ((h i hi).2 hk).fr (fun q q1 q2 => h1 q (by omega) (by omega))⟩
theorem CE.fr {I I' : MI} {g : GS} (h : CE I g) (h1 : I' 93 = I 93) (h2 : I' 94 = I 94) (h3 : I' 95 = I 95) : CE I' g := by unfold CE at h ⊢; rw [h1, h2, h3]; exact h
theorem OrdId.fr {I I' : MI} (h : OrdId I) (h1 : I' 16 = I 16) : OrdId I' := by unfold OrdId at h ⊢; rw [h1]; exact h
/-- nothing but what is free to be written over is another -/
def frS (I I' : MI) : Prop := ∀ q, q ≠ 3 → q ≠ 4 → (q < 10 ∨ 15 ≤ q) → q ≠ 15 → q ≠ 17 → q ≠ 20 → I' q = I q
theorem frS.refl (I : MI) : frS I I := fun _ _ _ _ _ _ _ => rfl
theorem frS.trans {A B C : MI} (h : frS A B) (h' : frS B C) : frS A C := fun q a b c d e f => (h' q a b c d e f).trans (h q a b c d e f)
theorem CR.fr {S : Sh} {I I' : MI} {L : Nat → Nat → Int64} {g : GS} (h : CR S I L g) (hf : frS I I') : CR S I' L g := by
  obtain ⟨h1, h2, h3, h4, h5, h6, h7, h8⟩ := h
  exact ⟨h1, h2.fr (hf 1 (by omega) (by omega) (by omega) (by omega) (by omega) (by omega)) (hf 2 (by omega) (by omega) (by omega) (by omega) (by omega) (by omega)), h3.fr (fun q a b => hf q (by omega) (by omega) (by omega) (by omega) (by omega) (by omega)), h4.fr (fun q a b => hf q (by omega) (by omega) (by omega) (by omega) (by omega) (by omega)), h5.fr (fun q a b => hf q (by omega) (by omega) (by omega) (by omega) (by omega) (by omega)), h6.fr (hf 93 (by omega) (by omega) (by omega) (by omega) (by omega) (by omega)) (hf 94 (by omega) (by omega) (by omega) (by omega) (by omega) (by omega)) (hf 95 (by omega) (by omega) (by omega) (by omega) (by omega) (by omega)), h7, h8.fr (hf 16 (by omega) (by omega) (by omega) (by omega) (by omega) (by omega))⟩
/-- an answer, and what is held behind it -/
def fr8 (I I' : MI) : Prop := ∀ q, 108 ≤ q → I' q = I q
theorem frS.f8 {I I' : MI} (h : frS I I') : fr8 I I' := fun q hq => h q (by omega) (by omega) (by omega) (by omega) (by omega) (by omega)
def Ans (M : Mem) (R : Option Value → Mem → Prop) (v : Int32) (g : GS) : Prop := ∀ I' L', fr8 M.2.1 I' → (∀ q, q ≠ 0 → L' q = M.2.2 q) → CR M.1 I' L' g → R (some (.int v)) (M.1, I', L')
theorem Ans.q {M : Mem} {R : Option Value → Mem → Prop} {v : Int32} {g : GS} (h : Ans M R v g) (hc : CR M.1 M.2.1 M.2.2 g) {I' : MI} (hf : frS M.2.1 I') : R (some (.int v)) (M.1, I', M.2.2) := h I' M.2.2 hf.f8 (fun _ _ => rfl) (hc.fr hf)
theorem Ans.s {S : Sh} {I : MI} {L : Nat → Nat → Int64} {R : Option Value → Mem → Prop} {v : Int32} {g : GS} (h : Ans (S, I, L) R v g) (hc : CR S I L g) : R (some (.int v)) (S, I, L) := h.q hc (frS.refl _)
theorem Ans.e {M : Mem} {R : Option Value → Mem → Prop} {p : Int32 × GS} {v : Int32} {g : GS} (h : Ans M R p.1 p.2) (e : p = (v, g)) : Ans M R v g := by rw [e] at h; exact h
/-- write -/
def gWrite (g : GS) (x : Int32) : Int32 × GS := if x < 0 ∨ ¬ x ≤ 255 then (-2, g) else if gL g = 70 then (-4, g) else (nI (gL g + 1), GT g (gL g + 1) (va_up (gT g) (gL g) (tn x)))
def il_X9_write : List (Nat × Instr × Nat) := [(0, .iload_n 1, 1), (1, .ifCond .lt 10, 3), (4, .iload_n 1, 1), (5, .sipush 255, 3), (8, .if_icmp .le 6, 3), (11, .bipush (-2), 2), (13, .ireturn, 1), (14, .aload_n 0, 1), (15, .getfield 10, 3), (18, .getfield 75, 3), (21, .bipush 70, 2), (23, .if_icmp .lt 6, 3), (26, .bipush (-4), 2), (28, .ireturn, 1), (29, .aload_n 0, 1), (30, .getfield 10, 3), (33, .iload_n 1, 1), (34, .invokevirtual 79, 3), (37, .ireturn, 1)]
def mt_X9_write : Mt := (cX9_write, RX9, 2, (some .int), ({ frames := 1, cells := 0, slots := 0, locals := 21 } : Room), false, none, none)
set_option maxRecDepth 100000 in
theorem dl_X9_write : ∀ q ∈ il_X9_write, decode (mt_X9_write).1 q.1 = .ok q.2 := by decide +kernel
def tb_X9_write : Tb := [(0, x_il 1 1, false),
  (1, x_if 11 4 (fun x : Int32 => x < 0), false),
  (4, x_il 5 1, false),
  (5, x_c 8 (.int 255), false),
  (8, x_ic 14 11 (fun x y : Int32 => x ≤ y), false),
  (11, x_c 13 (.int (-2)), false),
  (13, x_rI, false),
  (14, x_al 15 0, false),
  (15, x_gR 9 0 18, false),
  (18, x_gI 7 2 21, false),
  (21, x_c 23 (.int 70), false),
  (23, x_ic 29 26 (fun x y : Int32 => x < y), false),
  (26, x_c 28 (.int (-4)), false),
  (28, x_rI, false),
  (29, x_al 30 0, false),
  (30, x_gR 9 0 33, false),
  (33, x_il 34 1, false),
  (34, x_cV 7 1 P_X7_append 37, false),
  (37, x_rI, false)]
set_option maxRecDepth 100000 in
theorem tk_X9_write : TbOk (mt_X9_write) (tb_X9_write) :=
  tkc (s_iload_n (at_ dl_X9_write 0 (ins := .iload_n 1) rfl)) (
  tkc (s_if_lt (at_ dl_X9_write 1 (ins := .ifCond .lt 10) rfl) (by decide)) (
  tkc (s_iload_n (at_ dl_X9_write 2 (ins := .iload_n 1) rfl)) (
  tkc (s_sipush (at_ dl_X9_write 3 (ins := .sipush 255) rfl) (by first | rfl | decide)) (
  tkc (s_ic_le (at_ dl_X9_write 4 (ins := .if_icmp .le 6) rfl) (by decide)) (
  tkc (s_bipush (at_ dl_X9_write 5 (ins := .bipush (-2)) rfl) (by first | rfl | decide)) (
  tkc (s_rI (at_ dl_X9_write 6 (ins := .ireturn) rfl) rfl) (
  tkc (s_aload_n (at_ dl_X9_write 7 (ins := .aload_n 0) rfl)) (
  tkc (s_gR (at_ dl_X9_write 8 (ins := .getfield 10) rfl) (by decide) (by decide) (by decide) (tg 254 (by decide +kernel) (by decide +kernel))) (
  tkc (s_gI (at_ dl_X9_write 9 (ins := .getfield 75) rfl) (by decide) (by decide) (by decide) (tg 107 (by decide +kernel) (by decide +kernel))) (
  tkc (s_bipush (at_ dl_X9_write 10 (ins := .bipush 70) rfl) (by first | rfl | decide)) (
  tkc (s_ic_lt (at_ dl_X9_write 11 (ins := .if_icmp .lt 6) rfl) (by decide)) (
  tkc (s_bipush (at_ dl_X9_write 12 (ins := .bipush (-4)) rfl) (by first | rfl | decide)) (
  tkc (s_rI (at_ dl_X9_write 13 (ins := .ireturn) rfl) rfl) (
  tkc (s_aload_n (at_ dl_X9_write 14 (ins := .aload_n 0) rfl)) (
  tkc (s_gR (at_ dl_X9_write 15 (ins := .getfield 10) rfl) (by decide) (by decide) (by decide) (tg 254 (by decide +kernel) (by decide +kernel))) (
  tkc (s_iload_n (at_ dl_X9_write 16 (ins := .iload_n 1) rfl)) (
  tkc (s_cV ok_X7_append (at_ dl_X9_write 17 (ins := .invokevirtual 79) rfl) (by decide) rfl (tg 293 (by decide +kernel) (by decide +kernel)) (tg 294 (by decide +kernel) (by decide +kernel)) (tg 295 (by decide +kernel) (by decide +kernel)) (tg 43 (by decide +kernel) (by decide +kernel)) (tg 296 (by decide +kernel) (by decide +kernel)) (⟨by decide, by decide, by decide +kernel⟩) (⟨by decide, by decide⟩) rfl rfl) (
  tkc (s_rI (at_ dl_X9_write 18 (ins := .ireturn) rfl) rfl) ( tk0)))))))))))))))))))
theorem lf_X9_write : lk (tb_X9_write) 0 = (x_il 1 1, false) ∧ lk (tb_X9_write) 1 = (x_if 11 4 (fun x : Int32 => x < 0), false) ∧ lk (tb_X9_write) 4 = (x_il 5 1, false) ∧ lk (tb_X9_write) 5 = (x_c 8 (.int 255), false) ∧ lk (tb_X9_write) 8 = (x_ic 14 11 (fun x y : Int32 => x ≤ y), false) ∧ lk (tb_X9_write) 11 = (x_c 13 (.int (-2)), false) ∧ lk (tb_X9_write) 13 = (x_rI, false) ∧ lk (tb_X9_write) 14 = (x_al 15 0, false) ∧ lk (tb_X9_write) 15 = (x_gR 9 0 18, false) ∧ lk (tb_X9_write) 18 = (x_gI 7 2 21, false) ∧ lk (tb_X9_write) 21 = (x_c 23 (.int 70), false) ∧ lk (tb_X9_write) 23 = (x_ic 29 26 (fun x y : Int32 => x < y), false) ∧ lk (tb_X9_write) 26 = (x_c 28 (.int (-4)), false) ∧ lk (tb_X9_write) 28 = (x_rI, false) ∧ lk (tb_X9_write) 29 = (x_al 30 0, false) ∧ lk (tb_X9_write) 30 = (x_gR 9 0 33, false) ∧ lk (tb_X9_write) 33 = (x_il 34 1, false) ∧ lk (tb_X9_write) 34 = (x_cV 7 1 P_X7_append 37, false) ∧ lk (tb_X9_write) 37 = (x_rI, false) := ⟨rfl, rfl, rfl, rfl, rfl, rfl, rfl, rfl, rfl, rfl, rfl, rfl, rfl, rfl, rfl, rfl, rfl, rfl, rfl⟩
def P_X9_write : PTT := fun as M R => match as with
  | [.ref k, .int x] => k = 0 ∧ ∃ g, CR M.1 M.2.1 M.2.2 g ∧ GOk g ∧ Ans M R (gWrite g x).1 (gWrite g x).2
  | _ => False
set_option maxRecDepth 20000 in
theorem ok_X9_write : Ok yX9_write mt_X9_write P_X9_write := by
  refine Ok.of (by decide) rfl rfl rfl rfl fun av ⟨S, I, L⟩ R hP => ?_
  unfold P_X9_write at hP
  split at hP
  case h_2 => exact hP.elim
  rename_i k x
  obtain ⟨k, rfl⟩ : ∃ q : Nat, q = k := ⟨k, rfl⟩
  refine ⟨by simp [ent, wide, mt_X9_write], ?_⟩
  show J mt_X9_write R 0 [some (.ref k), some (.int x)] [] (S, I, L)
  try dsimp only at hP
  obtain ⟨rfl, g, hc, ho, hA⟩ := hP
  obtain ⟨h1, h2, h3, h4, h5, h6, h7, h8⟩ := hc
  have hl := ho.1.1
  refine J.of tk_X9_write 200 fun ρ hρ => ?_
  simp only [hρ, x_c, x_il, x_ll, x_al, x_is, x_as, x_ls, x_inc, x_ii, x_iq, x_i1, x_l2, x_lq, x_lh, x_i2l, x_l2i, x_lcmp, x_dup, x_dup2, x_pop, x_if, x_ifn, x_ic, x_icn, x_go, x_sw, swc, x_l01, x_mx, x_gI, x_gL, x_gR, x_pI, x_pZ, x_pL, x_pR, x_ia, x_za, x_aa, x_ias, x_zas, x_aas, x_fac, x_fa, x_slen, x_sa, x_ac, x_oi, x_new, x_na, x_cS, x_cV, x_cI, x_rI, x_rZ, x_rL, x_r0, pa, short, oc, lg, lset, lset2, wide, cond_true, cond_false, true_and, and_true, ↓reduceIte, Bool.false_eq_true, true_or, or_true, lf_X9_write, h1.1.f, h1.2.1, h1.2.1.f, h2.1, nI70, nI_ltI (show gL g < 2 ^ 31 by omega) (show 70 < 2 ^ 31 by omega), P_X7_append, Classical.not_not]
  have hc : CR S I L g := ⟨h1, h2, h3, h4, h5, h6, h7, h8⟩
  refine ⟨fun h => (hA.e (show gWrite g x = (-2, g) by rw [gWrite, if_pos (.inl h)])).s hc, fun h => ⟨fun hx => ⟨fun h7' => ⟨gL g, h7', rfl, ?_⟩, fun h7' => (hA.e (show gWrite g x = (-4, g) by rw [gWrite, if_neg (fun q => q.elim h (fun r => r hx)), if_pos (by omega)])).s hc⟩, fun hx => (hA.e (show gWrite g x = (-2, g) by rw [gWrite, if_pos (.inr hx)])).s hc⟩⟩
  refine (hA.e (show gWrite g x = (nI (gL g + 1), GT g (gL g + 1) (va_up (gT g) (gL g) (tn x))) by rw [gWrite, if_neg (fun q => q.elim h (fun r => r hx)), if_neg (by omega)])) _ L (fun q hq => by rw [mS_n (by omega), mS_n (by omega)]) (fun _ _ => rfl) ⟨h1, ⟨?_, fun j hj => ?_⟩, h3.fr (fun q a b => by rw [mS_n (by omega), mS_n (by omega)]), h4.fr (fun q a b => by rw [mS_n (by omega), mS_n (by omega)]), h5.fr (fun q a b => by rw [mS_n (by omega), mS_n (by omega)]), h6.fr rfl rfl rfl, h7, h8.fr rfl⟩
  · rw [mS_s, upd_s]; rfl
  · rw [mS_n (by omega), mS_s, upd_app]
    show _ = nI (va_up (gT g) (gL g) (tn x) j)
    unfold va_up
    split
    · rw [nI_tn]
    · exact h2.2 j (by have : j < gL g + 1 := hj; omega)
/-- wipe -/
def gWipe (g : GS) : Int32 × GS := (nI (gL g), GT g 0 (gT g))
def il_X9_wipe : List (Nat × Instr × Nat) := [(0, .aload_n 0, 1), (1, .getfield 10, 3), (4, .getfield 75, 3), (7, .istore_n 1, 1), (8, .aload_n 0, 1), (9, .getfield 10, 3), (12, .iconst 0, 1), (13, .putfield 75, 3), (16, .iload_n 1, 1), (17, .ireturn, 1)]
def mt_X9_wipe : Mt := (cX9_wipe, RX9, 2, (some .int), ({ frames := 0, cells := 0, slots := 0, locals := 0 } : Room), false, none, none)
set_option maxRecDepth 100000 in
theorem dl_X9_wipe : ∀ q ∈ il_X9_wipe, decode (mt_X9_wipe).1 q.1 = .ok q.2 := by decide +kernel
def tb_X9_wipe : Tb := [(0, x_al 1 0, false),
  (1, x_gR 9 0 4, false),
  (4, x_gI 7 2 7, false),
  (7, x_is 8 1, false),
  (8, x_al 9 0, false),
  (9, x_gR 9 0 12, false),
  (12, x_c 13 (.int 0), false),
  (13, x_pI 7 2 16, false),
  (16, x_il 17 1, false),
  (17, x_rI, false)]
set_option maxRecDepth 100000 in
theorem tk_X9_wipe : TbOk (mt_X9_wipe) (tb_X9_wipe) :=
  tkc (s_aload_n (at_ dl_X9_wipe 0 (ins := .aload_n 0) rfl)) (
  tkc (s_gR (at_ dl_X9_wipe 1 (ins := .getfield 10) rfl) (by decide) (by decide) (by decide) (tg 254 (by decide +kernel) (by decide +kernel))) (
  tkc (s_gI (at_ dl_X9_wipe 2 (ins := .getfield 75) rfl) (by decide) (by decide) (by decide) (tg 107 (by decide +kernel) (by decide +kernel))) (
  tkc (s_istore_n (at_ dl_X9_wipe 3 (ins := .istore_n 1) rfl) (by decide)) (
  tkc (s_aload_n (at_ dl_X9_wipe 4 (ins := .aload_n 0) rfl)) (
  tkc (s_gR (at_ dl_X9_wipe 5 (ins := .getfield 10) rfl) (by decide) (by decide) (by decide) (tg 254 (by decide +kernel) (by decide +kernel))) (
  tkc (s_iconst (at_ dl_X9_wipe 6 (ins := .iconst 0) rfl) (by first | rfl | decide)) (
  tkc (s_pI (at_ dl_X9_wipe 7 (ins := .putfield 75) rfl) (by decide) (by decide) (by decide) (by decide) (tg 107 (by decide +kernel) (by decide +kernel))) (
  tkc (s_iload_n (at_ dl_X9_wipe 8 (ins := .iload_n 1) rfl)) (
  tkc (s_rI (at_ dl_X9_wipe 9 (ins := .ireturn) rfl) rfl) ( tk0))))))))))
theorem lf_X9_wipe : lk (tb_X9_wipe) 0 = (x_al 1 0, false) ∧ lk (tb_X9_wipe) 1 = (x_gR 9 0 4, false) ∧ lk (tb_X9_wipe) 4 = (x_gI 7 2 7, false) ∧ lk (tb_X9_wipe) 7 = (x_is 8 1, false) ∧ lk (tb_X9_wipe) 8 = (x_al 9 0, false) ∧ lk (tb_X9_wipe) 9 = (x_gR 9 0 12, false) ∧ lk (tb_X9_wipe) 12 = (x_c 13 (.int 0), false) ∧ lk (tb_X9_wipe) 13 = (x_pI 7 2 16, false) ∧ lk (tb_X9_wipe) 16 = (x_il 17 1, false) ∧ lk (tb_X9_wipe) 17 = (x_rI, false) := ⟨rfl, rfl, rfl, rfl, rfl, rfl, rfl, rfl, rfl, rfl⟩
def P_X9_wipe : PTT := fun as M R => match as with
  | [.ref k] => k = 0 ∧ ∃ g, CR M.1 M.2.1 M.2.2 g ∧ GOk g ∧ Ans M R (gWipe g).1 (gWipe g).2
  | _ => False
set_option maxRecDepth 20000 in
theorem ok_X9_wipe : Ok yX9_wipe mt_X9_wipe P_X9_wipe := by
  refine Ok.of (by decide) rfl rfl rfl rfl fun av ⟨S, I, L⟩ R hP => ?_
  unfold P_X9_wipe at hP
  split at hP
  case h_2 => exact hP.elim
  rename_i k
  obtain ⟨k, rfl⟩ : ∃ q : Nat, q = k := ⟨k, rfl⟩
  refine ⟨by simp [ent, wide, mt_X9_wipe], ?_⟩
  show J mt_X9_wipe R 0 [some (.ref k), none] [] (S, I, L)
  try dsimp only at hP
  obtain ⟨rfl, g, ⟨h1, h2, h3, h4, h5, h6, h7, h8⟩, ho, hA⟩ := hP
  refine J.of tk_X9_wipe 200 fun ρ hρ => ?_
  simp only [hρ, x_c, x_il, x_ll, x_al, x_is, x_as, x_ls, x_inc, x_ii, x_iq, x_i1, x_l2, x_lq, x_lh, x_i2l, x_l2i, x_lcmp, x_dup, x_dup2, x_pop, x_if, x_ifn, x_ic, x_icn, x_go, x_sw, swc, x_l01, x_mx, x_gI, x_gL, x_gR, x_pI, x_pZ, x_pL, x_pR, x_ia, x_za, x_aa, x_ias, x_zas, x_aas, x_fac, x_fa, x_slen, x_sa, x_ac, x_oi, x_new, x_na, x_cS, x_cV, x_cI, x_rI, x_rZ, x_rL, x_r0, pa, short, oc, lg, lset, lset2, wide, cond_true, cond_false, true_and, and_true, ↓reduceIte, Bool.false_eq_true, true_or, or_true, lf_X9_wipe, h1.1.f, h1.2.1, h1.2.1.f, h2.1]
  exact hA _ L (fun q hq => mS_n (by omega)) (fun _ _ => rfl) ⟨h1, ⟨by rw [mS_s, upd_s]; rfl, fun j hj => absurd hj (Nat.not_lt_zero j)⟩, h3.fr (fun q a b => mS_n (by omega)), h4.fr (fun q a b => mS_n (by omega)), h5.fr (fun q a b => mS_n (by omega)), h6.fr rfl rfl rfl, h7, h8.fr rfl⟩
/-- fault -/
def gFlt (g : GS) : Int32 × TS := flt (gT g) (gL g)
theorem CT.flt {I : MI} {g : GS} (h : CT I g) (ho : GOk g) : flt (fun j => tn (I 2 j)) (tn (I 1 2)) = gFlt g := by
  have hl := ho.1.1
  rw [h.1, tn_nI (n := gL g) (by omega)]
  exact fltR_congr (fun j hj => by rw [h.2 j (by omega)]; exact tn_nI (by have := ho.1.2 j (by omega); omega))
theorem CT.v {I : MI} {g : GS} (h : CT I g) (ho : GOk g) : ∃ len, TxV I len := ⟨gL g, ho.1.1, h.1, fun j hj => by rw [h.2 j hj, tn_nI (by have := ho.1.2 j hj; omega)]; exact ho.1.2 j hj⟩
def il_X9_fault : List (Nat × Instr × Nat) := [(0, .aload_n 0, 1), (1, .getfield 10, 3), (4, .invokevirtual 83, 3), (7, .ireturn, 1)]
def mt_X9_fault : Mt := (cX9_fault, RX9, 1, (some .int), ({ frames := 3, cells := 0, slots := 0, locals := 65 } : Room), false, none, none)
set_option maxRecDepth 100000 in
theorem dl_X9_fault : ∀ q ∈ il_X9_fault, decode (mt_X9_fault).1 q.1 = .ok q.2 := by decide +kernel
def tb_X9_fault : Tb := [(0, x_al 1 0, false),
  (1, x_gR 9 0 4, false),
  (4, x_cV 7 0 P_X7_firstFault 7, false),
  (7, x_rI, false)]
set_option maxRecDepth 100000 in
theorem tk_X9_fault : TbOk (mt_X9_fault) (tb_X9_fault) :=
  tkc (s_aload_n (at_ dl_X9_fault 0 (ins := .aload_n 0) rfl)) (
  tkc (s_gR (at_ dl_X9_fault 1 (ins := .getfield 10) rfl) (by decide) (by decide) (by decide) (tg 254 (by decide +kernel) (by decide +kernel))) (
  tkc (s_cV ok_X7_firstFault (at_ dl_X9_fault 2 (ins := .invokevirtual 83) rfl) (by decide) rfl (tg 305 (by decide +kernel) (by decide +kernel)) (tg 306 (by decide +kernel) (by decide +kernel)) (tg 307 (by decide +kernel) (by decide +kernel)) (tg 43 (by decide +kernel) (by decide +kernel)) (tg 308 (by decide +kernel) (by decide +kernel)) (⟨by decide, by decide, by decide +kernel⟩) (⟨by decide, by decide⟩) rfl rfl) (
  tkc (s_rI (at_ dl_X9_fault 3 (ins := .ireturn) rfl) rfl) ( tk0))))
theorem lf_X9_fault : lk (tb_X9_fault) 0 = (x_al 1 0, false) ∧ lk (tb_X9_fault) 1 = (x_gR 9 0 4, false) ∧ lk (tb_X9_fault) 4 = (x_cV 7 0 P_X7_firstFault 7, false) ∧ lk (tb_X9_fault) 7 = (x_rI, false) := ⟨rfl, rfl, rfl, rfl⟩
def P_X9_fault : PTT := fun as M R => match as with
  | [.ref k] => k = 0 ∧ ∃ g, CR M.1 M.2.1 M.2.2 g ∧ GOk g ∧ Ans M R (gFlt g).1 g
  | _ => False
set_option maxRecDepth 20000 in
theorem ok_X9_fault : Ok yX9_fault mt_X9_fault P_X9_fault := by
  refine Ok.of (by decide) rfl rfl rfl rfl fun av ⟨S, I, L⟩ R hP => ?_
  unfold P_X9_fault at hP
  split at hP
  case h_2 => exact hP.elim
  rename_i k
  obtain ⟨k, rfl⟩ : ∃ q : Nat, q = k := ⟨k, rfl⟩
  refine ⟨by simp [ent, wide, mt_X9_fault], ?_⟩
  show J mt_X9_fault R 0 [some (.ref k)] [] (S, I, L)
  try dsimp only at hP
  obtain ⟨rfl, g, hc, ho, hA⟩ := hP
  have h1 := hc.1
  have h2 := hc.2.1
  refine J.of tk_X9_fault 200 fun ρ hρ => ?_
  simp only [hρ, x_c, x_il, x_ll, x_al, x_is, x_as, x_ls, x_inc, x_ii, x_iq, x_i1, x_l2, x_lq, x_lh, x_i2l, x_l2i, x_lcmp, x_dup, x_dup2, x_pop, x_if, x_ifn, x_ic, x_icn, x_go, x_sw, swc, x_l01, x_mx, x_gI, x_gL, x_gR, x_pI, x_pZ, x_pL, x_pR, x_ia, x_za, x_aa, x_ias, x_zas, x_aas, x_fac, x_fa, x_slen, x_sa, x_ac, x_oi, x_new, x_na, x_cS, x_cV, x_cI, x_rI, x_rZ, x_rL, x_r0, pa, short, oc, lg, lset, lset2, wide, cond_true, cond_false, true_and, and_true, ↓reduceIte, Bool.false_eq_true, true_or, or_true, lf_X9_fault, h1.1.f, h1.2.1, h1.2.1.f, h1.2.2.1, eq_true (h2.v ho), P_X7_firstFault, h2.flt ho]
  exact fun I' hf _ => hA.q hc (fun q a b c d e f => hf q a b)
/-- code -/
def codeA (s : TS) : AS := (s.2.1, s.2.2.2.1, nI s.2.2.1, 0, s.2.2.2.2.2, fun _ => 0, fun _ => 0, fun _ => 0)
def gCode (g : GS) : Int32 × GS := if (gFlt g).1 = -9 then (nI (gFlt g).2.2.2.2.1, GK (GH (GA g (codeA (gFlt g).2)) 0 (gH g)) (fun _ => false) (gS g)) else (-3, g)
theorem gFlt_ok {g : GS} (ho : GOk g) (h : (gFlt g).1 = -9) : TSok (gFlt g).2 ∧ (gFlt g).2.1 = 3 := fltR_ok ho.1.1 (by omega) TSok_0 h
theorem in31 : inR 31 0 := ⟨by decide, by decide⟩
theorem in99 : inR 99 0 := ⟨by decide, by decide⟩
theorem codeA_ok {s : TS} (h : TSok s) (h3 : s.1 = 3) : AOk (codeA s) := by
  obtain ⟨q1, q2, q3, q4, q5, q6, q7⟩ := h
  have t1 := q2 (by omega)
  have t2 := q3 (by omega)
  refine ⟨⟨t1.1, t1.2, q4⟩, fun c hc => ?_, ⟨s.2.2.1, t2, rfl⟩, fun b hb => in31, fun b hb => in99, fun b hb => in31⟩
  have := q7 c
  rw [if_neg (by omega)] at this
  exact this hc
theorem SR_cd {I : MI} {s : TS} (h : RdF I s) (hm : s.2.2.2.1 ≤ 6) : SR (cdI I 5 3) 5 (codeA s) := by
  obtain ⟨r1, r2, r3, r4⟩ := h
  have e0 : cdI I 5 3 5 = upd (upd (upd (upd (I 5) 4 (I 3 2)) 5 (I 3 4)) 6 (I 3 3)) 7 0 := rfl
  have e1 : cdI I 5 3 6 = cpy (I 4) (I 6) 6 := rfl
  have e2 : cdI I 5 3 7 = zr (I 7) 9 := rfl
  have e3 : cdI I 5 3 8 = cpy (zr (I 7) 9) (I 8) 9 := rfl
  have e4 : cdI I 5 3 9 = zr (I 9) 54 := rfl
  refine ⟨by rw [e0]; exact r1, by rw [e0]; exact r3, by rw [e0]; exact r2, by rw [e0]; rfl, fun c hc => ?_, fun b hb => ?_, fun b hb => ?_, fun j hj => ?_⟩
  · show cdI I 5 3 6 c = _
    rw [e1, cpy_in (by have : c < s.2.2.2.1 := hc; omega)]; exact r4 c hc
  · show cdI I 5 3 7 b = _
    rw [e2, zr_in hb]; rfl
  · show cdI I 5 3 8 b = _
    rw [e3, cpy_in hb, zr_in hb]; rfl
  · show cdI I 5 3 9 j = _
    rw [e4, zr_in hj]; rfl
theorem cd_fr {I : MI} {q : Nat} (h : q < 5 ∨ 10 ≤ q) : cdI I 5 3 q = I q := by
  unfold cdI
  rw [beg_r (by omega) (by omega) (by omega), mS_n (by omega), cd1, mS_n (by omega), mS_n (by omega)]
theorem b2 {i : Nat} (h : i < 2) : i = 0 ∨ i = 1 := by omega
def il_X9_code : List (Nat × Instr × Nat) := [(0, .aload_n 0, 1), (1, .getfield 10, 3), (4, .invokevirtual 83, 3), (7, .bipush (-9), 2), (9, .if_icmp .eq 6, 3), (12, .bipush (-3), 2), (14, .ireturn, 1), (15, .aload_n 0, 1), (16, .getfield 19, 3), (19, .aload_n 0, 1), (20, .getfield 10, 3), (23, .getfield 87, 3), (26, .invokevirtual 91, 3), (29, .aload_n 0, 1), (30, .getfield 52, 3), (33, .invokevirtual 95, 3), (36, .iconst 0, 1), (37, .istore_n 1, 1), (38, .iload_n 1, 1), (39, .iconst 2, 1), (40, .if_icmp .ge 16, 3), (43, .aload_n 0, 1), (44, .getfield 67, 3), (47, .iload_n 1, 1), (48, .iconst 0, 1), (49, .bastore, 1), (50, .iinc 1 1, 3), (53, .goto (-15), 3), (56, .aload_n 0, 1), (57, .getfield 19, 3), (60, .getfield 98, 3), (63, .ireturn, 1)]
def mt_X9_code : Mt := (cX9_code, RX9, 2, (some .int), ({ frames := 3, cells := 0, slots := 0, locals := 65 } : Room), false, none, none)
set_option maxRecDepth 100000 in
theorem dl_X9_code : ∀ q ∈ il_X9_code, decode (mt_X9_code).1 q.1 = .ok q.2 := by decide +kernel
def tb_X9_code : Tb := [(0, x_al 1 0, false),
  (1, x_gR 9 0 4, false),
  (4, x_cV 7 0 P_X7_firstFault 7, false),
  (7, x_c 9 (.int (-9)), false),
  (9, x_ic 15 12 (fun x y : Int32 => x = y), false),
  (12, x_c 14 (.int (-3)), false),
  (14, x_rI, false),
  (15, x_al 16 0, false),
  (16, x_gR 9 1 19, false),
  (19, x_al 20 0, false),
  (20, x_gR 9 0 23, false),
  (23, x_gR 7 1 26, false),
  (26, x_cV 5 1 P_X5_becomeCode 29, false),
  (29, x_al 30 0, false),
  (30, x_gR 9 6 33, false),
  (33, x_cV 0 0 P_X0_forgetAll 36, false),
  (36, x_c 37 (.int 0), false),
  (37, x_is 38 1, false),
  (38, x_il 39 1, true),
  (39, x_c 40 (.int 2), false),
  (40, x_ic 56 43 (fun x y : Int32 => y ≤ x), false),
  (43, x_al 44 0, false),
  (44, x_gR 9 9 47, false),
  (47, x_il 48 1, false),
  (48, x_c 49 (.int 0), false),
  (49, x_zas 50, false),
  (50, x_inc 53 1 1, false),
  (53, x_go 38, false),
  (56, x_al 57 0, false),
  (57, x_gR 9 1 60, false),
  (60, x_gI 5 5 63, false),
  (63, x_rI, false)]
set_option maxRecDepth 100000 in
theorem tk_X9_code : TbOk (mt_X9_code) (tb_X9_code) :=
  tkc (s_aload_n (at_ dl_X9_code 0 (ins := .aload_n 0) rfl)) (
  tkc (s_gR (at_ dl_X9_code 1 (ins := .getfield 10) rfl) (by decide) (by decide) (by decide) (tg 254 (by decide +kernel) (by decide +kernel))) (
  tkc (s_cV ok_X7_firstFault (at_ dl_X9_code 2 (ins := .invokevirtual 83) rfl) (by decide) rfl (tg 305 (by decide +kernel) (by decide +kernel)) (tg 306 (by decide +kernel) (by decide +kernel)) (tg 307 (by decide +kernel) (by decide +kernel)) (tg 43 (by decide +kernel) (by decide +kernel)) (tg 308 (by decide +kernel) (by decide +kernel)) (⟨by decide, by decide, by decide +kernel⟩) (⟨by decide, by decide⟩) rfl rfl) (
  tkc (s_bipush (at_ dl_X9_code 3 (ins := .bipush (-9)) rfl) (by first | rfl | decide)) (
  tkc (s_ic_eq (at_ dl_X9_code 4 (ins := .if_icmp .eq 6) rfl) (by decide)) (
  tkc (s_bipush (at_ dl_X9_code 5 (ins := .bipush (-3)) rfl) (by first | rfl | decide)) (
  tkc (s_rI (at_ dl_X9_code 6 (ins := .ireturn) rfl) rfl) (
  tkc (s_aload_n (at_ dl_X9_code 7 (ins := .aload_n 0) rfl)) (
  tkc (s_gR (at_ dl_X9_code 8 (ins := .getfield 19) rfl) (by decide) (by decide) (by decide) (tg 255 (by decide +kernel) (by decide +kernel))) (
  tkc (s_aload_n (at_ dl_X9_code 9 (ins := .aload_n 0) rfl)) (
  tkc (s_gR (at_ dl_X9_code 10 (ins := .getfield 10) rfl) (by decide) (by decide) (by decide) (tg 254 (by decide +kernel) (by decide +kernel))) (
  tkc (s_gR (at_ dl_X9_code 11 (ins := .getfield 87) rfl) (by decide) (by decide) (by decide) (tg 105 (by decide +kernel) (by decide +kernel))) (
  tkc (s_cV ok_X5_becomeCode (at_ dl_X9_code 12 (ins := .invokevirtual 91) rfl) (by decide) rfl (tg 341 (by decide +kernel) (by decide +kernel)) (tg 342 (by decide +kernel) (by decide +kernel)) (tg 343 (by decide +kernel) (by decide +kernel)) (tg 45 (by decide +kernel) (by decide +kernel)) (tg 344 (by decide +kernel) (by decide +kernel)) (⟨by decide, by decide, by decide +kernel⟩) (⟨by decide, by decide⟩) rfl rfl) (
  tkc (s_aload_n (at_ dl_X9_code 13 (ins := .aload_n 0) rfl)) (
  tkc (s_gR (at_ dl_X9_code 14 (ins := .getfield 52) rfl) (by decide) (by decide) (by decide) (tg 260 (by decide +kernel) (by decide +kernel))) (
  tkc (s_cV ok_X0_forgetAll (at_ dl_X9_code 15 (ins := .invokevirtual 95) rfl) (by decide) rfl (tg 352 (by decide +kernel) (by decide +kernel)) (tg 353 (by decide +kernel) (by decide +kernel)) (tg 354 (by decide +kernel) (by decide +kernel)) (tg 49 (by decide +kernel) (by decide +kernel)) (tg 355 (by decide +kernel) (by decide +kernel)) (⟨by decide, by decide, by decide +kernel⟩) (⟨by decide, by decide⟩) rfl rfl) (
  tkc (s_iconst (at_ dl_X9_code 16 (ins := .iconst 0) rfl) (by first | rfl | decide)) (
  tkc (s_istore_n (at_ dl_X9_code 17 (ins := .istore_n 1) rfl) (by decide)) (
  tkc (s_iload_n (at_ dl_X9_code 18 (ins := .iload_n 1) rfl)) (
  tkc (s_iconst (at_ dl_X9_code 19 (ins := .iconst 2) rfl) (by first | rfl | decide)) (
  tkc (s_ic_ge (at_ dl_X9_code 20 (ins := .if_icmp .ge 16) rfl) (by decide)) (
  tkc (s_aload_n (at_ dl_X9_code 21 (ins := .aload_n 0) rfl)) (
  tkc (s_gR (at_ dl_X9_code 22 (ins := .getfield 67) rfl) (by decide) (by decide) (by decide) (tg 263 (by decide +kernel) (by decide +kernel))) (
  tkc (s_iload_n (at_ dl_X9_code 23 (ins := .iload_n 1) rfl)) (
  tkc (s_iconst (at_ dl_X9_code 24 (ins := .iconst 0) rfl) (by first | rfl | decide)) (
  tkc (s_zas (at_ dl_X9_code 25 (ins := .bastore) rfl)) (
  tkc (s_iinc (at_ dl_X9_code 26 (ins := .iinc 1 1) rfl) (by decide) (by first | rfl | decide)) (
  tkc (s_goto (at_ dl_X9_code 27 (ins := .goto (-15)) rfl) (by decide)) (
  tkc (s_aload_n (at_ dl_X9_code 28 (ins := .aload_n 0) rfl)) (
  tkc (s_gR (at_ dl_X9_code 29 (ins := .getfield 19) rfl) (by decide) (by decide) (by decide) (tg 255 (by decide +kernel) (by decide +kernel))) (
  tkc (s_gI (at_ dl_X9_code 30 (ins := .getfield 98) rfl) (by decide) (by decide) (by decide) (tg 142 (by decide +kernel) (by decide +kernel))) (
  tkc (s_rI (at_ dl_X9_code 31 (ins := .ireturn) rfl) rfl) ( tk0))))))))))))))))))))))))))))))))
theorem lf_X9_code : lk (tb_X9_code) 0 = (x_al 1 0, false) ∧ lk (tb_X9_code) 1 = (x_gR 9 0 4, false) ∧ lk (tb_X9_code) 4 = (x_cV 7 0 P_X7_firstFault 7, false) ∧ lk (tb_X9_code) 7 = (x_c 9 (.int (-9)), false) ∧ lk (tb_X9_code) 9 = (x_ic 15 12 (fun x y : Int32 => x = y), false) ∧ lk (tb_X9_code) 12 = (x_c 14 (.int (-3)), false) ∧ lk (tb_X9_code) 14 = (x_rI, false) ∧ lk (tb_X9_code) 15 = (x_al 16 0, false) ∧ lk (tb_X9_code) 16 = (x_gR 9 1 19, false) ∧ lk (tb_X9_code) 19 = (x_al 20 0, false) ∧ lk (tb_X9_code) 20 = (x_gR 9 0 23, false) ∧ lk (tb_X9_code) 23 = (x_gR 7 1 26, false) ∧ lk (tb_X9_code) 26 = (x_cV 5 1 P_X5_becomeCode 29, false) ∧ lk (tb_X9_code) 29 = (x_al 30 0, false) ∧ lk (tb_X9_code) 30 = (x_gR 9 6 33, false) ∧ lk (tb_X9_code) 33 = (x_cV 0 0 P_X0_forgetAll 36, false) ∧ lk (tb_X9_code) 36 = (x_c 37 (.int 0), false) ∧ lk (tb_X9_code) 37 = (x_is 38 1, false) ∧ lk (tb_X9_code) 38 = (x_il 39 1, true) ∧ lk (tb_X9_code) 39 = (x_c 40 (.int 2), false) ∧ lk (tb_X9_code) 40 = (x_ic 56 43 (fun x y : Int32 => y ≤ x), false) ∧ lk (tb_X9_code) 43 = (x_al 44 0, false) ∧ lk (tb_X9_code) 44 = (x_gR 9 9 47, false) ∧ lk (tb_X9_code) 47 = (x_il 48 1, false) ∧ lk (tb_X9_code) 48 = (x_c 49 (.int 0), false) ∧ lk (tb_X9_code) 49 = (x_zas 50, false) ∧ lk (tb_X9_code) 50 = (x_inc 53 1 1, false) ∧ lk (tb_X9_code) 53 = (x_go 38, false) ∧ lk (tb_X9_code) 56 = (x_al 57 0, false) ∧ lk (tb_X9_code) 57 = (x_gR 9 1 60, false) ∧ lk (tb_X9_code) 60 = (x_gI 5 5 63, false) ∧ lk (tb_X9_code) 63 = (x_rI, false) := ⟨rfl, rfl, rfl, rfl, rfl, rfl, rfl, rfl, rfl, rfl, rfl, rfl, rfl, rfl, rfl, rfl, rfl, rfl, rfl, rfl, rfl, rfl, rfl, rfl, rfl, rfl, rfl, rfl, rfl, rfl, rfl, rfl⟩
def P_X9_code : PTT := fun as M R => match as with
  | [.ref k] => k = 0 ∧ ∃ g, CR M.1 M.2.1 M.2.2 g ∧ GOk g ∧ Ans M R (gCode g).1 (gCode g).2
  | _ => False
set_option maxRecDepth 20000 in
theorem ok_X9_code : Ok yX9_code mt_X9_code P_X9_code := by
  refine Ok.of (by decide) rfl rfl rfl rfl fun av ⟨S, I, L⟩ R hP => ?_
  unfold P_X9_code at hP
  split at hP
  case h_2 => exact hP.elim
  rename_i k
  obtain ⟨k, rfl⟩ : ∃ q : Nat, q = k := ⟨k, rfl⟩
  refine ⟨by simp [ent, wide, mt_X9_code], ?_⟩
  show J mt_X9_code R 0 [some (.ref k), none] [] (S, I, L)
  try dsimp only at hP
  obtain ⟨rfl, g, hc, ho, hA⟩ := hP
  obtain ⟨h1, h2, h3, h4, h5, h6, h7, h8⟩ := id hc
  have hah : ahead2 3 5 := Nat.le_refl 5
  refine J.of tk_X9_code 200 fun ρ hρ => ?_
  simp only [hρ, x_c, x_il, x_ll, x_al, x_is, x_as, x_ls, x_inc, x_ii, x_iq, x_i1, x_l2, x_lq, x_lh, x_i2l, x_l2i, x_lcmp, x_dup, x_dup2, x_pop, x_if, x_ifn, x_ic, x_icn, x_go, x_sw, swc, x_l01, x_mx, x_gI, x_gL, x_gR, x_pI, x_pZ, x_pL, x_pR, x_ia, x_za, x_aa, x_ias, x_zas, x_aas, x_fac, x_fa, x_slen, x_sa, x_ac, x_oi, x_new, x_na, x_cS, x_cV, x_cI, x_rI, x_rZ, x_rL, x_r0, pa, short, oc, lg, lset, lset2, wide, cond_true, cond_false, true_and, and_true, ↓reduceIte, Bool.false_eq_true, true_or, or_true, lf_X9_code, h1.1.f, h1.2.1, h1.2.1.f, h1.2.2.1, h1.2.2.2.1, h1.2.2.2.2.2.2.2.2.1, eq_true (h2.v ho), P_X7_firstFault, P_X5_becomeCode, P_X0_forgetAll, h2.flt ho, hah]
  intro I' hf hr
  refine ⟨fun h9 => ⟨h1.2.2.2.1.1, h1.2.2.2.2.2.2.2.2.1.1, ?_⟩, fun h9 => (hA.e (show gCode g = (-3, g) by rw [gCode, if_neg h9])).q hc (fun q a b c d e f => hf q a b)⟩
  obtain ⟨tok, t3⟩ := gFlt_ok ho h9
  have hsr := SR_cd (hr h9) tok.2.2.2.1
  have hA' := hA.e (show gCode g = (nI (gFlt g).2.2.2.2.1, GK (GH (GA g (codeA (gFlt g).2)) 0 (gH g)) (fun _ => false) (gS g)) by rw [gCode, if_pos h9])
  have em : mS (cdI I' 5 3) 21 (upd (cdI I' 5 3 21) 2 0) 5 5 = nI (gFlt g).2.2.2.2.1 := hsr.2.1
  have hX : ∀ q, q ≠ 3 → q ≠ 4 → (q < 5 ∨ 10 ≤ q) → q ≠ 21 → mS (cdI I' 5 3) 21 (upd (cdI I' 5 3 21) 2 0) q = I q := fun q a b c d => by rw [mS_n d, cd_fr c, hf q a b]
  have h21 : mS (cdI I' 5 3) 21 (upd (cdI I' 5 3 21) 2 0) 21 = upd (I 21) 2 0 := by rw [mS_s, cd_fr (by omega), hf 21 (by omega) (by omega)]
  have hs5 : SR (mS (cdI I' 5 3) 21 (upd (cdI I' 5 3 21) 2 0)) 5 (codeA (gFlt g).2) := hsr.fr (fun q a b => mS_n (by omega))
  revert em hX h21 hs5
  generalize mS (cdI I' 5 3) 21 (upd (cdI I' 5 3 21) 2 0) = X
  intro em hX h21 hs5
  have key := up (P := fun i => J mt_X9_code R 38 [some (.ref 0), some (.int (nI i))] [] (S, mS X 107 (zr (X 107) i), L)) (n := 2) (fun i hi ih => ?_) 0 (Nat.zero_le _)
  · rw [zr_0, mS_id] at key
    exact key
  refine J.of tk_X9_code 200 fun ρ hρ => ?_
  simp only [hρ, x_c, x_il, x_ll, x_al, x_is, x_as, x_ls, x_inc, x_ii, x_iq, x_i1, x_l2, x_lq, x_lh, x_i2l, x_l2i, x_lcmp, x_dup, x_dup2, x_pop, x_if, x_ifn, x_ic, x_icn, x_go, x_sw, swc, x_l01, x_mx, x_gI, x_gL, x_gR, x_pI, x_pZ, x_pL, x_pR, x_ia, x_za, x_aa, x_ias, x_zas, x_aas, x_fac, x_fa, x_slen, x_sa, x_ac, x_oi, x_new, x_na, x_cS, x_cV, x_cI, x_rI, x_rZ, x_rL, x_r0, pa, short, oc, lg, lset, lset2, wide, cond_true, cond_false, true_and, and_true, ↓reduceIte, Bool.false_eq_true, true_or, or_true, lf_X9_code, h1.1.f, h1.2.2.2.1.f, h1.2.2.2.2.2.2.2.2.2.2.1.f, show (2 : Int32) = nI 2 by decide, nI_leI (show 2 < 2 ^ 31 by omega) (show i < 2 ^ 31 by omega), ncl (show i < 2 ^ 31 by omega), nI_1, mS_s, mS_ss, zr_s]
  refine ⟨fun h => ?_, fun h => ⟨vp_in_nI (by omega) (by omega), ih (by omega)⟩⟩
  have : i = 2 := by omega
  subst this
  rw [mS_n (show (5 : Nat) ≠ 107 by omega), em]
  obtain ⟨f, ⟨a1, a2, a3, a4⟩, -⟩ := h4
  refine hA' _ L (fun q hq => by rw [mS_n (by omega), hX q (by omega) (by omega) (by omega) (by omega)]) (fun _ _ => rfl) ⟨h1, h2.fr (by rw [mS_n (by omega), hX 1 (by omega) (by omega) (by omega) (by omega)]) (by rw [mS_n (by omega), hX 2 (by omega) (by omega) (by omega) (by omega)]), hs5.fr (fun q a b => mS_n (by omega)), ⟨f, ⟨a1, Nat.zero_le _, ?_, ?_⟩, fun j hj => absurd hj (Nat.not_lt_zero j)⟩, fun i hi => ⟨?_, fun q => absurd q Bool.false_ne_true⟩, h6.fr (by rw [mS_n (by omega), hX 93 (by omega) (by omega) (by omega) (by omega)]) (by rw [mS_n (by omega), hX 94 (by omega) (by omega) (by omega) (by omega)]) (by rw [mS_n (by omega), hX 95 (by omega) (by omega) (by omega) (by omega)]), h7, h8.fr (by rw [mS_n (by omega), hX 16 (by omega) (by omega) (by omega) (by omega)])⟩
  · rw [mS_n (by omega), h21]; exact a3
  · rw [mS_n (by omega), h21]; rfl
  · rw [mS_s, zr_in hi]; rfl
end
section
/-! ACTS of the class -/
def remG (g : GS) : GS := GH g (if gC g < 14 then gC g + 1 else 14) (fun j => if j = 0 then gA g else gH g (j - 1))
theorem CA.rem {S : Sh} {I I' : MI} {L : Nat → Nat → Int64} {g : GS} {f f' c' : Nat} (hc : CR S I L g) (ho : GOk g) (h1 : AcV I f (gC g)) (hs : ∀ j, j < gC g → SR I (23 + 5 * ((f + gC g - 1 - j) % 14)) (gH g j)) (e1 : gC g < 14 → f' = f ∧ c' = gC g + 1) (e2 : gC g = 14 → f' = (f + 1) % 14 ∧ c' = 14) (h2 : AcV I' f' c') (h3 : StCp I' (23 + 5 * ((f' + c' - 1) % 14)) I 5) (hf : ∀ q, q ≠ 21 → (q < 23 + 5 * ((f' + c' - 1) % 14) ∨ 23 + 5 * ((f' + c' - 1) % 14) + 5 ≤ q) → I' q = I q) : CR S I' L (remG g) := by
  obtain ⟨c1, c2, c3, c4, c5, c6, c7, c8⟩ := hc
  have hm := Nat.mod_lt (f' + c' - 1) (show 0 < 14 by omega)
  have h14 := h1.1
  have hC := ho.2.2.1.1
  have hcc : c' = if gC g < 14 then gC g + 1 else 14 := by
    split
    · exact (e1 (by assumption)).2
    · exact (e2 (by omega)).2
  refine ⟨c1, c2.fr (hf 1 (by omega) (by omega)) (hf 2 (by omega) (by omega)), c3.fr (fun q a b => hf q (by omega) (by omega)), ⟨f', ?_, fun j hj => ?_⟩, c5.fr (fun q a b => hf q (by omega) (by omega)), c6.fr (hf 93 (by omega) (by omega)) (hf 94 (by omega) (by omega)) (hf 95 (by omega) (by omega)), c7, c8.fr (hf 16 (by omega) (by omega))⟩
  · show AcV I' f' (if gC g < 14 then gC g + 1 else 14)
    rw [← hcc]; exact h2
  · replace hj : j < (if gC g < 14 then gC g + 1 else 14) := hj
    show SR I' (23 + 5 * ((f' + (if gC g < 14 then gC g + 1 else 14) - 1 - j) % 14)) (if j = 0 then gA g else gH g (j - 1))
    rw [← hcc] at hj ⊢
    by_cases hj0 : j = 0
    · subst hj0
      rw [if_pos rfl, Nat.sub_zero]
      exact SR.cp h3 c3 ho.2.1.1.2.2
    · rw [if_neg hj0]
      have hlt : j - 1 < gC g := by
        by_cases h : gC g < 14
        · have := (e1 h).2; omega
        · have := (e2 (by omega)).2; omega
      have hslot : (f' + c' - 1 - j) % 14 = (f + gC g - 1 - (j - 1)) % 14 := by
        by_cases h : gC g < 14
        · obtain ⟨q1, q2⟩ := e1 h; subst q1; subst q2; congr 1; omega
        · obtain ⟨q1, q2⟩ := e2 (by omega); subst q1; subst q2; omega
      have hne : (f' + c' - 1 - j) % 14 ≠ (f' + c' - 1) % 14 := by
        have : c' ≤ 14 := h2.2.1
        omega
      have hb := Nat.mod_lt (f + gC g - 1 - (j - 1)) (show 0 < 14 by omega)
      have := hs (j - 1) hlt
      rw [← hslot] at this
      rw [← hslot] at hb
      exact this.fr (fun q a b => hf q (by omega) (by omega))
theorem CR.f8r {I I' : MI} {n : Nat} (hn : n < 14) (hf : ∀ q, q ≠ 21 → (q < 23 + 5 * n ∨ 23 + 5 * n + 5 ≤ q) → I' q = I q) : fr8 I I' := fun q hq => hf q (by omega) (by omega)
/-- what stands now becomes another -/
def frN (I I' : MI) : Prop := ∀ q, q ≠ 3 → q ≠ 4 → (q < 5 ∨ 15 ≤ q) → q ≠ 15 → q ≠ 17 → q ≠ 20 → I' q = I q
theorem CR.now {S : Sh} {I I' : MI} {L : Nat → Nat → Int64} {g : GS} {a : AS} (h : CR S I L g) (hf : frN I I') (hs : SR I' 5 a) : CR S I' L (GA g a) := by
  obtain ⟨h1, h2, h3, h4, h5, h6, h7, h8⟩ := h
  exact ⟨h1, h2.fr (hf 1 (by omega) (by omega) (by omega) (by omega) (by omega) (by omega)) (hf 2 (by omega) (by omega) (by omega) (by omega) (by omega) (by omega)), hs, CA.fr (g := g) h4 (fun q a b => hf q (by omega) (by omega) (by omega) (by omega) (by omega) (by omega)), CK.fr (g := g) h5 (fun q a b => hf q (by omega) (by omega) (by omega) (by omega) (by omega) (by omega)), CE.fr (g := g) h6 (hf 93 (by omega) (by omega) (by omega) (by omega) (by omega) (by omega)) (hf 94 (by omega) (by omega) (by omega) (by omega) (by omega) (by omega)) (hf 95 (by omega) (by omega) (by omega) (by omega) (by omega) (by omega)), h7, h8.fr (hf 16 (by omega) (by omega) (by omega) (by omega) (by omega) (by omega))⟩
theorem frN.f8 {I I' : MI} (h : frN I I') : fr8 I I' := fun q hq => h q (by omega) (by omega) (by omega) (by omega) (by omega) (by omega)
theorem fr8.trans {A B C : MI} (h : fr8 A B) (h' : fr8 B C) : fr8 A C := fun q hq => (h' q hq).trans (h q hq)
/-- as the remembering is called -/
theorem CR.ac {S : Sh} {I : MI} {L : Nat → Nat → Int64} {g : GS} (hc : CR S I L g) : IsAc S ∧ IsSt S 5 := ⟨hc.1.2.2.2.2.2.2.2.2.1, hc.1.2.2.2.1⟩
theorem CR.rem {S : Sh} {I : MI} {L : Nat → Nat → Int64} {g : GS} (hc : CR S I L g) (ho : GOk g) {Q : MI → Prop} (h : ∀ I', fr8 I I' → CR S I' L (remG g) → Q I') : ∃ f c, AcV I f c ∧ ∀ I' f' c', (c < 14 → f' = f ∧ c' = c + 1) → (c = 14 → f' = (f + 1) % 14 ∧ c' = 14) → AcV I' f' c' → StCp I' (23 + 5 * ((f' + c' - 1) % 14)) I 5 → (∀ q, q ≠ 21 → (q < 23 + 5 * ((f' + c' - 1) % 14) ∨ 23 + 5 * ((f' + c' - 1) % 14) + 5 ≤ q) → I' q = I q) → Q I' := by
  obtain ⟨f, h1, hs⟩ := hc.2.2.2.1
  exact ⟨f, gC g, h1, fun I' f' c' e1 e2 h2 h3 hf => h I' (CR.f8r (Nat.mod_lt _ (by omega)) hf) (CA.rem hc ho h1 hs e1 e2 h2 h3 hf)⟩
theorem remG_A (g : GS) : gA (remG g) = gA g := rfl
/-- a bit, a check of what stands now -/
abbrev hB (g : GS) (b : Int32) : Prop := ¬ b < 0 ∧ ¬ nI (aN (gA g)) ≤ b
abbrev hC (g : GS) (c : Int32) : Prop := ¬ c < 0 ∧ ¬ nI (aM (gA g)) ≤ c
theorem hB.i {g : GS} {b : Int32} (h : hB g b) (ho : GOk g) : ∃ j, j < aN (gA g) ∧ b = nI j := in_of h ho.2.1.1.2.1 (by omega)
theorem hC.i {g : GS} {c : Int32} (h : hC g c) (ho : GOk g) : ∃ j, j < aM (gA g) ∧ c = nI j := in_of h ho.2.1.1.2.2 (by omega)
/-- level -/
def lvA (a : AS) (b : Nat) (v : Int32) : AS := (a.1, a.2.1, a.2.2.1, a.2.2.2.1, a.2.2.2.2.1, upd a.2.2.2.2.2.1 b v, a.2.2.2.2.2.2)
theorem SR.lv {I : MI} {k b : Nat} {a : AS} {v : Int32} (h : SR I k a) : SR (mS I (k + 2) (upd (I (k + 2)) b v)) k (lvA a b v) := by
  obtain ⟨g1, g2, g3, g4, g5, g6, g7⟩ := h
  have e0 : mS I (k + 2) (upd (I (k + 2)) b v) k = I k := mS_n (by omega)
  have e1 : mS I (k + 2) (upd (I (k + 2)) b v) (k + 1) = I (k + 1) := mS_n (by omega)
  have e3 : mS I (k + 2) (upd (I (k + 2)) b v) (k + 3) = I (k + 3) := mS_n (by omega)
  have e4 : mS I (k + 2) (upd (I (k + 2)) b v) (k + 4) = I (k + 4) := mS_n (by omega)
  refine ⟨by rw [e0]; exact g1, by rw [e0]; exact g2, by rw [e0]; exact g3, by rw [e0]; exact g4, by rw [e1]; exact g5, fun x hx => ?_, by rw [e3, e4]; exact g7⟩
  rw [mS_s, upd_app]
  show _ = upd (aL a) b v x
  rw [upd_app]
  split
  · rfl
  · exact g6 x hx
def gLevel (g : GS) (b v : Int32) : Int32 × GS := if ¬ hB g b then (-1, g) else if v < -31 ∨ ¬ v ≤ 31 then (-2, g) else (aL (gA g) (tn b) + 100, GA (remG g) (lvA (gA g) (tn b) v))
def il_X9_level : List (Nat × Instr × Nat) := [(0, .aload_n 0, 1), (1, .getfield 19, 3), (4, .iload_n 1, 1), (5, .invokevirtual 148, 3), (8, .ifCond .ne 5, 3), (11, .iconst (-1), 1), (12, .ireturn, 1), (13, .iload_n 2, 1), (14, .bipush (-31), 2), (16, .if_icmp .lt 9, 3), (19, .iload_n 2, 1), (20, .bipush 31, 2), (22, .if_icmp .le 6, 3), (25, .bipush (-2), 2), (27, .ireturn, 1), (28, .aload_n 0, 1), (29, .getfield 52, 3), (32, .aload_n 0, 1), (33, .getfield 19, 3), (36, .invokevirtual 175, 3), (39, .aload_n 0, 1), (40, .getfield 19, 3), (43, .getfield 152, 3), (46, .iload_n 1, 1), (47, .iaload, 1), (48, .istore_n 3, 1), (49, .aload_n 0, 1), (50, .getfield 19, 3), (53, .getfield 152, 3), (56, .iload_n 1, 1), (57, .iload_n 2, 1), (58, .iastore, 1), (59, .iload_n 3, 1), (60, .bipush 100, 2), (62, .iadd, 1), (63, .ireturn, 1)]
def mt_X9_level : Mt := (cX9_level, RX9, 4, (some .int), ({ frames := 3, cells := 0, slots := 0, locals := 60 } : Room), false, none, none)
set_option maxRecDepth 100000 in
theorem dl_X9_level : ∀ q ∈ il_X9_level, decode (mt_X9_level).1 q.1 = .ok q.2 := by decide +kernel
def tb_X9_level : Tb := [(0, x_al 1 0, false),
  (1, x_gR 9 1 4, false),
  (4, x_il 5 1, false),
  (5, x_cV 5 1 P_X5_hasBit 8, false),
  (8, x_ifn 13 11 (fun x : Int32 => x = 0), false),
  (11, x_c 12 (.int (-1)), false),
  (12, x_rI, false),
  (13, x_il 14 2, false),
  (14, x_c 16 (.int (-31)), false),
  (16, x_ic 25 19 (fun x y : Int32 => x < y), false),
  (19, x_il 20 2, false),
  (20, x_c 22 (.int 31), false),
  (22, x_ic 28 25 (fun x y : Int32 => x ≤ y), false),
  (25, x_c 27 (.int (-2)), false),
  (27, x_rI, false),
  (28, x_al 29 0, false),
  (29, x_gR 9 6 32, false),
  (32, x_al 33 0, false),
  (33, x_gR 9 1 36, false),
  (36, x_cV 0 1 P_X0_remember 39, false),
  (39, x_al 40 0, false),
  (40, x_gR 9 1 43, false),
  (43, x_gR 5 1 46, false),
  (46, x_il 47 1, false),
  (47, x_ia 48, false),
  (48, x_is 49 3, false),
  (49, x_al 50 0, false),
  (50, x_gR 9 1 53, false),
  (53, x_gR 5 1 56, false),
  (56, x_il 57 1, false),
  (57, x_il 58 2, false),
  (58, x_ias 59, false),
  (59, x_il 60 3, false),
  (60, x_c 62 (.int 100), false),
  (62, x_ii 63 (fun x y : Int32 => x + y), false),
  (63, x_rI, false)]
set_option maxRecDepth 100000 in
theorem tk_X9_level : TbOk (mt_X9_level) (tb_X9_level) :=
  tkc (s_aload_n (at_ dl_X9_level 0 (ins := .aload_n 0) rfl)) (
  tkc (s_gR (at_ dl_X9_level 1 (ins := .getfield 19) rfl) (by decide) (by decide) (by decide) (tg 255 (by decide +kernel) (by decide +kernel))) (
  tkc (s_iload_n (at_ dl_X9_level 2 (ins := .iload_n 1) rfl)) (
  tkc (s_cV ok_X5_hasBit (at_ dl_X9_level 3 (ins := .invokevirtual 148) rfl) (by decide) rfl (tg 480 (by decide +kernel) (by decide +kernel)) (tg 396 (by decide +kernel) (by decide +kernel)) (tg 397 (by decide +kernel) (by decide +kernel)) (tg 45 (by decide +kernel) (by decide +kernel)) (tg 398 (by decide +kernel) (by decide +kernel)) (⟨by decide, by decide, by decide +kernel⟩) (⟨by decide, by decide⟩) rfl rfl) (
  tkc (s_if_ne (at_ dl_X9_level 4 (ins := .ifCond .ne 5) rfl) (by decide)) (
  tkc (s_iconst (at_ dl_X9_level 5 (ins := .iconst (-1)) rfl) (by first | rfl | decide)) (
  tkc (s_rI (at_ dl_X9_level 6 (ins := .ireturn) rfl) rfl) (
  tkc (s_iload_n (at_ dl_X9_level 7 (ins := .iload_n 2) rfl)) (
  tkc (s_bipush (at_ dl_X9_level 8 (ins := .bipush (-31)) rfl) (by first | rfl | decide)) (
  tkc (s_ic_lt (at_ dl_X9_level 9 (ins := .if_icmp .lt 9) rfl) (by decide)) (
  tkc (s_iload_n (at_ dl_X9_level 10 (ins := .iload_n 2) rfl)) (
  tkc (s_bipush (at_ dl_X9_level 11 (ins := .bipush 31) rfl) (by first | rfl | decide)) (
  tkc (s_ic_le (at_ dl_X9_level 12 (ins := .if_icmp .le 6) rfl) (by decide)) (
  tkc (s_bipush (at_ dl_X9_level 13 (ins := .bipush (-2)) rfl) (by first | rfl | decide)) (
  tkc (s_rI (at_ dl_X9_level 14 (ins := .ireturn) rfl) rfl) (
  tkc (s_aload_n (at_ dl_X9_level 15 (ins := .aload_n 0) rfl)) (
  tkc (s_gR (at_ dl_X9_level 16 (ins := .getfield 52) rfl) (by decide) (by decide) (by decide) (tg 260 (by decide +kernel) (by decide +kernel))) (
  tkc (s_aload_n (at_ dl_X9_level 17 (ins := .aload_n 0) rfl)) (
  tkc (s_gR (at_ dl_X9_level 18 (ins := .getfield 19) rfl) (by decide) (by decide) (by decide) (tg 255 (by decide +kernel) (by decide +kernel))) (
  tkc (s_cV ok_X0_remember (at_ dl_X9_level 19 (ins := .invokevirtual 175) rfl) (by decide) rfl (tg 496 (by decide +kernel) (by decide +kernel)) (tg 497 (by decide +kernel) (by decide +kernel)) (tg 498 (by decide +kernel) (by decide +kernel)) (tg 49 (by decide +kernel) (by decide +kernel)) (tg 499 (by decide +kernel) (by decide +kernel)) (⟨by decide, by decide, by decide +kernel⟩) (⟨by decide, by decide⟩) rfl rfl) (
  tkc (s_aload_n (at_ dl_X9_level 20 (ins := .aload_n 0) rfl)) (
  tkc (s_gR (at_ dl_X9_level 21 (ins := .getfield 19) rfl) (by decide) (by decide) (by decide) (tg 255 (by decide +kernel) (by decide +kernel))) (
  tkc (s_gR (at_ dl_X9_level 22 (ins := .getfield 152) rfl) (by decide) (by decide) (by decide) (tg 127 (by decide +kernel) (by decide +kernel))) (
  tkc (s_iload_n (at_ dl_X9_level 23 (ins := .iload_n 1) rfl)) (
  tkc (s_ia (at_ dl_X9_level 24 (ins := .iaload) rfl)) (
  tkc (s_istore_n (at_ dl_X9_level 25 (ins := .istore_n 3) rfl) (by decide)) (
  tkc (s_aload_n (at_ dl_X9_level 26 (ins := .aload_n 0) rfl)) (
  tkc (s_gR (at_ dl_X9_level 27 (ins := .getfield 19) rfl) (by decide) (by decide) (by decide) (tg 255 (by decide +kernel) (by decide +kernel))) (
  tkc (s_gR (at_ dl_X9_level 28 (ins := .getfield 152) rfl) (by decide) (by decide) (by decide) (tg 127 (by decide +kernel) (by decide +kernel))) (
  tkc (s_iload_n (at_ dl_X9_level 29 (ins := .iload_n 1) rfl)) (
  tkc (s_iload_n (at_ dl_X9_level 30 (ins := .iload_n 2) rfl)) (
  tkc (s_ias (at_ dl_X9_level 31 (ins := .iastore) rfl)) (
  tkc (s_iload_n (at_ dl_X9_level 32 (ins := .iload_n 3) rfl)) (
  tkc (s_bipush (at_ dl_X9_level 33 (ins := .bipush 100) rfl) (by first | rfl | decide)) (
  tkc (s_iadd (at_ dl_X9_level 34 (ins := .iadd) rfl)) (
  tkc (s_rI (at_ dl_X9_level 35 (ins := .ireturn) rfl) rfl) ( tk0))))))))))))))))))))))))))))))))))))
theorem lf_X9_level : lk (tb_X9_level) 0 = (x_al 1 0, false) ∧ lk (tb_X9_level) 1 = (x_gR 9 1 4, false) ∧ lk (tb_X9_level) 4 = (x_il 5 1, false) ∧ lk (tb_X9_level) 5 = (x_cV 5 1 P_X5_hasBit 8, false) ∧ lk (tb_X9_level) 8 = (x_ifn 13 11 (fun x : Int32 => x = 0), false) ∧ lk (tb_X9_level) 11 = (x_c 12 (.int (-1)), false) ∧ lk (tb_X9_level) 12 = (x_rI, false) ∧ lk (tb_X9_level) 13 = (x_il 14 2, false) ∧ lk (tb_X9_level) 14 = (x_c 16 (.int (-31)), false) ∧ lk (tb_X9_level) 16 = (x_ic 25 19 (fun x y : Int32 => x < y), false) ∧ lk (tb_X9_level) 19 = (x_il 20 2, false) ∧ lk (tb_X9_level) 20 = (x_c 22 (.int 31), false) ∧ lk (tb_X9_level) 22 = (x_ic 28 25 (fun x y : Int32 => x ≤ y), false) ∧ lk (tb_X9_level) 25 = (x_c 27 (.int (-2)), false) ∧ lk (tb_X9_level) 27 = (x_rI, false) ∧ lk (tb_X9_level) 28 = (x_al 29 0, false) ∧ lk (tb_X9_level) 29 = (x_gR 9 6 32, false) ∧ lk (tb_X9_level) 32 = (x_al 33 0, false) ∧ lk (tb_X9_level) 33 = (x_gR 9 1 36, false) ∧ lk (tb_X9_level) 36 = (x_cV 0 1 P_X0_remember 39, false) ∧ lk (tb_X9_level) 39 = (x_al 40 0, false) ∧ lk (tb_X9_level) 40 = (x_gR 9 1 43, false) ∧ lk (tb_X9_level) 43 = (x_gR 5 1 46, false) ∧ lk (tb_X9_level) 46 = (x_il 47 1, false) ∧ lk (tb_X9_level) 47 = (x_ia 48, false) ∧ lk (tb_X9_level) 48 = (x_is 49 3, false) ∧ lk (tb_X9_level) 49 = (x_al 50 0, false) ∧ lk (tb_X9_level) 50 = (x_gR 9 1 53, false) ∧ lk (tb_X9_level) 53 = (x_gR 5 1 56, false) ∧ lk (tb_X9_level) 56 = (x_il 57 1, false) ∧ lk (tb_X9_level) 57 = (x_il 58 2, false) ∧ lk (tb_X9_level) 58 = (x_ias 59, false) ∧ lk (tb_X9_level) 59 = (x_il 60 3, false) ∧ lk (tb_X9_level) 60 = (x_c 62 (.int 100), false) ∧ lk (tb_X9_level) 62 = (x_ii 63 (fun x y : Int32 => x + y), false) ∧ lk (tb_X9_level) 63 = (x_rI, false) := ⟨rfl, rfl, rfl, rfl, rfl, rfl, rfl, rfl, rfl, rfl, rfl, rfl, rfl, rfl, rfl, rfl, rfl, rfl, rfl, rfl, rfl, rfl, rfl, rfl, rfl, rfl, rfl, rfl, rfl, rfl, rfl, rfl, rfl, rfl, rfl, rfl⟩
def P_X9_level : PTT := fun as M R => match as with
  | [.ref k, .int b, .int v] => k = 0 ∧ ∃ g, CR M.1 M.2.1 M.2.2 g ∧ GOk g ∧ Ans M R (gLevel g b v).1 (gLevel g b v).2
  | _ => False
set_option maxRecDepth 20000 in
theorem ok_X9_level : Ok yX9_level mt_X9_level P_X9_level := by
  refine Ok.of (by decide) rfl rfl rfl rfl fun av ⟨S, I, L⟩ R hP => ?_
  unfold P_X9_level at hP
  split at hP
  case h_2 => exact hP.elim
  rename_i k b v
  obtain ⟨k, rfl⟩ : ∃ q : Nat, q = k := ⟨k, rfl⟩
  refine ⟨by simp [ent, wide, mt_X9_level], ?_⟩
  show J mt_X9_level R 0 [some (.ref k), some (.int b), some (.int v), none] [] (S, I, L)
  try dsimp only at hP
  obtain ⟨rfl, g, hc, ho, hA⟩ := hP
  have h1 := hc.1
  have en : I 5 4 = nI (aN (gA g)) := hc.2.2.1.1
  have h9 := ho.2.1.1
  refine J.of tk_X9_level 200 fun ρ hρ => ?_
  simp only [hρ, x_c, x_il, x_ll, x_al, x_is, x_as, x_ls, x_inc, x_ii, x_iq, x_i1, x_l2, x_lq, x_lh, x_i2l, x_l2i, x_lcmp, x_dup, x_dup2, x_pop, x_if, x_ifn, x_ic, x_icn, x_go, x_sw, swc, x_l01, x_mx, x_gI, x_gL, x_gR, x_pI, x_pZ, x_pL, x_pR, x_ia, x_za, x_aa, x_ias, x_zas, x_aas, x_fac, x_fa, x_slen, x_sa, x_ac, x_oi, x_new, x_na, x_cS, x_cV, x_cI, x_rI, x_rZ, x_rL, x_r0, pa, short, oc, lg, lset, lset2, wide, cond_true, cond_false, true_and, and_true, ↓reduceIte, Bool.false_eq_true, true_or, or_true, lf_X9_level, h1.1.f, hc.ac, hc.ac.1.f, hc.ac.2.f, P_X5_hasBit, P_X0_remember, en, bI_0, Classical.not_not]
  refine ⟨fun hb => ⟨fun h31 => (hA.e (by rw [gLevel, if_neg (fun q => q hb), if_pos (.inl h31)])).s hc, fun h31 => ⟨fun h32 => CR.rem hc ho fun I' hf8 hc' => ?_, fun h32 => (hA.e (by rw [gLevel, if_neg (fun q => q hb), if_pos (.inr h32)])).s hc⟩⟩, fun hb => (hA.e (by rw [gLevel, if_pos hb])).s hc⟩
  have hA' := hA.e (show gLevel g b v = (aL (gA g) (tn b) + 100, GA (remG g) (lvA (gA g) (tn b) v)) by rw [gLevel, if_neg (fun q => q hb), if_neg (fun q => q.elim h31 (fun r => r h32))])
  obtain ⟨j, hj, rfl⟩ := hB.i (g := g) hb ho
  have hv : vp_in (nI j) 9 := vp_in_nI (by omega) (by omega)
  rw [tn_nI (n := j) (by omega)] at hA'
  rw [ncl (show j < 2 ^ 31 by omega), hc'.2.2.1.2.2.2.2.2.1 j (by omega)]
  exact ⟨hv, hv, hA' _ L (hf8.trans (fun q hq => mS_n (by omega))) (fun _ _ => rfl) (hc'.now (fun q a b c d e f => mS_n (by omega)) hc'.2.2.1.lv)⟩
/-- begin -/
def gBegin (g : GS) : Int32 × GS := (nI (wdA (begA (gA g))), GA (remG g) (begA (gA g)))
theorem SR.wdq {I : MI} {k : Nat} {a : AS} (h : SR I k a) (ho : AOk a) : ∃ n, n ≤ 9 ∧ I k 4 = nI n := ⟨aN a, ho.1.2.1, h.1⟩
def il_X9_begin : List (Nat × Instr × Nat) := [(0, .aload_n 0, 1), (1, .getfield 52, 3), (4, .aload_n 0, 1), (5, .getfield 19, 3), (8, .invokevirtual 175, 3), (11, .aload_n 0, 1), (12, .getfield 19, 3), (15, .invokevirtual 178, 3), (18, .aload_n 0, 1), (19, .getfield 19, 3), (22, .invokevirtual 110, 3), (25, .ireturn, 1)]
def mt_X9_begin : Mt := (cX9_begin, RX9, 1, (some .int), ({ frames := 3, cells := 0, slots := 0, locals := 60 } : Room), false, none, none)
set_option maxRecDepth 100000 in
theorem dl_X9_begin : ∀ q ∈ il_X9_begin, decode (mt_X9_begin).1 q.1 = .ok q.2 := by decide +kernel
def tb_X9_begin : Tb := [(0, x_al 1 0, false),
  (1, x_gR 9 6 4, false),
  (4, x_al 5 0, false),
  (5, x_gR 9 1 8, false),
  (8, x_cV 0 1 P_X0_remember 11, false),
  (11, x_al 12 0, false),
  (12, x_gR 9 1 15, false),
  (15, x_cV 5 0 P_X5_beginAnew 18, false),
  (18, x_al 19 0, false),
  (19, x_gR 9 1 22, false),
  (22, x_cV 5 0 P_X5_word 25, false),
  (25, x_rI, false)]
set_option maxRecDepth 100000 in
theorem tk_X9_begin : TbOk (mt_X9_begin) (tb_X9_begin) :=
  tkc (s_aload_n (at_ dl_X9_begin 0 (ins := .aload_n 0) rfl)) (
  tkc (s_gR (at_ dl_X9_begin 1 (ins := .getfield 52) rfl) (by decide) (by decide) (by decide) (tg 260 (by decide +kernel) (by decide +kernel))) (
  tkc (s_aload_n (at_ dl_X9_begin 2 (ins := .aload_n 0) rfl)) (
  tkc (s_gR (at_ dl_X9_begin 3 (ins := .getfield 19) rfl) (by decide) (by decide) (by decide) (tg 255 (by decide +kernel) (by decide +kernel))) (
  tkc (s_cV ok_X0_remember (at_ dl_X9_begin 4 (ins := .invokevirtual 175) rfl) (by decide) rfl (tg 496 (by decide +kernel) (by decide +kernel)) (tg 497 (by decide +kernel) (by decide +kernel)) (tg 498 (by decide +kernel) (by decide +kernel)) (tg 49 (by decide +kernel) (by decide +kernel)) (tg 499 (by decide +kernel) (by decide +kernel)) (⟨by decide, by decide, by decide +kernel⟩) (⟨by decide, by decide⟩) rfl rfl) (
  tkc (s_aload_n (at_ dl_X9_begin 5 (ins := .aload_n 0) rfl)) (
  tkc (s_gR (at_ dl_X9_begin 6 (ins := .getfield 19) rfl) (by decide) (by decide) (by decide) (tg 255 (by decide +kernel) (by decide +kernel))) (
  tkc (s_cV ok_X5_beginAnew (at_ dl_X9_begin 7 (ins := .invokevirtual 178) rfl) (by decide) rfl (tg 505 (by decide +kernel) (by decide +kernel)) (tg 349 (by decide +kernel) (by decide +kernel)) (tg 350 (by decide +kernel) (by decide +kernel)) (tg 45 (by decide +kernel) (by decide +kernel)) (tg 351 (by decide +kernel) (by decide +kernel)) (⟨by decide, by decide, by decide +kernel⟩) (⟨by decide, by decide⟩) rfl rfl) (
  tkc (s_aload_n (at_ dl_X9_begin 8 (ins := .aload_n 0) rfl)) (
  tkc (s_gR (at_ dl_X9_begin 9 (ins := .getfield 19) rfl) (by decide) (by decide) (by decide) (tg 255 (by decide +kernel) (by decide +kernel))) (
  tkc (s_cV ok_X5_word (at_ dl_X9_begin 10 (ins := .invokevirtual 110) rfl) (by decide) rfl (tg 360 (by decide +kernel) (by decide +kernel)) (tg 361 (by decide +kernel) (by decide +kernel)) (tg 362 (by decide +kernel) (by decide +kernel)) (tg 45 (by decide +kernel) (by decide +kernel)) (tg 363 (by decide +kernel) (by decide +kernel)) (⟨by decide, by decide, by decide +kernel⟩) (⟨by decide, by decide⟩) rfl rfl) (
  tkc (s_rI (at_ dl_X9_begin 11 (ins := .ireturn) rfl) rfl) ( tk0))))))))))))
theorem lf_X9_begin : lk (tb_X9_begin) 0 = (x_al 1 0, false) ∧ lk (tb_X9_begin) 1 = (x_gR 9 6 4, false) ∧ lk (tb_X9_begin) 4 = (x_al 5 0, false) ∧ lk (tb_X9_begin) 5 = (x_gR 9 1 8, false) ∧ lk (tb_X9_begin) 8 = (x_cV 0 1 P_X0_remember 11, false) ∧ lk (tb_X9_begin) 11 = (x_al 12 0, false) ∧ lk (tb_X9_begin) 12 = (x_gR 9 1 15, false) ∧ lk (tb_X9_begin) 15 = (x_cV 5 0 P_X5_beginAnew 18, false) ∧ lk (tb_X9_begin) 18 = (x_al 19 0, false) ∧ lk (tb_X9_begin) 19 = (x_gR 9 1 22, false) ∧ lk (tb_X9_begin) 22 = (x_cV 5 0 P_X5_word 25, false) ∧ lk (tb_X9_begin) 25 = (x_rI, false) := ⟨rfl, rfl, rfl, rfl, rfl, rfl, rfl, rfl, rfl, rfl, rfl, rfl⟩
def P_X9_begin : PTT := fun as M R => match as with
  | [.ref k] => k = 0 ∧ ∃ g, CR M.1 M.2.1 M.2.2 g ∧ GOk g ∧ Ans M R (gBegin g).1 (gBegin g).2
  | _ => False
set_option maxRecDepth 20000 in
theorem ok_X9_begin : Ok yX9_begin mt_X9_begin P_X9_begin := by
  refine Ok.of (by decide) rfl rfl rfl rfl fun av ⟨S, I, L⟩ R hP => ?_
  unfold P_X9_begin at hP
  split at hP
  case h_2 => exact hP.elim
  rename_i k
  obtain ⟨k, rfl⟩ : ∃ q : Nat, q = k := ⟨k, rfl⟩
  refine ⟨by simp [ent, wide, mt_X9_begin], ?_⟩
  show J mt_X9_begin R 0 [some (.ref k)] [] (S, I, L)
  try dsimp only at hP
  obtain ⟨rfl, g, hc, ho, hA⟩ := hP
  have h1 := hc.1
  refine J.of tk_X9_begin 200 fun ρ hρ => ?_
  simp only [hρ, x_c, x_il, x_ll, x_al, x_is, x_as, x_ls, x_inc, x_ii, x_iq, x_i1, x_l2, x_lq, x_lh, x_i2l, x_l2i, x_lcmp, x_dup, x_dup2, x_pop, x_if, x_ifn, x_ic, x_icn, x_go, x_sw, swc, x_l01, x_mx, x_gI, x_gL, x_gR, x_pI, x_pZ, x_pL, x_pR, x_ia, x_za, x_aa, x_ias, x_zas, x_aas, x_fac, x_fa, x_slen, x_sa, x_ac, x_oi, x_new, x_na, x_cS, x_cV, x_cI, x_rI, x_rZ, x_rL, x_r0, pa, short, oc, lg, lset, lset2, wide, cond_true, cond_false, true_and, and_true, ↓reduceIte, Bool.false_eq_true, true_or, or_true, lf_X9_begin, h1.1.f, hc.ac, hc.ac.1.f, hc.ac.2.f, P_X5_beginAnew, P_X5_word, P_X0_remember]
  refine CR.rem hc ho fun I' hf8 hc' => ?_
  have hs := hc'.2.2.1.beg
  have hb := begA_ok ho.2.1
  refine ⟨hs.wdq hb, ?_⟩
  rw [hs.wd hb]
  exact hA _ L (hf8.trans (fun q hq => beg_r (by omega) (by omega) (by omega))) (fun _ _ => rfl) (hc'.now (fun q a b c d e f => beg_r (by omega) (by omega) (by omega)) hs)
/-- round -/
def gRound (g : GS) (x : Int32) : Int32 × GS := if x < 1 ∨ ¬ x ≤ 99 then (-2, g) else (nI (ones9 (opA (itA (tn x) (gA g)))), GA (remG g) (itA (tn x) (gA g)))
theorem le99 {x : Int32} (h1 : ¬ x < 1) (h2 : x ≤ 99) : ∃ r, 1 ≤ r ∧ r ≤ 99 ∧ x = nI r := by
  rcases pk_ix x (n := 100) (by omega) with h | h | ⟨j, hj, rfl⟩
  · exact absurd (Int32.lt_trans h (by decide)) h1
  · exact absurd (Int32.le_trans h h2) (by decide)
  · refine ⟨j, ?_, by omega, rfl⟩
    rw [one_nI, nI_ltI (by omega) (by omega)] at h1
    omega
theorem SR.q {I : MI} {k : Nat} {a : AS} (h : SR I k a) (ho : AOk a) : SVq I k := (h.SV ho).q
def il_X9_round : List (Nat × Instr × Nat) := [(0, .iload_n 1, 1), (1, .iconst 1, 1), (2, .if_icmp .lt 9, 3), (5, .iload_n 1, 1), (6, .bipush 99, 2), (8, .if_icmp .le 6, 3), (11, .bipush (-2), 2), (13, .ireturn, 1), (14, .aload_n 0, 1), (15, .getfield 52, 3), (18, .aload_n 0, 1), (19, .getfield 19, 3), (22, .invokevirtual 175, 3), (25, .aload_n 0, 1), (26, .getfield 29, 3), (29, .aload_n 0, 1), (30, .getfield 19, 3), (33, .iload_n 1, 1), (34, .invokevirtual 181, 3), (37, .aload_n 0, 1), (38, .getfield 19, 3), (41, .invokevirtual 113, 3), (44, .invokestatic 185, 3), (47, .ireturn, 1)]
def mt_X9_round : Mt := (cX9_round, RX9, 2, (some .int), ({ frames := 4, cells := 0, slots := 0, locals := 101 } : Room), false, none, none)
set_option maxRecDepth 100000 in
theorem dl_X9_round : ∀ q ∈ il_X9_round, decode (mt_X9_round).1 q.1 = .ok q.2 := by decide +kernel
def tb_X9_round : Tb := [(0, x_il 1 1, false),
  (1, x_c 2 (.int 1), false),
  (2, x_ic 11 5 (fun x y : Int32 => x < y), false),
  (5, x_il 6 1, false),
  (6, x_c 8 (.int 99), false),
  (8, x_ic 14 11 (fun x y : Int32 => x ≤ y), false),
  (11, x_c 13 (.int (-2)), false),
  (13, x_rI, false),
  (14, x_al 15 0, false),
  (15, x_gR 9 6 18, false),
  (18, x_al 19 0, false),
  (19, x_gR 9 1 22, false),
  (22, x_cV 0 1 P_X0_remember 25, false),
  (25, x_al 26 0, false),
  (26, x_gR 9 3 29, false),
  (29, x_al 30 0, false),
  (30, x_gR 9 1 33, false),
  (33, x_il 34 1, false),
  (34, x_cV 1 2 P_X1_runRounds 37, false),
  (37, x_al 38 0, false),
  (38, x_gR 9 1 41, false),
  (41, x_cV 5 0 P_X5_open 44, false),
  (44, x_cS 1 P_J6_bitCount_0f7a4 47, false),
  (47, x_rI, false)]
set_option maxRecDepth 100000 in
theorem tk_X9_round : TbOk (mt_X9_round) (tb_X9_round) :=
  tkc (s_iload_n (at_ dl_X9_round 0 (ins := .iload_n 1) rfl)) (
  tkc (s_iconst (at_ dl_X9_round 1 (ins := .iconst 1) rfl) (by first | rfl | decide)) (
  tkc (s_ic_lt (at_ dl_X9_round 2 (ins := .if_icmp .lt 9) rfl) (by decide)) (
  tkc (s_iload_n (at_ dl_X9_round 3 (ins := .iload_n 1) rfl)) (
  tkc (s_bipush (at_ dl_X9_round 4 (ins := .bipush 99) rfl) (by first | rfl | decide)) (
  tkc (s_ic_le (at_ dl_X9_round 5 (ins := .if_icmp .le 6) rfl) (by decide)) (
  tkc (s_bipush (at_ dl_X9_round 6 (ins := .bipush (-2)) rfl) (by first | rfl | decide)) (
  tkc (s_rI (at_ dl_X9_round 7 (ins := .ireturn) rfl) rfl) (
  tkc (s_aload_n (at_ dl_X9_round 8 (ins := .aload_n 0) rfl)) (
  tkc (s_gR (at_ dl_X9_round 9 (ins := .getfield 52) rfl) (by decide) (by decide) (by decide) (tg 260 (by decide +kernel) (by decide +kernel))) (
  tkc (s_aload_n (at_ dl_X9_round 10 (ins := .aload_n 0) rfl)) (
  tkc (s_gR (at_ dl_X9_round 11 (ins := .getfield 19) rfl) (by decide) (by decide) (by decide) (tg 255 (by decide +kernel) (by decide +kernel))) (
  tkc (s_cV ok_X0_remember (at_ dl_X9_round 12 (ins := .invokevirtual 175) rfl) (by decide) rfl (tg 496 (by decide +kernel) (by decide +kernel)) (tg 497 (by decide +kernel) (by decide +kernel)) (tg 498 (by decide +kernel) (by decide +kernel)) (tg 49 (by decide +kernel) (by decide +kernel)) (tg 499 (by decide +kernel) (by decide +kernel)) (⟨by decide, by decide, by decide +kernel⟩) (⟨by decide, by decide⟩) rfl rfl) (
  tkc (s_aload_n (at_ dl_X9_round 13 (ins := .aload_n 0) rfl)) (
  tkc (s_gR (at_ dl_X9_round 14 (ins := .getfield 29) rfl) (by decide) (by decide) (by decide) (tg 257 (by decide +kernel) (by decide +kernel))) (
  tkc (s_aload_n (at_ dl_X9_round 15 (ins := .aload_n 0) rfl)) (
  tkc (s_gR (at_ dl_X9_round 16 (ins := .getfield 19) rfl) (by decide) (by decide) (by decide) (tg 255 (by decide +kernel) (by decide +kernel))) (
  tkc (s_iload_n (at_ dl_X9_round 17 (ins := .iload_n 1) rfl)) (
  tkc (s_cV ok_X1_runRounds (at_ dl_X9_round 18 (ins := .invokevirtual 181) rfl) (by decide) rfl (tg 510 (by decide +kernel) (by decide +kernel)) (tg 511 (by decide +kernel) (by decide +kernel)) (tg 512 (by decide +kernel) (by decide +kernel)) (tg 46 (by decide +kernel) (by decide +kernel)) (tg 513 (by decide +kernel) (by decide +kernel)) (⟨by decide, by decide, by decide +kernel⟩) (⟨by decide, by decide⟩) rfl rfl) (
  tkc (s_aload_n (at_ dl_X9_round 19 (ins := .aload_n 0) rfl)) (
  tkc (s_gR (at_ dl_X9_round 20 (ins := .getfield 19) rfl) (by decide) (by decide) (by decide) (tg 255 (by decide +kernel) (by decide +kernel))) (
  tkc (s_cV ok_X5_open (at_ dl_X9_round 21 (ins := .invokevirtual 113) rfl) (by decide) rfl (tg 364 (by decide +kernel) (by decide +kernel)) (tg 365 (by decide +kernel) (by decide +kernel)) (tg 366 (by decide +kernel) (by decide +kernel)) (tg 45 (by decide +kernel) (by decide +kernel)) (tg 367 (by decide +kernel) (by decide +kernel)) (⟨by decide, by decide, by decide +kernel⟩) (⟨by decide, by decide⟩) rfl rfl) (
  tkc (s_cS ok_J6_bitCount_0f7a4 (at_ dl_X9_round 22 (ins := .invokestatic 185) rfl) (tg 514 (by decide +kernel) (by decide +kernel)) (tg 374 (by decide +kernel) (by decide +kernel)) (tg 53 (by decide +kernel) (by decide +kernel)) (tg 375 (by decide +kernel) (by decide +kernel)) (⟨by decide, by decide, by decide +kernel⟩) (⟨by decide, by decide⟩) rfl rfl) (
  tkc (s_rI (at_ dl_X9_round 23 (ins := .ireturn) rfl) rfl) ( tk0))))))))))))))))))))))))
theorem lf_X9_round : lk (tb_X9_round) 0 = (x_il 1 1, false) ∧ lk (tb_X9_round) 1 = (x_c 2 (.int 1), false) ∧ lk (tb_X9_round) 2 = (x_ic 11 5 (fun x y : Int32 => x < y), false) ∧ lk (tb_X9_round) 5 = (x_il 6 1, false) ∧ lk (tb_X9_round) 6 = (x_c 8 (.int 99), false) ∧ lk (tb_X9_round) 8 = (x_ic 14 11 (fun x y : Int32 => x ≤ y), false) ∧ lk (tb_X9_round) 11 = (x_c 13 (.int (-2)), false) ∧ lk (tb_X9_round) 13 = (x_rI, false) ∧ lk (tb_X9_round) 14 = (x_al 15 0, false) ∧ lk (tb_X9_round) 15 = (x_gR 9 6 18, false) ∧ lk (tb_X9_round) 18 = (x_al 19 0, false) ∧ lk (tb_X9_round) 19 = (x_gR 9 1 22, false) ∧ lk (tb_X9_round) 22 = (x_cV 0 1 P_X0_remember 25, false) ∧ lk (tb_X9_round) 25 = (x_al 26 0, false) ∧ lk (tb_X9_round) 26 = (x_gR 9 3 29, false) ∧ lk (tb_X9_round) 29 = (x_al 30 0, false) ∧ lk (tb_X9_round) 30 = (x_gR 9 1 33, false) ∧ lk (tb_X9_round) 33 = (x_il 34 1, false) ∧ lk (tb_X9_round) 34 = (x_cV 1 2 P_X1_runRounds 37, false) ∧ lk (tb_X9_round) 37 = (x_al 38 0, false) ∧ lk (tb_X9_round) 38 = (x_gR 9 1 41, false) ∧ lk (tb_X9_round) 41 = (x_cV 5 0 P_X5_open 44, false) ∧ lk (tb_X9_round) 44 = (x_cS 1 P_J6_bitCount_0f7a4 47, false) ∧ lk (tb_X9_round) 47 = (x_rI, false) := ⟨rfl, rfl, rfl, rfl, rfl, rfl, rfl, rfl, rfl, rfl, rfl, rfl, rfl, rfl, rfl, rfl, rfl, rfl, rfl, rfl, rfl, rfl, rfl, rfl⟩
def P_X9_round : PTT := fun as M R => match as with
  | [.ref k, .int x] => k = 0 ∧ ∃ g, CR M.1 M.2.1 M.2.2 g ∧ GOk g ∧ Ans M R (gRound g x).1 (gRound g x).2
  | _ => False
set_option maxRecDepth 20000 in
theorem ok_X9_round : Ok yX9_round mt_X9_round P_X9_round := by
  refine Ok.of (by decide) rfl rfl rfl rfl fun av ⟨S, I, L⟩ R hP => ?_
  unfold P_X9_round at hP
  split at hP
  case h_2 => exact hP.elim
  rename_i k x
  obtain ⟨k, rfl⟩ : ∃ q : Nat, q = k := ⟨k, rfl⟩
  refine ⟨by simp [ent, wide, mt_X9_round], ?_⟩
  show J mt_X9_round R 0 [some (.ref k), some (.int x)] [] (S, I, L)
  try dsimp only at hP
  obtain ⟨rfl, g, hc, ho, hA⟩ := hP
  have h1 := hc.1
  have hap : ap15 5 := Or.inl (by omega)
  refine J.of tk_X9_round 200 fun ρ hρ => ?_
  simp only [hρ, x_c, x_il, x_ll, x_al, x_is, x_as, x_ls, x_inc, x_ii, x_iq, x_i1, x_l2, x_lq, x_lh, x_i2l, x_l2i, x_lcmp, x_dup, x_dup2, x_pop, x_if, x_ifn, x_ic, x_icn, x_go, x_sw, swc, x_l01, x_mx, x_gI, x_gL, x_gR, x_pI, x_pZ, x_pL, x_pR, x_ia, x_za, x_aa, x_ias, x_zas, x_aas, x_fac, x_fa, x_slen, x_sa, x_ac, x_oi, x_new, x_na, x_cS, x_cV, x_cI, x_rI, x_rZ, x_rL, x_r0, pa, short, oc, lg, lset, lset2, wide, cond_true, cond_false, true_and, and_true, ↓reduceIte, Bool.false_eq_true, true_or, or_true, lf_X9_round, h1.1.f, hc.ac, hc.ac.1.f, hc.ac.2.f, h1.2.2.2.2.2.1, h1.2.2.2.2.2.1.f, hap, P_X1_runRounds, P_X5_open, P_J6_bitCount_0f7a4, P_X0_remember, Classical.not_not]
  refine ⟨fun h => (hA.e (by rw [gRound, if_pos (.inl h)])).s hc, fun h => ⟨fun h' => CR.rem hc ho fun I' hf8 hc' => ?_, fun h' => (hA.e (by rw [gRound, if_pos (.inr h')])).s hc⟩⟩
  have hA' := hA.e (show gRound g x = (nI (ones9 (opA (itA (tn x) (gA g)))), GA (remG g) (itA (tn x) (gA g))) by rw [gRound, if_neg (fun q => q.elim h (fun r => r h'))])
  obtain ⟨r, hr1, hr, rfl⟩ := le99 h h'
  rw [tn_nI (n := r) (by omega)] at hA'
  have hs := hc'.2.2.1
  have hok : AOk (gA (remG g)) := ho.2.1
  refine ⟨aN (gA g), aM (gA g), r, hs.SV hok, hc'.2.2.2.2.2.2.2.V ho.2.1.1.2.2, hr, rfl, fun I2 g1 g2 g3 => ?_⟩
  have hs2 : SR I2 5 (itA r (gA g)) := SR.it hs hok hc'.2.2.2.2.2.2.2 (g1 6 (by omega) (by omega) (by omega) (by omega) (by omega)) (g1 7 (by omega) (by omega) (by omega) (by omega) (by omega)) g2 g3
  have hok2 : AOk (itA r (gA g)) := itA_ok ho.2.1
  rw [hs2.op hok2]
  have hl : opA (itA r (gA g)) < 64 := opB_lt ho.2.1.1.2.2
  rw [tn_nI (by omega)]
  exact ⟨hs2.q hok2, by omega, hA' _ L (hf8.trans (fun q hq => g1 q (by omega) (by omega) (by omega) (by omega) (by omega))) (fun _ _ => rfl) (hc'.now (fun q a b c d e f => g1 q (by omega) (by omega) (by omega) (by omega) (by omega)) hs2)⟩
/-- put -/
def gPut (g : GS) (c b : Int32) : Int32 × GS := if ¬ (hC g c ∧ hB g b) then (-1, g) else (bB ((aV (putA (gA g) (tn c) (tn b)) (tn c)).testBit (tn b)), GA (remG g) (putA (gA g) (tn c) (tn b)))
theorem put_fr {I : MI} {k q : Nat} {c b : Int32} (h : q ≠ k + 1) (h' : q ≠ k + 4) : putI I k c b q = I q := by unfold putI; rw [mS_n h', mS_n h]
def il_X9_put : List (Nat × Instr × Nat) := [(0, .aload_n 0, 1), (1, .getfield 19, 3), (4, .iload_n 1, 1), (5, .invokevirtual 162, 3), (8, .ifCond .eq 14, 3), (11, .aload_n 0, 1), (12, .getfield 19, 3), (15, .iload_n 2, 1), (16, .invokevirtual 148, 3), (19, .ifCond .ne 5, 3), (22, .iconst (-1), 1), (23, .ireturn, 1), (24, .aload_n 0, 1), (25, .getfield 52, 3), (28, .aload_n 0, 1), (29, .getfield 19, 3), (32, .invokevirtual 175, 3), (35, .aload_n 0, 1), (36, .getfield 19, 3), (39, .iload_n 1, 1), (40, .iload_n 2, 1), (41, .invokevirtual 190, 3), (44, .aload_n 0, 1), (45, .getfield 19, 3), (48, .iload_n 1, 1), (49, .iload_n 2, 1), (50, .invokevirtual 168, 3), (53, .ifCond .eq 7, 3), (56, .iconst 1, 1), (57, .goto 4, 3), (60, .iconst 0, 1), (61, .ireturn, 1)]
def mt_X9_put : Mt := (cX9_put, RX9, 3, (some .int), ({ frames := 3, cells := 0, slots := 0, locals := 60 } : Room), false, none, none)
set_option maxRecDepth 100000 in
theorem dl_X9_put : ∀ q ∈ il_X9_put, decode (mt_X9_put).1 q.1 = .ok q.2 := by decide +kernel
def tb_X9_put : Tb := [(0, x_al 1 0, false),
  (1, x_gR 9 1 4, false),
  (4, x_il 5 1, false),
  (5, x_cV 5 1 P_X5_hasCheck 8, false),
  (8, x_if 22 11 (fun x : Int32 => x = 0), false),
  (11, x_al 12 0, false),
  (12, x_gR 9 1 15, false),
  (15, x_il 16 2, false),
  (16, x_cV 5 1 P_X5_hasBit 19, false),
  (19, x_ifn 24 22 (fun x : Int32 => x = 0), false),
  (22, x_c 23 (.int (-1)), false),
  (23, x_rI, false),
  (24, x_al 25 0, false),
  (25, x_gR 9 6 28, false),
  (28, x_al 29 0, false),
  (29, x_gR 9 1 32, false),
  (32, x_cV 0 1 P_X0_remember 35, false),
  (35, x_al 36 0, false),
  (36, x_gR 9 1 39, false),
  (39, x_il 40 1, false),
  (40, x_il 41 2, false),
  (41, x_cV 5 2 P_X5_turnOver 44, false),
  (44, x_al 45 0, false),
  (45, x_gR 9 1 48, false),
  (48, x_il 49 1, false),
  (49, x_il 50 2, false),
  (50, x_cV 5 2 P_X5_isOver 53, false),
  (53, x_if 60 56 (fun x : Int32 => x = 0), false),
  (56, x_c 57 (.int 1), false),
  (57, x_go 61, false),
  (60, x_c 61 (.int 0), false),
  (61, x_rI, false)]
set_option maxRecDepth 100000 in
theorem tk_X9_put : TbOk (mt_X9_put) (tb_X9_put) :=
  tkc (s_aload_n (at_ dl_X9_put 0 (ins := .aload_n 0) rfl)) (
  tkc (s_gR (at_ dl_X9_put 1 (ins := .getfield 19) rfl) (by decide) (by decide) (by decide) (tg 255 (by decide +kernel) (by decide +kernel))) (
  tkc (s_iload_n (at_ dl_X9_put 2 (ins := .iload_n 1) rfl)) (
  tkc (s_cV ok_X5_hasCheck (at_ dl_X9_put 3 (ins := .invokevirtual 162) rfl) (by decide) rfl (tg 486 (by decide +kernel) (by decide +kernel)) (tg 392 (by decide +kernel) (by decide +kernel)) (tg 393 (by decide +kernel) (by decide +kernel)) (tg 45 (by decide +kernel) (by decide +kernel)) (tg 394 (by decide +kernel) (by decide +kernel)) (⟨by decide, by decide, by decide +kernel⟩) (⟨by decide, by decide⟩) rfl rfl) (
  tkc (s_if_eq (at_ dl_X9_put 4 (ins := .ifCond .eq 14) rfl) (by decide)) (
  tkc (s_aload_n (at_ dl_X9_put 5 (ins := .aload_n 0) rfl)) (
  tkc (s_gR (at_ dl_X9_put 6 (ins := .getfield 19) rfl) (by decide) (by decide) (by decide) (tg 255 (by decide +kernel) (by decide +kernel))) (
  tkc (s_iload_n (at_ dl_X9_put 7 (ins := .iload_n 2) rfl)) (
  tkc (s_cV ok_X5_hasBit (at_ dl_X9_put 8 (ins := .invokevirtual 148) rfl) (by decide) rfl (tg 480 (by decide +kernel) (by decide +kernel)) (tg 396 (by decide +kernel) (by decide +kernel)) (tg 397 (by decide +kernel) (by decide +kernel)) (tg 45 (by decide +kernel) (by decide +kernel)) (tg 398 (by decide +kernel) (by decide +kernel)) (⟨by decide, by decide, by decide +kernel⟩) (⟨by decide, by decide⟩) rfl rfl) (
  tkc (s_if_ne (at_ dl_X9_put 9 (ins := .ifCond .ne 5) rfl) (by decide)) (
  tkc (s_iconst (at_ dl_X9_put 10 (ins := .iconst (-1)) rfl) (by first | rfl | decide)) (
  tkc (s_rI (at_ dl_X9_put 11 (ins := .ireturn) rfl) rfl) (
  tkc (s_aload_n (at_ dl_X9_put 12 (ins := .aload_n 0) rfl)) (
  tkc (s_gR (at_ dl_X9_put 13 (ins := .getfield 52) rfl) (by decide) (by decide) (by decide) (tg 260 (by decide +kernel) (by decide +kernel))) (
  tkc (s_aload_n (at_ dl_X9_put 14 (ins := .aload_n 0) rfl)) (
  tkc (s_gR (at_ dl_X9_put 15 (ins := .getfield 19) rfl) (by decide) (by decide) (by decide) (tg 255 (by decide +kernel) (by decide +kernel))) (
  tkc (s_cV ok_X0_remember (at_ dl_X9_put 16 (ins := .invokevirtual 175) rfl) (by decide) rfl (tg 496 (by decide +kernel) (by decide +kernel)) (tg 497 (by decide +kernel) (by decide +kernel)) (tg 498 (by decide +kernel) (by decide +kernel)) (tg 49 (by decide +kernel) (by decide +kernel)) (tg 499 (by decide +kernel) (by decide +kernel)) (⟨by decide, by decide, by decide +kernel⟩) (⟨by decide, by decide⟩) rfl rfl) (
  tkc (s_aload_n (at_ dl_X9_put 17 (ins := .aload_n 0) rfl)) (
  tkc (s_gR (at_ dl_X9_put 18 (ins := .getfield 19) rfl) (by decide) (by decide) (by decide) (tg 255 (by decide +kernel) (by decide +kernel))) (
  tkc (s_iload_n (at_ dl_X9_put 19 (ins := .iload_n 1) rfl)) (
  tkc (s_iload_n (at_ dl_X9_put 20 (ins := .iload_n 2) rfl)) (
  tkc (s_cV ok_X5_turnOver (at_ dl_X9_put 21 (ins := .invokevirtual 190) rfl) (by decide) rfl (tg 519 (by decide +kernel) (by decide +kernel)) (tg 520 (by decide +kernel) (by decide +kernel)) (tg 521 (by decide +kernel) (by decide +kernel)) (tg 45 (by decide +kernel) (by decide +kernel)) (tg 522 (by decide +kernel) (by decide +kernel)) (⟨by decide, by decide, by decide +kernel⟩) (⟨by decide, by decide⟩) rfl rfl) (
  tkc (s_aload_n (at_ dl_X9_put 22 (ins := .aload_n 0) rfl)) (
  tkc (s_gR (at_ dl_X9_put 23 (ins := .getfield 19) rfl) (by decide) (by decide) (by decide) (tg 255 (by decide +kernel) (by decide +kernel))) (
  tkc (s_iload_n (at_ dl_X9_put 24 (ins := .iload_n 1) rfl)) (
  tkc (s_iload_n (at_ dl_X9_put 25 (ins := .iload_n 2) rfl)) (
  tkc (s_cV ok_X5_isOver (at_ dl_X9_put 26 (ins := .invokevirtual 168) rfl) (by decide) rfl (tg 491 (by decide +kernel) (by decide +kernel)) (tg 388 (by decide +kernel) (by decide +kernel)) (tg 389 (by decide +kernel) (by decide +kernel)) (tg 45 (by decide +kernel) (by decide +kernel)) (tg 390 (by decide +kernel) (by decide +kernel)) (⟨by decide, by decide, by decide +kernel⟩) (⟨by decide, by decide⟩) rfl rfl) (
  tkc (s_if_eq (at_ dl_X9_put 27 (ins := .ifCond .eq 7) rfl) (by decide)) (
  tkc (s_iconst (at_ dl_X9_put 28 (ins := .iconst 1) rfl) (by first | rfl | decide)) (
  tkc (s_goto (at_ dl_X9_put 29 (ins := .goto 4) rfl) (by decide)) (
  tkc (s_iconst (at_ dl_X9_put 30 (ins := .iconst 0) rfl) (by first | rfl | decide)) (
  tkc (s_rI (at_ dl_X9_put 31 (ins := .ireturn) rfl) rfl) ( tk0))))))))))))))))))))))))))))))))
theorem lf_X9_put : lk (tb_X9_put) 0 = (x_al 1 0, false) ∧ lk (tb_X9_put) 1 = (x_gR 9 1 4, false) ∧ lk (tb_X9_put) 4 = (x_il 5 1, false) ∧ lk (tb_X9_put) 5 = (x_cV 5 1 P_X5_hasCheck 8, false) ∧ lk (tb_X9_put) 8 = (x_if 22 11 (fun x : Int32 => x = 0), false) ∧ lk (tb_X9_put) 11 = (x_al 12 0, false) ∧ lk (tb_X9_put) 12 = (x_gR 9 1 15, false) ∧ lk (tb_X9_put) 15 = (x_il 16 2, false) ∧ lk (tb_X9_put) 16 = (x_cV 5 1 P_X5_hasBit 19, false) ∧ lk (tb_X9_put) 19 = (x_ifn 24 22 (fun x : Int32 => x = 0), false) ∧ lk (tb_X9_put) 22 = (x_c 23 (.int (-1)), false) ∧ lk (tb_X9_put) 23 = (x_rI, false) ∧ lk (tb_X9_put) 24 = (x_al 25 0, false) ∧ lk (tb_X9_put) 25 = (x_gR 9 6 28, false) ∧ lk (tb_X9_put) 28 = (x_al 29 0, false) ∧ lk (tb_X9_put) 29 = (x_gR 9 1 32, false) ∧ lk (tb_X9_put) 32 = (x_cV 0 1 P_X0_remember 35, false) ∧ lk (tb_X9_put) 35 = (x_al 36 0, false) ∧ lk (tb_X9_put) 36 = (x_gR 9 1 39, false) ∧ lk (tb_X9_put) 39 = (x_il 40 1, false) ∧ lk (tb_X9_put) 40 = (x_il 41 2, false) ∧ lk (tb_X9_put) 41 = (x_cV 5 2 P_X5_turnOver 44, false) ∧ lk (tb_X9_put) 44 = (x_al 45 0, false) ∧ lk (tb_X9_put) 45 = (x_gR 9 1 48, false) ∧ lk (tb_X9_put) 48 = (x_il 49 1, false) ∧ lk (tb_X9_put) 49 = (x_il 50 2, false) ∧ lk (tb_X9_put) 50 = (x_cV 5 2 P_X5_isOver 53, false) ∧ lk (tb_X9_put) 53 = (x_if 60 56 (fun x : Int32 => x = 0), false) ∧ lk (tb_X9_put) 56 = (x_c 57 (.int 1), false) ∧ lk (tb_X9_put) 57 = (x_go 61, false) ∧ lk (tb_X9_put) 60 = (x_c 61 (.int 0), false) ∧ lk (tb_X9_put) 61 = (x_rI, false) := ⟨rfl, rfl, rfl, rfl, rfl, rfl, rfl, rfl, rfl, rfl, rfl, rfl, rfl, rfl, rfl, rfl, rfl, rfl, rfl, rfl, rfl, rfl, rfl, rfl, rfl, rfl, rfl, rfl, rfl, rfl, rfl, rfl⟩
def P_X9_put : PTT := fun as M R => match as with
  | [.ref k, .int c, .int b] => k = 0 ∧ ∃ g, CR M.1 M.2.1 M.2.2 g ∧ GOk g ∧ Ans M R (gPut g c b).1 (gPut g c b).2
  | _ => False
set_option maxRecDepth 20000 in
theorem ok_X9_put : Ok yX9_put mt_X9_put P_X9_put := by
  refine Ok.of (by decide) rfl rfl rfl rfl fun av ⟨S, I, L⟩ R hP => ?_
  unfold P_X9_put at hP
  split at hP
  case h_2 => exact hP.elim
  rename_i k c b
  obtain ⟨k, rfl⟩ : ∃ q : Nat, q = k := ⟨k, rfl⟩
  refine ⟨by simp [ent, wide, mt_X9_put], ?_⟩
  show J mt_X9_put R 0 [some (.ref k), some (.int c), some (.int b)] [] (S, I, L)
  try dsimp only at hP
  obtain ⟨rfl, g, hc, ho, hA⟩ := hP
  have h1 := hc.1
  have en : I 5 4 = nI (aN (gA g)) := hc.2.2.1.1
  have em : I 5 5 = nI (aM (gA g)) := hc.2.2.1.2.1
  have h9 := ho.2.1.1
  refine J.of tk_X9_put 200 fun ρ hρ => ?_
  simp only [hρ, x_c, x_il, x_ll, x_al, x_is, x_as, x_ls, x_inc, x_ii, x_iq, x_i1, x_l2, x_lq, x_lh, x_i2l, x_l2i, x_lcmp, x_dup, x_dup2, x_pop, x_if, x_ifn, x_ic, x_icn, x_go, x_sw, swc, x_l01, x_mx, x_gI, x_gL, x_gR, x_pI, x_pZ, x_pL, x_pR, x_ia, x_za, x_aa, x_ias, x_zas, x_aas, x_fac, x_fa, x_slen, x_sa, x_ac, x_oi, x_new, x_na, x_cS, x_cV, x_cI, x_rI, x_rZ, x_rL, x_r0, pa, short, oc, lg, lset, lset2, wide, cond_true, cond_false, true_and, and_true, ↓reduceIte, Bool.false_eq_true, true_or, or_true, lf_X9_put, h1.1.f, hc.ac, hc.ac.1.f, hc.ac.2.f, P_X5_hasBit, P_X5_hasCheck, P_X5_turnOver, P_X5_isOver, P_X0_remember, en, em, bI_0, Classical.not_not]
  refine ⟨fun hcc => (hA.e (by rw [gPut, if_pos (fun q => hcc q.1)])).s hc, fun hcc => ⟨fun hbb => CR.rem hc ho fun I' hf8 hc' => ?_, fun hbb => (hA.e (by rw [gPut, if_pos (fun q => hbb q.2)])).s hc⟩⟩
  have hA' := hA.e (show gPut g c b = (bB ((aV (putA (gA g) (tn c) (tn b)) (tn c)).testBit (tn b)), GA (remG g) (putA (gA g) (tn c) (tn b))) by rw [gPut, if_neg (fun q => q ⟨hcc, hbb⟩)])
  obtain ⟨i, hi, rfl⟩ := hC.i (g := g) hcc ho
  obtain ⟨j, hj, rfl⟩ := hB.i (g := g) hbb ho
  rw [tn_nI (n := i) (by omega), tn_nI (n := j) (by omega)] at hA'
  have hs := hc'.2.2.1
  have en' : I' 5 4 = nI (aN (gA g)) := hs.1
  have em' : I' 5 5 = nI (aM (gA g)) := hs.2.1
  have hok := putA_ok (a := gA g) ho.2.1 hi hj
  have hs2 := SR.put (I := I') (k := 5) hs ho.2.1 hi hj
  have e4 : putI I' 5 (nI i) (nI j) 5 = I' 5 := put_fr (by omega) (by omega)
  have hv := hok.v (c := i) hi
  have e6 : putI I' 5 (nI i) (nI j) (5 + 1) i = nI (aV (putA (gA g) i j) i) := hs2.2.2.2.2.1 i hi
  rw [e4, en', em', ncl (show i < 2 ^ 31 by omega), e6, bit_c (show aV (putA (gA g) i j) i < 2 ^ 31 by omega) (show j < 31 by omega), Classical.not_not]
  have hfin : ∀ v, bB ((aV (putA (gA g) i j) i).testBit j) = v → R (some (.int v)) (S, putI I' 5 (nI i) (nI j), L) := fun v hv => by
    rw [hv] at hA'
    exact hA' _ L (hf8.trans (fun q hq => put_fr (by omega) (by omega))) (fun _ _ => rfl) (hc'.now (fun q a b c d e f => put_fr (by omega) (by omega)) hs2)
  exact ⟨⟨_, h9.2.1, rfl⟩, ⟨_, h9.2.2, rfl⟩, fun _ => ⟨⟨_, h9.2.2, rfl⟩, fun h => hfin 0 (bB_f (fun q => h ⟨hcc, hbb, q⟩)), fun h => hfin 1 (bB_t h.2.2)⟩, fun h => absurd ⟨hcc, hbb⟩ h⟩
/-- offset -/
def ofA (a : AS) (v : Int32) : AS := (a.1, a.2.1, v, a.2.2.2)
theorem SR.of {I : MI} {k : Nat} {a : AS} {v : Int32} (h : SR I k a) : SR (mS I k (upd (I k) 6 v)) k (ofA a v) := by
  obtain ⟨g1, g2, g3, g4, g5, g6, g7⟩ := h
  have e0 : mS I k (upd (I k) 6 v) k = upd (I k) 6 v := mS_s
  have e1 : mS I k (upd (I k) 6 v) (k + 1) = I (k + 1) := mS_n (by omega)
  have e2 : mS I k (upd (I k) 6 v) (k + 2) = I (k + 2) := mS_n (by omega)
  have e3 : mS I k (upd (I k) 6 v) (k + 3) = I (k + 3) := mS_n (by omega)
  have e4 : mS I k (upd (I k) 6 v) (k + 4) = I (k + 4) := mS_n (by omega)
  exact ⟨by rw [e0]; exact g1, by rw [e0]; exact g2, by rw [e0]; rfl, by rw [e0]; exact g4, by rw [e1]; exact g5, by rw [e2]; exact g6, by rw [e3, e4]; exact g7⟩
def gOffset (g : GS) (v : Int32) : Int32 × GS := if v < 0 ∨ ¬ v ≤ 9 then (-2, g) else (aO (gA g), GA (remG g) (ofA (gA g) v))
def il_X9_offset : List (Nat × Instr × Nat) := [(0, .iload_n 1, 1), (1, .ifCond .lt 9, 3), (4, .iload_n 1, 1), (5, .bipush 9, 2), (7, .if_icmp .le 6, 3), (10, .bipush (-2), 2), (12, .ireturn, 1), (13, .aload_n 0, 1), (14, .getfield 52, 3), (17, .aload_n 0, 1), (18, .getfield 19, 3), (21, .invokevirtual 175, 3), (24, .aload_n 0, 1), (25, .getfield 19, 3), (28, .getfield 104, 3), (31, .istore_n 2, 1), (32, .aload_n 0, 1), (33, .getfield 19, 3), (36, .iload_n 1, 1), (37, .putfield 104, 3), (40, .iload_n 2, 1), (41, .ireturn, 1)]
def mt_X9_offset : Mt := (cX9_offset, RX9, 3, (some .int), ({ frames := 3, cells := 0, slots := 0, locals := 60 } : Room), false, none, none)
set_option maxRecDepth 100000 in
theorem dl_X9_offset : ∀ q ∈ il_X9_offset, decode (mt_X9_offset).1 q.1 = .ok q.2 := by decide +kernel
def tb_X9_offset : Tb := [(0, x_il 1 1, false),
  (1, x_if 10 4 (fun x : Int32 => x < 0), false),
  (4, x_il 5 1, false),
  (5, x_c 7 (.int 9), false),
  (7, x_ic 13 10 (fun x y : Int32 => x ≤ y), false),
  (10, x_c 12 (.int (-2)), false),
  (12, x_rI, false),
  (13, x_al 14 0, false),
  (14, x_gR 9 6 17, false),
  (17, x_al 18 0, false),
  (18, x_gR 9 1 21, false),
  (21, x_cV 0 1 P_X0_remember 24, false),
  (24, x_al 25 0, false),
  (25, x_gR 9 1 28, false),
  (28, x_gI 5 6 31, false),
  (31, x_is 32 2, false),
  (32, x_al 33 0, false),
  (33, x_gR 9 1 36, false),
  (36, x_il 37 1, false),
  (37, x_pI 5 6 40, false),
  (40, x_il 41 2, false),
  (41, x_rI, false)]
set_option maxRecDepth 100000 in
theorem tk_X9_offset : TbOk (mt_X9_offset) (tb_X9_offset) :=
  tkc (s_iload_n (at_ dl_X9_offset 0 (ins := .iload_n 1) rfl)) (
  tkc (s_if_lt (at_ dl_X9_offset 1 (ins := .ifCond .lt 9) rfl) (by decide)) (
  tkc (s_iload_n (at_ dl_X9_offset 2 (ins := .iload_n 1) rfl)) (
  tkc (s_bipush (at_ dl_X9_offset 3 (ins := .bipush 9) rfl) (by first | rfl | decide)) (
  tkc (s_ic_le (at_ dl_X9_offset 4 (ins := .if_icmp .le 6) rfl) (by decide)) (
  tkc (s_bipush (at_ dl_X9_offset 5 (ins := .bipush (-2)) rfl) (by first | rfl | decide)) (
  tkc (s_rI (at_ dl_X9_offset 6 (ins := .ireturn) rfl) rfl) (
  tkc (s_aload_n (at_ dl_X9_offset 7 (ins := .aload_n 0) rfl)) (
  tkc (s_gR (at_ dl_X9_offset 8 (ins := .getfield 52) rfl) (by decide) (by decide) (by decide) (tg 260 (by decide +kernel) (by decide +kernel))) (
  tkc (s_aload_n (at_ dl_X9_offset 9 (ins := .aload_n 0) rfl)) (
  tkc (s_gR (at_ dl_X9_offset 10 (ins := .getfield 19) rfl) (by decide) (by decide) (by decide) (tg 255 (by decide +kernel) (by decide +kernel))) (
  tkc (s_cV ok_X0_remember (at_ dl_X9_offset 11 (ins := .invokevirtual 175) rfl) (by decide) rfl (tg 496 (by decide +kernel) (by decide +kernel)) (tg 497 (by decide +kernel) (by decide +kernel)) (tg 498 (by decide +kernel) (by decide +kernel)) (tg 49 (by decide +kernel) (by decide +kernel)) (tg 499 (by decide +kernel) (by decide +kernel)) (⟨by decide, by decide, by decide +kernel⟩) (⟨by decide, by decide⟩) rfl rfl) (
  tkc (s_aload_n (at_ dl_X9_offset 12 (ins := .aload_n 0) rfl)) (
  tkc (s_gR (at_ dl_X9_offset 13 (ins := .getfield 19) rfl) (by decide) (by decide) (by decide) (tg 255 (by decide +kernel) (by decide +kernel))) (
  tkc (s_gI (at_ dl_X9_offset 14 (ins := .getfield 104) rfl) (by decide) (by decide) (by decide) (tg 145 (by decide +kernel) (by decide +kernel))) (
  tkc (s_istore_n (at_ dl_X9_offset 15 (ins := .istore_n 2) rfl) (by decide)) (
  tkc (s_aload_n (at_ dl_X9_offset 16 (ins := .aload_n 0) rfl)) (
  tkc (s_gR (at_ dl_X9_offset 17 (ins := .getfield 19) rfl) (by decide) (by decide) (by decide) (tg 255 (by decide +kernel) (by decide +kernel))) (
  tkc (s_iload_n (at_ dl_X9_offset 18 (ins := .iload_n 1) rfl)) (
  tkc (s_pI (at_ dl_X9_offset 19 (ins := .putfield 104) rfl) (by decide) (by decide) (by decide) (by decide) (tg 145 (by decide +kernel) (by decide +kernel))) (
  tkc (s_iload_n (at_ dl_X9_offset 20 (ins := .iload_n 2) rfl)) (
  tkc (s_rI (at_ dl_X9_offset 21 (ins := .ireturn) rfl) rfl) ( tk0))))))))))))))))))))))
theorem lf_X9_offset : lk (tb_X9_offset) 0 = (x_il 1 1, false) ∧ lk (tb_X9_offset) 1 = (x_if 10 4 (fun x : Int32 => x < 0), false) ∧ lk (tb_X9_offset) 4 = (x_il 5 1, false) ∧ lk (tb_X9_offset) 5 = (x_c 7 (.int 9), false) ∧ lk (tb_X9_offset) 7 = (x_ic 13 10 (fun x y : Int32 => x ≤ y), false) ∧ lk (tb_X9_offset) 10 = (x_c 12 (.int (-2)), false) ∧ lk (tb_X9_offset) 12 = (x_rI, false) ∧ lk (tb_X9_offset) 13 = (x_al 14 0, false) ∧ lk (tb_X9_offset) 14 = (x_gR 9 6 17, false) ∧ lk (tb_X9_offset) 17 = (x_al 18 0, false) ∧ lk (tb_X9_offset) 18 = (x_gR 9 1 21, false) ∧ lk (tb_X9_offset) 21 = (x_cV 0 1 P_X0_remember 24, false) ∧ lk (tb_X9_offset) 24 = (x_al 25 0, false) ∧ lk (tb_X9_offset) 25 = (x_gR 9 1 28, false) ∧ lk (tb_X9_offset) 28 = (x_gI 5 6 31, false) ∧ lk (tb_X9_offset) 31 = (x_is 32 2, false) ∧ lk (tb_X9_offset) 32 = (x_al 33 0, false) ∧ lk (tb_X9_offset) 33 = (x_gR 9 1 36, false) ∧ lk (tb_X9_offset) 36 = (x_il 37 1, false) ∧ lk (tb_X9_offset) 37 = (x_pI 5 6 40, false) ∧ lk (tb_X9_offset) 40 = (x_il 41 2, false) ∧ lk (tb_X9_offset) 41 = (x_rI, false) := ⟨rfl, rfl, rfl, rfl, rfl, rfl, rfl, rfl, rfl, rfl, rfl, rfl, rfl, rfl, rfl, rfl, rfl, rfl, rfl, rfl, rfl, rfl⟩
def P_X9_offset : PTT := fun as M R => match as with
  | [.ref k, .int v] => k = 0 ∧ ∃ g, CR M.1 M.2.1 M.2.2 g ∧ GOk g ∧ Ans M R (gOffset g v).1 (gOffset g v).2
  | _ => False
set_option maxRecDepth 20000 in
theorem ok_X9_offset : Ok yX9_offset mt_X9_offset P_X9_offset := by
  refine Ok.of (by decide) rfl rfl rfl rfl fun av ⟨S, I, L⟩ R hP => ?_
  unfold P_X9_offset at hP
  split at hP
  case h_2 => exact hP.elim
  rename_i k v
  obtain ⟨k, rfl⟩ : ∃ q : Nat, q = k := ⟨k, rfl⟩
  refine ⟨by simp [ent, wide, mt_X9_offset], ?_⟩
  show J mt_X9_offset R 0 [some (.ref k), some (.int v), none] [] (S, I, L)
  try dsimp only at hP
  obtain ⟨rfl, g, hc, ho, hA⟩ := hP
  have h1 := hc.1
  refine J.of tk_X9_offset 200 fun ρ hρ => ?_
  simp only [hρ, x_c, x_il, x_ll, x_al, x_is, x_as, x_ls, x_inc, x_ii, x_iq, x_i1, x_l2, x_lq, x_lh, x_i2l, x_l2i, x_lcmp, x_dup, x_dup2, x_pop, x_if, x_ifn, x_ic, x_icn, x_go, x_sw, swc, x_l01, x_mx, x_gI, x_gL, x_gR, x_pI, x_pZ, x_pL, x_pR, x_ia, x_za, x_aa, x_ias, x_zas, x_aas, x_fac, x_fa, x_slen, x_sa, x_ac, x_oi, x_new, x_na, x_cS, x_cV, x_cI, x_rI, x_rZ, x_rL, x_r0, pa, short, oc, lg, lset, lset2, wide, cond_true, cond_false, true_and, and_true, ↓reduceIte, Bool.false_eq_true, true_or, or_true, lf_X9_offset, h1.1.f, hc.ac, hc.ac.1.f, hc.ac.2.f, P_X0_remember, Classical.not_not]
  refine ⟨fun h => (hA.e (by rw [gOffset, if_pos (.inl h)])).s hc, fun h => ⟨fun h' => CR.rem hc ho fun I' hf8 hc' => ?_, fun h' => (hA.e (by rw [gOffset, if_pos (.inr h')])).s hc⟩⟩
  have hA' := hA.e (show gOffset g v = (aO (gA g), GA (remG g) (ofA (gA g) v)) by rw [gOffset, if_neg (fun q => q.elim h (fun r => r h'))])
  rw [hc'.2.2.1.2.2.1]
  exact hA' _ L (hf8.trans (fun q hq => mS_n (by omega))) (fun _ _ => rfl) (hc'.now (fun q a b c d e f => mS_n (by omega)) hc'.2.2.1.of)
/-- undo -/
def gUndo (g : GS) : Int32 × GS := if gC g = 0 then (-3, g) else (nI (gC g - 1), GH (GA g (gH g 0)) (gC g - 1) (fun j => gH g (j + 1)))
def il_X9_undo : List (Nat × Instr × Nat) := [(0, .aload_n 0, 1), (1, .getfield 52, 3), (4, .getfield 144, 3), (7, .ifCond .ne 6, 3), (10, .bipush (-3), 2), (12, .ireturn, 1), (13, .aload_n 0, 1), (14, .getfield 52, 3), (17, .aload_n 0, 1), (18, .getfield 19, 3), (21, .invokevirtual 197, 3), (24, .aload_n 0, 1), (25, .getfield 52, 3), (28, .getfield 144, 3), (31, .ireturn, 1)]
def mt_X9_undo : Mt := (cX9_undo, RX9, 1, (some .int), ({ frames := 3, cells := 0, slots := 0, locals := 60 } : Room), false, none, none)
set_option maxRecDepth 100000 in
theorem dl_X9_undo : ∀ q ∈ il_X9_undo, decode (mt_X9_undo).1 q.1 = .ok q.2 := by decide +kernel
def tb_X9_undo : Tb := [(0, x_al 1 0, false),
  (1, x_gR 9 6 4, false),
  (4, x_gI 0 2 7, false),
  (7, x_ifn 13 10 (fun x : Int32 => x = 0), false),
  (10, x_c 12 (.int (-3)), false),
  (12, x_rI, false),
  (13, x_al 14 0, false),
  (14, x_gR 9 6 17, false),
  (17, x_al 18 0, false),
  (18, x_gR 9 1 21, false),
  (21, x_cV 0 1 P_X0_giveBackLast 24, false),
  (24, x_al 25 0, false),
  (25, x_gR 9 6 28, false),
  (28, x_gI 0 2 31, false),
  (31, x_rI, false)]
set_option maxRecDepth 100000 in
theorem tk_X9_undo : TbOk (mt_X9_undo) (tb_X9_undo) :=
  tkc (s_aload_n (at_ dl_X9_undo 0 (ins := .aload_n 0) rfl)) (
  tkc (s_gR (at_ dl_X9_undo 1 (ins := .getfield 52) rfl) (by decide) (by decide) (by decide) (tg 260 (by decide +kernel) (by decide +kernel))) (
  tkc (s_gI (at_ dl_X9_undo 2 (ins := .getfield 144) rfl) (by decide) (by decide) (by decide) (tg 229 (by decide +kernel) (by decide +kernel))) (
  tkc (s_if_ne (at_ dl_X9_undo 3 (ins := .ifCond .ne 6) rfl) (by decide)) (
  tkc (s_bipush (at_ dl_X9_undo 4 (ins := .bipush (-3)) rfl) (by first | rfl | decide)) (
  tkc (s_rI (at_ dl_X9_undo 5 (ins := .ireturn) rfl) rfl) (
  tkc (s_aload_n (at_ dl_X9_undo 6 (ins := .aload_n 0) rfl)) (
  tkc (s_gR (at_ dl_X9_undo 7 (ins := .getfield 52) rfl) (by decide) (by decide) (by decide) (tg 260 (by decide +kernel) (by decide +kernel))) (
  tkc (s_aload_n (at_ dl_X9_undo 8 (ins := .aload_n 0) rfl)) (
  tkc (s_gR (at_ dl_X9_undo 9 (ins := .getfield 19) rfl) (by decide) (by decide) (by decide) (tg 255 (by decide +kernel) (by decide +kernel))) (
  tkc (s_cV ok_X0_giveBackLast (at_ dl_X9_undo 10 (ins := .invokevirtual 197) rfl) (by decide) rfl (tg 545 (by decide +kernel) (by decide +kernel)) (tg 546 (by decide +kernel) (by decide +kernel)) (tg 547 (by decide +kernel) (by decide +kernel)) (tg 49 (by decide +kernel) (by decide +kernel)) (tg 548 (by decide +kernel) (by decide +kernel)) (⟨by decide, by decide, by decide +kernel⟩) (⟨by decide, by decide⟩) rfl rfl) (
  tkc (s_aload_n (at_ dl_X9_undo 11 (ins := .aload_n 0) rfl)) (
  tkc (s_gR (at_ dl_X9_undo 12 (ins := .getfield 52) rfl) (by decide) (by decide) (by decide) (tg 260 (by decide +kernel) (by decide +kernel))) (
  tkc (s_gI (at_ dl_X9_undo 13 (ins := .getfield 144) rfl) (by decide) (by decide) (by decide) (tg 229 (by decide +kernel) (by decide +kernel))) (
  tkc (s_rI (at_ dl_X9_undo 14 (ins := .ireturn) rfl) rfl) ( tk0)))))))))))))))
theorem lf_X9_undo : lk (tb_X9_undo) 0 = (x_al 1 0, false) ∧ lk (tb_X9_undo) 1 = (x_gR 9 6 4, false) ∧ lk (tb_X9_undo) 4 = (x_gI 0 2 7, false) ∧ lk (tb_X9_undo) 7 = (x_ifn 13 10 (fun x : Int32 => x = 0), false) ∧ lk (tb_X9_undo) 10 = (x_c 12 (.int (-3)), false) ∧ lk (tb_X9_undo) 12 = (x_rI, false) ∧ lk (tb_X9_undo) 13 = (x_al 14 0, false) ∧ lk (tb_X9_undo) 14 = (x_gR 9 6 17, false) ∧ lk (tb_X9_undo) 17 = (x_al 18 0, false) ∧ lk (tb_X9_undo) 18 = (x_gR 9 1 21, false) ∧ lk (tb_X9_undo) 21 = (x_cV 0 1 P_X0_giveBackLast 24, false) ∧ lk (tb_X9_undo) 24 = (x_al 25 0, false) ∧ lk (tb_X9_undo) 25 = (x_gR 9 6 28, false) ∧ lk (tb_X9_undo) 28 = (x_gI 0 2 31, false) ∧ lk (tb_X9_undo) 31 = (x_rI, false) := ⟨rfl, rfl, rfl, rfl, rfl, rfl, rfl, rfl, rfl, rfl, rfl, rfl, rfl, rfl, rfl⟩
def P_X9_undo : PTT := fun as M R => match as with
  | [.ref k] => k = 0 ∧ ∃ g, CR M.1 M.2.1 M.2.2 g ∧ GOk g ∧ Ans M R (gUndo g).1 (gUndo g).2
  | _ => False
set_option maxRecDepth 20000 in
theorem ok_X9_undo : Ok yX9_undo mt_X9_undo P_X9_undo := by
  refine Ok.of (by decide) rfl rfl rfl rfl fun av ⟨S, I, L⟩ R hP => ?_
  unfold P_X9_undo at hP
  split at hP
  case h_2 => exact hP.elim
  rename_i k
  obtain ⟨k, rfl⟩ : ∃ q : Nat, q = k := ⟨k, rfl⟩
  refine ⟨by simp [ent, wide, mt_X9_undo], ?_⟩
  show J mt_X9_undo R 0 [some (.ref k)] [] (S, I, L)
  try dsimp only at hP
  obtain ⟨rfl, g, hc, ho, hA⟩ := hP
  obtain ⟨h1, h2, h3, ⟨f, hv, hs⟩, h5, h6, h7, h8⟩ := id hc
  have hC := ho.2.2.1.1
  refine J.of tk_X9_undo 200 fun ρ hρ => ?_
  simp only [hρ, x_c, x_il, x_ll, x_al, x_is, x_as, x_ls, x_inc, x_ii, x_iq, x_i1, x_l2, x_lq, x_lh, x_i2l, x_l2i, x_lcmp, x_dup, x_dup2, x_pop, x_if, x_ifn, x_ic, x_icn, x_go, x_sw, swc, x_l01, x_mx, x_gI, x_gL, x_gR, x_pI, x_pZ, x_pL, x_pR, x_ia, x_za, x_aa, x_ias, x_zas, x_aas, x_fac, x_fa, x_slen, x_sa, x_ac, x_oi, x_new, x_na, x_cS, x_cV, x_cI, x_rI, x_rZ, x_rL, x_r0, pa, short, oc, lg, lset, lset2, wide, cond_true, cond_false, true_and, and_true, ↓reduceIte, Bool.false_eq_true, true_or, or_true, lf_X9_undo, h1.1.f, hc.ac, hc.ac.1.f, hc.ac.2.f, P_X0_giveBackLast, hv.2.2.2, nI_z (show gC g < 2 ^ 31 by omega), Classical.not_not]
  refine ⟨fun h => ?_, fun h => (hA.e (by rw [gUndo, if_pos h])).s hc⟩
  have hA' := hA.e (show gUndo g = (nI (gC g - 1), GH (GA g (gH g 0)) (gC g - 1) (fun j => gH g (j + 1))) by rw [gUndo, if_neg h])
  refine ⟨f, gC g - 1, by rw [show gC g - 1 + 1 = gC g by omega]; exact hv, fun I' hv' hcp hf => ?_⟩
  rw [hv'.2.2.2]
  have hs0 : SR I (23 + 5 * ((f + (gC g - 1)) % 14)) (gH g 0) := by
    have := hs 0 (by omega)
    rwa [show f + gC g - 1 - 0 = f + (gC g - 1) by omega] at this
  have hok := ho.2.2.1.2 0 (by omega)
  refine hA' _ L (fun q hq => hf q (by omega) (by omega)) (fun _ _ => rfl) ⟨h1, h2.fr (hf 1 (by omega) (by omega)) (hf 2 (by omega) (by omega)), SR.cp hcp hs0 hok.1.1.2.2, ⟨f, hv', fun j hj => ?_⟩, CK.fr (g := g) h5 (fun q a b => hf q (by omega) (by omega)), h6.fr (hf 93 (by omega) (by omega)) (hf 94 (by omega) (by omega)) (hf 95 (by omega) (by omega)), h7, h8.fr (hf 16 (by omega) (by omega))⟩
  replace hj : j < gC g - 1 := hj
  show SR I' (23 + 5 * ((f + (gC g - 1) - 1 - j) % 14)) (gH g (j + 1))
  have := hs (j + 1) (by omega)
  rw [show f + gC g - 1 - (j + 1) = f + (gC g - 1) - 1 - j by omega] at this
  exact this.fr (fun q a b => hf q (by omega) (by omega))
end
section
/-! ASKS of the class: bit, check, message; seen, seed, slots -/
def gCheck (g : GS) (c : Int32) : Int32 := if hC g c then nI (aV (gA g) (tn c)) else -1
def il_X9_check : List (Nat × Instr × Nat) := [(0, .aload_n 0, 1), (1, .getfield 19, 3), (4, .iload_n 1, 1), (5, .invokevirtual 162, 3), (8, .ifCond .eq 15, 3), (11, .aload_n 0, 1), (12, .getfield 19, 3), (15, .getfield 165, 3), (18, .iload_n 1, 1), (19, .iaload, 1), (20, .goto 4, 3), (23, .iconst (-1), 1), (24, .ireturn, 1)]
def mt_X9_check : Mt := (cX9_check, RX9, 2, (some .int), ({ frames := 1, cells := 0, slots := 0, locals := 21 } : Room), false, none, none)
set_option maxRecDepth 100000 in
theorem dl_X9_check : ∀ q ∈ il_X9_check, decode (mt_X9_check).1 q.1 = .ok q.2 := by decide +kernel
def tb_X9_check : Tb := [(0, x_al 1 0, false),
  (1, x_gR 9 1 4, false),
  (4, x_il 5 1, false),
  (5, x_cV 5 1 P_X5_hasCheck 8, false),
  (8, x_if 23 11 (fun x : Int32 => x = 0), false),
  (11, x_al 12 0, false),
  (12, x_gR 9 1 15, false),
  (15, x_gR 5 0 18, false),
  (18, x_il 19 1, false),
  (19, x_ia 20, false),
  (20, x_go 24, false),
  (23, x_c 24 (.int (-1)), false),
  (24, x_rI, false)]
set_option maxRecDepth 100000 in
theorem tk_X9_check : TbOk (mt_X9_check) (tb_X9_check) :=
  tkc (s_aload_n (at_ dl_X9_check 0 (ins := .aload_n 0) rfl)) (
  tkc (s_gR (at_ dl_X9_check 1 (ins := .getfield 19) rfl) (by decide) (by decide) (by decide) (tg 255 (by decide +kernel) (by decide +kernel))) (
  tkc (s_iload_n (at_ dl_X9_check 2 (ins := .iload_n 1) rfl)) (
  tkc (s_cV ok_X5_hasCheck (at_ dl_X9_check 3 (ins := .invokevirtual 162) rfl) (by decide) rfl (tg 486 (by decide +kernel) (by decide +kernel)) (tg 392 (by decide +kernel) (by decide +kernel)) (tg 393 (by decide +kernel) (by decide +kernel)) (tg 45 (by decide +kernel) (by decide +kernel)) (tg 394 (by decide +kernel) (by decide +kernel)) (⟨by decide, by decide, by decide +kernel⟩) (⟨by decide, by decide⟩) rfl rfl) (
  tkc (s_if_eq (at_ dl_X9_check 4 (ins := .ifCond .eq 15) rfl) (by decide)) (
  tkc (s_aload_n (at_ dl_X9_check 5 (ins := .aload_n 0) rfl)) (
  tkc (s_gR (at_ dl_X9_check 6 (ins := .getfield 19) rfl) (by decide) (by decide) (by decide) (tg 255 (by decide +kernel) (by decide +kernel))) (
  tkc (s_gR (at_ dl_X9_check 7 (ins := .getfield 165) rfl) (by decide) (by decide) (by decide) (tg 125 (by decide +kernel) (by decide +kernel))) (
  tkc (s_iload_n (at_ dl_X9_check 8 (ins := .iload_n 1) rfl)) (
  tkc (s_ia (at_ dl_X9_check 9 (ins := .iaload) rfl)) (
  tkc (s_goto (at_ dl_X9_check 10 (ins := .goto 4) rfl) (by decide)) (
  tkc (s_iconst (at_ dl_X9_check 11 (ins := .iconst (-1)) rfl) (by first | rfl | decide)) (
  tkc (s_rI (at_ dl_X9_check 12 (ins := .ireturn) rfl) rfl) ( tk0)))))))))))))
theorem lf_X9_check : lk (tb_X9_check) 0 = (x_al 1 0, false) ∧ lk (tb_X9_check) 1 = (x_gR 9 1 4, false) ∧ lk (tb_X9_check) 4 = (x_il 5 1, false) ∧ lk (tb_X9_check) 5 = (x_cV 5 1 P_X5_hasCheck 8, false) ∧ lk (tb_X9_check) 8 = (x_if 23 11 (fun x : Int32 => x = 0), false) ∧ lk (tb_X9_check) 11 = (x_al 12 0, false) ∧ lk (tb_X9_check) 12 = (x_gR 9 1 15, false) ∧ lk (tb_X9_check) 15 = (x_gR 5 0 18, false) ∧ lk (tb_X9_check) 18 = (x_il 19 1, false) ∧ lk (tb_X9_check) 19 = (x_ia 20, false) ∧ lk (tb_X9_check) 20 = (x_go 24, false) ∧ lk (tb_X9_check) 23 = (x_c 24 (.int (-1)), false) ∧ lk (tb_X9_check) 24 = (x_rI, false) := ⟨rfl, rfl, rfl, rfl, rfl, rfl, rfl, rfl, rfl, rfl, rfl, rfl, rfl⟩
def P_X9_check : PTT := fun as M R => match as with
  | [.ref k, .int c] => k = 0 ∧ ∃ g, CR M.1 M.2.1 M.2.2 g ∧ GOk g ∧ Ans M R (gCheck g c) g
  | _ => False
set_option maxRecDepth 20000 in
theorem ok_X9_check : Ok yX9_check mt_X9_check P_X9_check := by
  refine Ok.of (by decide) rfl rfl rfl rfl fun av ⟨S, I, L⟩ R hP => ?_
  unfold P_X9_check at hP
  split at hP
  case h_2 => exact hP.elim
  rename_i k c
  obtain ⟨k, rfl⟩ : ∃ q : Nat, q = k := ⟨k, rfl⟩
  refine ⟨by simp [ent, wide, mt_X9_check], ?_⟩
  show J mt_X9_check R 0 [some (.ref k), some (.int c)] [] (S, I, L)
  try dsimp only at hP
  obtain ⟨rfl, g, hc, ho, hA⟩ := hP
  have h1 := hc.1
  have em : I 5 5 = nI (aM (gA g)) := hc.2.2.1.2.1
  have h9 := ho.2.1.1
  have hfin : ∀ v, gCheck g c = v → R (some (.int v)) (S, I, L) := fun v hv => (hv ▸ hA).s hc
  refine J.of tk_X9_check 200 fun ρ hρ => ?_
  simp only [hρ, x_c, x_il, x_ll, x_al, x_is, x_as, x_ls, x_inc, x_ii, x_iq, x_i1, x_l2, x_lq, x_lh, x_i2l, x_l2i, x_lcmp, x_dup, x_dup2, x_pop, x_if, x_ifn, x_ic, x_icn, x_go, x_sw, swc, x_l01, x_mx, x_gI, x_gL, x_gR, x_pI, x_pZ, x_pL, x_pR, x_ia, x_za, x_aa, x_ias, x_zas, x_aas, x_fac, x_fa, x_slen, x_sa, x_ac, x_oi, x_new, x_na, x_cS, x_cV, x_cI, x_rI, x_rZ, x_rL, x_r0, pa, short, oc, lg, lset, lset2, wide, cond_true, cond_false, true_and, and_true, ↓reduceIte, Bool.false_eq_true, true_or, or_true, lf_X9_check, h1.1.f, hc.ac, hc.ac.2.f, P_X5_hasCheck, em, bI_0, Classical.not_not]
  refine ⟨fun h => hfin _ (if_neg h), fun h => ?_⟩
  obtain ⟨i, hi, rfl⟩ := hC.i (g := g) h ho
  rw [ncl (by omega)]
  refine ⟨vp_in_nI (by omega) (by omega), hfin _ ?_⟩
  rw [gCheck, if_pos h, tn_nI (by omega)]
  exact (hc.2.2.1.2.2.2.2.1 i hi).symm
def gBit (g : GS) (b w : Int32) : Int32 := if ¬ hB g b then -1 else if w.toInt = 0 then aL (gA g) (tn b) + 100 else if w.toInt = 1 then (aD (gA g)).1 (tn b) + 100 else if w.toInt = 2 then nI (coF (aV (gA g)) (aM (gA g)) (tn b)) else -2
def il_X9_bit : List (Nat × Instr × Nat) := [(0, .aload_n 0, 1), (1, .getfield 19, 3), (4, .iload_n 1, 1), (5, .invokevirtual 148, 3), (8, .ifCond .ne 5, 3), (11, .iconst (-1), 1), (12, .ireturn, 1), (13, .iload_n 2, 1), (14, .tableswitch 61 0 2 #[26, 39, 52], 26), (40, .aload_n 0, 1), (41, .getfield 19, 3), (44, .getfield 152, 3), (47, .iload_n 1, 1), (48, .iaload, 1), (49, .bipush 100, 2), (51, .iadd, 1), (52, .ireturn, 1), (53, .aload_n 0, 1), (54, .getfield 19, 3), (57, .getfield 156, 3), (60, .iload_n 1, 1), (61, .iaload, 1), (62, .bipush 100, 2), (64, .iadd, 1), (65, .ireturn, 1), (66, .aload_n 0, 1), (67, .getfield 19, 3), (70, .iload_n 1, 1), (71, .invokevirtual 159, 3), (74, .ireturn, 1), (75, .bipush (-2), 2), (77, .ireturn, 1)]
def mt_X9_bit : Mt := (cX9_bit, RX9, 3, (some .int), ({ frames := 1, cells := 0, slots := 0, locals := 23 } : Room), false, none, none)
set_option maxRecDepth 100000 in
theorem dl_X9_bit : ∀ q ∈ il_X9_bit, decode (mt_X9_bit).1 q.1 = .ok q.2 := by decide +kernel
def tb_X9_bit : Tb := [(0, x_al 1 0, false),
  (1, x_gR 9 1 4, false),
  (4, x_il 5 1, false),
  (5, x_cV 5 1 P_X5_hasBit 8, false),
  (8, x_ifn 13 11 (fun x : Int32 => x = 0), false),
  (11, x_c 12 (.int (-1)), false),
  (12, x_rI, false),
  (13, x_il 14 2, false),
  (14, x_sw 0 2 [40, 53, 66] 75, false),
  (40, x_al 41 0, false),
  (41, x_gR 9 1 44, false),
  (44, x_gR 5 1 47, false),
  (47, x_il 48 1, false),
  (48, x_ia 49, false),
  (49, x_c 51 (.int 100), false),
  (51, x_ii 52 (fun x y : Int32 => x + y), false),
  (52, x_rI, false),
  (53, x_al 54 0, false),
  (54, x_gR 9 1 57, false),
  (57, x_gR 5 2 60, false),
  (60, x_il 61 1, false),
  (61, x_ia 62, false),
  (62, x_c 64 (.int 100), false),
  (64, x_ii 65 (fun x y : Int32 => x + y), false),
  (65, x_rI, false),
  (66, x_al 67 0, false),
  (67, x_gR 9 1 70, false),
  (70, x_il 71 1, false),
  (71, x_cV 5 1 P_X5_checksOver 74, false),
  (74, x_rI, false),
  (75, x_c 77 (.int (-2)), false),
  (77, x_rI, false)]
set_option maxRecDepth 100000 in
theorem tk_X9_bit : TbOk (mt_X9_bit) (tb_X9_bit) :=
  tkc (s_aload_n (at_ dl_X9_bit 0 (ins := .aload_n 0) rfl)) (
  tkc (s_gR (at_ dl_X9_bit 1 (ins := .getfield 19) rfl) (by decide) (by decide) (by decide) (tg 255 (by decide +kernel) (by decide +kernel))) (
  tkc (s_iload_n (at_ dl_X9_bit 2 (ins := .iload_n 1) rfl)) (
  tkc (s_cV ok_X5_hasBit (at_ dl_X9_bit 3 (ins := .invokevirtual 148) rfl) (by decide) rfl (tg 480 (by decide +kernel) (by decide +kernel)) (tg 396 (by decide +kernel) (by decide +kernel)) (tg 397 (by decide +kernel) (by decide +kernel)) (tg 45 (by decide +kernel) (by decide +kernel)) (tg 398 (by decide +kernel) (by decide +kernel)) (⟨by decide, by decide, by decide +kernel⟩) (⟨by decide, by decide⟩) rfl rfl) (
  tkc (s_if_ne (at_ dl_X9_bit 4 (ins := .ifCond .ne 5) rfl) (by decide)) (
  tkc (s_iconst (at_ dl_X9_bit 5 (ins := .iconst (-1)) rfl) (by first | rfl | decide)) (
  tkc (s_rI (at_ dl_X9_bit 6 (ins := .ireturn) rfl) rfl) (
  tkc (s_iload_n (at_ dl_X9_bit 7 (ins := .iload_n 2) rfl)) (
  tkc (s_sw (at_ dl_X9_bit 8 (ins := .tableswitch 61 0 2 #[26, 39, 52]) rfl) rfl (tsw [40, 53, 66] (by decide +kernel)) (by decide)) (
  tkc (s_aload_n (at_ dl_X9_bit 9 (ins := .aload_n 0) rfl)) (
  tkc (s_gR (at_ dl_X9_bit 10 (ins := .getfield 19) rfl) (by decide) (by decide) (by decide) (tg 255 (by decide +kernel) (by decide +kernel))) (
  tkc (s_gR (at_ dl_X9_bit 11 (ins := .getfield 152) rfl) (by decide) (by decide) (by decide) (tg 127 (by decide +kernel) (by decide +kernel))) (
  tkc (s_iload_n (at_ dl_X9_bit 12 (ins := .iload_n 1) rfl)) (
  tkc (s_ia (at_ dl_X9_bit 13 (ins := .iaload) rfl)) (
  tkc (s_bipush (at_ dl_X9_bit 14 (ins := .bipush 100) rfl) (by first | rfl | decide)) (
  tkc (s_iadd (at_ dl_X9_bit 15 (ins := .iadd) rfl)) (
  tkc (s_rI (at_ dl_X9_bit 16 (ins := .ireturn) rfl) rfl) (
  tkc (s_aload_n (at_ dl_X9_bit 17 (ins := .aload_n 0) rfl)) (
  tkc (s_gR (at_ dl_X9_bit 18 (ins := .getfield 19) rfl) (by decide) (by decide) (by decide) (tg 255 (by decide +kernel) (by decide +kernel))) (
  tkc (s_gR (at_ dl_X9_bit 19 (ins := .getfield 156) rfl) (by decide) (by decide) (by decide) (tg 130 (by decide +kernel) (by decide +kernel))) (
  tkc (s_iload_n (at_ dl_X9_bit 20 (ins := .iload_n 1) rfl)) (
  tkc (s_ia (at_ dl_X9_bit 21 (ins := .iaload) rfl)) (
  tkc (s_bipush (at_ dl_X9_bit 22 (ins := .bipush 100) rfl) (by first | rfl | decide)) (
  tkc (s_iadd (at_ dl_X9_bit 23 (ins := .iadd) rfl)) (
  tkc (s_rI (at_ dl_X9_bit 24 (ins := .ireturn) rfl) rfl) (
  tkc (s_aload_n (at_ dl_X9_bit 25 (ins := .aload_n 0) rfl)) (
  tkc (s_gR (at_ dl_X9_bit 26 (ins := .getfield 19) rfl) (by decide) (by decide) (by decide) (tg 255 (by decide +kernel) (by decide +kernel))) (
  tkc (s_iload_n (at_ dl_X9_bit 27 (ins := .iload_n 1) rfl)) (
  tkc (s_cV ok_X5_checksOver (at_ dl_X9_bit 28 (ins := .invokevirtual 159) rfl) (by decide) rfl (tg 481 (by decide +kernel) (by decide +kernel)) (tg 404 (by decide +kernel) (by decide +kernel)) (tg 405 (by decide +kernel) (by decide +kernel)) (tg 45 (by decide +kernel) (by decide +kernel)) (tg 406 (by decide +kernel) (by decide +kernel)) (⟨by decide, by decide, by decide +kernel⟩) (⟨by decide, by decide⟩) rfl rfl) (
  tkc (s_rI (at_ dl_X9_bit 29 (ins := .ireturn) rfl) rfl) (
  tkc (s_bipush (at_ dl_X9_bit 30 (ins := .bipush (-2)) rfl) (by first | rfl | decide)) (
  tkc (s_rI (at_ dl_X9_bit 31 (ins := .ireturn) rfl) rfl) ( tk0))))))))))))))))))))))))))))))))
theorem lf_X9_bit : lk (tb_X9_bit) 0 = (x_al 1 0, false) ∧ lk (tb_X9_bit) 1 = (x_gR 9 1 4, false) ∧ lk (tb_X9_bit) 4 = (x_il 5 1, false) ∧ lk (tb_X9_bit) 5 = (x_cV 5 1 P_X5_hasBit 8, false) ∧ lk (tb_X9_bit) 8 = (x_ifn 13 11 (fun x : Int32 => x = 0), false) ∧ lk (tb_X9_bit) 11 = (x_c 12 (.int (-1)), false) ∧ lk (tb_X9_bit) 12 = (x_rI, false) ∧ lk (tb_X9_bit) 13 = (x_il 14 2, false) ∧ lk (tb_X9_bit) 14 = (x_sw 0 2 [40, 53, 66] 75, false) ∧ lk (tb_X9_bit) 40 = (x_al 41 0, false) ∧ lk (tb_X9_bit) 41 = (x_gR 9 1 44, false) ∧ lk (tb_X9_bit) 44 = (x_gR 5 1 47, false) ∧ lk (tb_X9_bit) 47 = (x_il 48 1, false) ∧ lk (tb_X9_bit) 48 = (x_ia 49, false) ∧ lk (tb_X9_bit) 49 = (x_c 51 (.int 100), false) ∧ lk (tb_X9_bit) 51 = (x_ii 52 (fun x y : Int32 => x + y), false) ∧ lk (tb_X9_bit) 52 = (x_rI, false) ∧ lk (tb_X9_bit) 53 = (x_al 54 0, false) ∧ lk (tb_X9_bit) 54 = (x_gR 9 1 57, false) ∧ lk (tb_X9_bit) 57 = (x_gR 5 2 60, false) ∧ lk (tb_X9_bit) 60 = (x_il 61 1, false) ∧ lk (tb_X9_bit) 61 = (x_ia 62, false) ∧ lk (tb_X9_bit) 62 = (x_c 64 (.int 100), false) ∧ lk (tb_X9_bit) 64 = (x_ii 65 (fun x y : Int32 => x + y), false) ∧ lk (tb_X9_bit) 65 = (x_rI, false) ∧ lk (tb_X9_bit) 66 = (x_al 67 0, false) ∧ lk (tb_X9_bit) 67 = (x_gR 9 1 70, false) ∧ lk (tb_X9_bit) 70 = (x_il 71 1, false) ∧ lk (tb_X9_bit) 71 = (x_cV 5 1 P_X5_checksOver 74, false) ∧ lk (tb_X9_bit) 74 = (x_rI, false) ∧ lk (tb_X9_bit) 75 = (x_c 77 (.int (-2)), false) ∧ lk (tb_X9_bit) 77 = (x_rI, false) := ⟨rfl, rfl, rfl, rfl, rfl, rfl, rfl, rfl, rfl, rfl, rfl, rfl, rfl, rfl, rfl, rfl, rfl, rfl, rfl, rfl, rfl, rfl, rfl, rfl, rfl, rfl, rfl, rfl, rfl, rfl, rfl, rfl⟩
def P_X9_bit : PTT := fun as M R => match as with
  | [.ref k, .int b, .int w] => k = 0 ∧ ∃ g, CR M.1 M.2.1 M.2.2 g ∧ GOk g ∧ Ans M R (gBit g b w) g
  | _ => False
set_option maxRecDepth 20000 in
theorem ok_X9_bit : Ok yX9_bit mt_X9_bit P_X9_bit := by
  refine Ok.of (by decide) rfl rfl rfl rfl fun av ⟨S, I, L⟩ R hP => ?_
  unfold P_X9_bit at hP
  split at hP
  case h_2 => exact hP.elim
  rename_i k b w
  obtain ⟨k, rfl⟩ : ∃ q : Nat, q = k := ⟨k, rfl⟩
  refine ⟨by simp [ent, wide, mt_X9_bit], ?_⟩
  show J mt_X9_bit R 0 [some (.ref k), some (.int b), some (.int w)] [] (S, I, L)
  try dsimp only at hP
  obtain ⟨rfl, g, hc, ho, hA⟩ := hP
  have h1 := hc.1
  have en : I 5 4 = nI (aN (gA g)) := hc.2.2.1.1
  have h9 := ho.2.1.1
  have hs := hc.2.2.1
  have hfin : ∀ v, gBit g b w = v → R (some (.int v)) (S, I, L) := fun v hv => (hv ▸ hA).s hc
  refine J.of tk_X9_bit 200 fun ρ hρ => ?_
  simp only [hρ, x_c, x_il, x_ll, x_al, x_is, x_as, x_ls, x_inc, x_ii, x_iq, x_i1, x_l2, x_lq, x_lh, x_i2l, x_l2i, x_lcmp, x_dup, x_dup2, x_pop, x_if, x_ifn, x_ic, x_icn, x_go, x_sw, swc, x_l01, x_mx, x_gI, x_gL, x_gR, x_pI, x_pZ, x_pL, x_pR, x_ia, x_za, x_aa, x_ias, x_zas, x_aas, x_fac, x_fa, x_slen, x_sa, x_ac, x_oi, x_new, x_na, x_cS, x_cV, x_cI, x_rI, x_rZ, x_rL, x_r0, pa, short, oc, lg, lset, lset2, wide, cond_true, cond_false, true_and, and_true, ↓reduceIte, Bool.false_eq_true, true_or, or_true, lf_X9_bit, h1.1.f, hc.ac, hc.ac.2.f, P_X5_hasBit, P_X5_checksOver, en, bI_0, Classical.not_not, eq_true (hs.ovq ho.2.1), hs.co ho.2.1]
  refine ⟨fun h => ?_, fun h => hfin _ (by rw [gBit, if_pos h])⟩
  obtain ⟨j, hj, rfl⟩ := hB.i (g := g) h ho
  have hv : vp_in (nI j) 9 := vp_in_nI (by omega) (by omega)
  have e7 : I (5 + 2) j = aL (gA g) j := hs.2.2.2.2.2.1 j (by omega)
  have e8 : I (5 + 3) j = (aD (gA g)).1 j := hs.2.2.2.2.2.2.1 j (by omega)
  rw [ncl (by omega), e7, e8, tn_nI (by omega)]
  have hn : ¬ ¬ hB g (nI j) := fun q => q h
  have et : tn (nI j) = j := tn_nI (by omega)
  refine ⟨⟨fun h0 => ⟨hv, hfin _ (by rw [gBit, if_neg hn, if_pos h0, et])⟩, fun h0 => ⟨hv, hfin _ (by rw [gBit, if_neg hn, if_neg (by omega), if_pos (by omega), et])⟩, fun h0 => ⟨⟨j, by omega, rfl⟩, hfin _ (by rw [gBit, if_neg hn, if_neg (by omega), if_neg (by omega), if_pos (by omega), et])⟩⟩, fun h0 => hfin _ (by rw [gBit, if_neg hn, if_neg (by omega), if_neg (by omega), if_neg (by omega)])⟩
def gMsg (g : GS) (c b : Int32) : Int32 := if ¬ (hC g c ∧ hB g b) then -1 else if (aV (gA g) (tn c)).testBit (tn b) = true then (aD (gA g)).2 (9 * tn c + tn b) + 100 else -9
def il_X9_message : List (Nat × Instr × Nat) := [(0, .aload_n 0, 1), (1, .getfield 19, 3), (4, .iload_n 1, 1), (5, .invokevirtual 162, 3), (8, .ifCond .eq 14, 3), (11, .aload_n 0, 1), (12, .getfield 19, 3), (15, .iload_n 2, 1), (16, .invokevirtual 148, 3), (19, .ifCond .ne 5, 3), (22, .iconst (-1), 1), (23, .ireturn, 1), (24, .aload_n 0, 1), (25, .getfield 19, 3), (28, .iload_n 1, 1), (29, .iload_n 2, 1), (30, .invokevirtual 168, 3), (33, .ifCond .eq 23, 3), (36, .aload_n 0, 1), (37, .getfield 19, 3), (40, .getfield 172, 3), (43, .iload_n 1, 1), (44, .bipush 9, 2), (46, .imul, 1), (47, .iload_n 2, 1), (48, .iadd, 1), (49, .iaload, 1), (50, .bipush 100, 2), (52, .iadd, 1), (53, .goto 5, 3), (56, .bipush (-9), 2), (58, .ireturn, 1)]
def mt_X9_message : Mt := (cX9_message, RX9, 3, (some .int), ({ frames := 2, cells := 0, slots := 0, locals := 43 } : Room), false, none, none)
set_option maxRecDepth 100000 in
theorem dl_X9_message : ∀ q ∈ il_X9_message, decode (mt_X9_message).1 q.1 = .ok q.2 := by decide +kernel
def tb_X9_message : Tb := [(0, x_al 1 0, false),
  (1, x_gR 9 1 4, false),
  (4, x_il 5 1, false),
  (5, x_cV 5 1 P_X5_hasCheck 8, false),
  (8, x_if 22 11 (fun x : Int32 => x = 0), false),
  (11, x_al 12 0, false),
  (12, x_gR 9 1 15, false),
  (15, x_il 16 2, false),
  (16, x_cV 5 1 P_X5_hasBit 19, false),
  (19, x_ifn 24 22 (fun x : Int32 => x = 0), false),
  (22, x_c 23 (.int (-1)), false),
  (23, x_rI, false),
  (24, x_al 25 0, false),
  (25, x_gR 9 1 28, false),
  (28, x_il 29 1, false),
  (29, x_il 30 2, false),
  (30, x_cV 5 2 P_X5_isOver 33, false),
  (33, x_if 56 36 (fun x : Int32 => x = 0), false),
  (36, x_al 37 0, false),
  (37, x_gR 9 1 40, false),
  (40, x_gR 5 3 43, false),
  (43, x_il 44 1, false),
  (44, x_c 46 (.int 9), false),
  (46, x_ii 47 (fun x y : Int32 => x * y), false),
  (47, x_il 48 2, false),
  (48, x_ii 49 (fun x y : Int32 => x + y), false),
  (49, x_ia 50, false),
  (50, x_c 52 (.int 100), false),
  (52, x_ii 53 (fun x y : Int32 => x + y), false),
  (53, x_go 58, false),
  (56, x_c 58 (.int (-9)), false),
  (58, x_rI, false)]
set_option maxRecDepth 100000 in
theorem tk_X9_message : TbOk (mt_X9_message) (tb_X9_message) :=
  tkc (s_aload_n (at_ dl_X9_message 0 (ins := .aload_n 0) rfl)) (
  tkc (s_gR (at_ dl_X9_message 1 (ins := .getfield 19) rfl) (by decide) (by decide) (by decide) (tg 255 (by decide +kernel) (by decide +kernel))) (
  tkc (s_iload_n (at_ dl_X9_message 2 (ins := .iload_n 1) rfl)) (
  tkc (s_cV ok_X5_hasCheck (at_ dl_X9_message 3 (ins := .invokevirtual 162) rfl) (by decide) rfl (tg 486 (by decide +kernel) (by decide +kernel)) (tg 392 (by decide +kernel) (by decide +kernel)) (tg 393 (by decide +kernel) (by decide +kernel)) (tg 45 (by decide +kernel) (by decide +kernel)) (tg 394 (by decide +kernel) (by decide +kernel)) (⟨by decide, by decide, by decide +kernel⟩) (⟨by decide, by decide⟩) rfl rfl) (
  tkc (s_if_eq (at_ dl_X9_message 4 (ins := .ifCond .eq 14) rfl) (by decide)) (
  tkc (s_aload_n (at_ dl_X9_message 5 (ins := .aload_n 0) rfl)) (
  tkc (s_gR (at_ dl_X9_message 6 (ins := .getfield 19) rfl) (by decide) (by decide) (by decide) (tg 255 (by decide +kernel) (by decide +kernel))) (
  tkc (s_iload_n (at_ dl_X9_message 7 (ins := .iload_n 2) rfl)) (
  tkc (s_cV ok_X5_hasBit (at_ dl_X9_message 8 (ins := .invokevirtual 148) rfl) (by decide) rfl (tg 480 (by decide +kernel) (by decide +kernel)) (tg 396 (by decide +kernel) (by decide +kernel)) (tg 397 (by decide +kernel) (by decide +kernel)) (tg 45 (by decide +kernel) (by decide +kernel)) (tg 398 (by decide +kernel) (by decide +kernel)) (⟨by decide, by decide, by decide +kernel⟩) (⟨by decide, by decide⟩) rfl rfl) (
  tkc (s_if_ne (at_ dl_X9_message 9 (ins := .ifCond .ne 5) rfl) (by decide)) (
  tkc (s_iconst (at_ dl_X9_message 10 (ins := .iconst (-1)) rfl) (by first | rfl | decide)) (
  tkc (s_rI (at_ dl_X9_message 11 (ins := .ireturn) rfl) rfl) (
  tkc (s_aload_n (at_ dl_X9_message 12 (ins := .aload_n 0) rfl)) (
  tkc (s_gR (at_ dl_X9_message 13 (ins := .getfield 19) rfl) (by decide) (by decide) (by decide) (tg 255 (by decide +kernel) (by decide +kernel))) (
  tkc (s_iload_n (at_ dl_X9_message 14 (ins := .iload_n 1) rfl)) (
  tkc (s_iload_n (at_ dl_X9_message 15 (ins := .iload_n 2) rfl)) (
  tkc (s_cV ok_X5_isOver (at_ dl_X9_message 16 (ins := .invokevirtual 168) rfl) (by decide) rfl (tg 491 (by decide +kernel) (by decide +kernel)) (tg 388 (by decide +kernel) (by decide +kernel)) (tg 389 (by decide +kernel) (by decide +kernel)) (tg 45 (by decide +kernel) (by decide +kernel)) (tg 390 (by decide +kernel) (by decide +kernel)) (⟨by decide, by decide, by decide +kernel⟩) (⟨by decide, by decide⟩) rfl rfl) (
  tkc (s_if_eq (at_ dl_X9_message 17 (ins := .ifCond .eq 23) rfl) (by decide)) (
  tkc (s_aload_n (at_ dl_X9_message 18 (ins := .aload_n 0) rfl)) (
  tkc (s_gR (at_ dl_X9_message 19 (ins := .getfield 19) rfl) (by decide) (by decide) (by decide) (tg 255 (by decide +kernel) (by decide +kernel))) (
  tkc (s_gR (at_ dl_X9_message 20 (ins := .getfield 172) rfl) (by decide) (by decide) (by decide) (tg 133 (by decide +kernel) (by decide +kernel))) (
  tkc (s_iload_n (at_ dl_X9_message 21 (ins := .iload_n 1) rfl)) (
  tkc (s_bipush (at_ dl_X9_message 22 (ins := .bipush 9) rfl) (by first | rfl | decide)) (
  tkc (s_imul (at_ dl_X9_message 23 (ins := .imul) rfl)) (
  tkc (s_iload_n (at_ dl_X9_message 24 (ins := .iload_n 2) rfl)) (
  tkc (s_iadd (at_ dl_X9_message 25 (ins := .iadd) rfl)) (
  tkc (s_ia (at_ dl_X9_message 26 (ins := .iaload) rfl)) (
  tkc (s_bipush (at_ dl_X9_message 27 (ins := .bipush 100) rfl) (by first | rfl | decide)) (
  tkc (s_iadd (at_ dl_X9_message 28 (ins := .iadd) rfl)) (
  tkc (s_goto (at_ dl_X9_message 29 (ins := .goto 5) rfl) (by decide)) (
  tkc (s_bipush (at_ dl_X9_message 30 (ins := .bipush (-9)) rfl) (by first | rfl | decide)) (
  tkc (s_rI (at_ dl_X9_message 31 (ins := .ireturn) rfl) rfl) ( tk0))))))))))))))))))))))))))))))))
theorem lf_X9_message : lk (tb_X9_message) 0 = (x_al 1 0, false) ∧ lk (tb_X9_message) 1 = (x_gR 9 1 4, false) ∧ lk (tb_X9_message) 4 = (x_il 5 1, false) ∧ lk (tb_X9_message) 5 = (x_cV 5 1 P_X5_hasCheck 8, false) ∧ lk (tb_X9_message) 8 = (x_if 22 11 (fun x : Int32 => x = 0), false) ∧ lk (tb_X9_message) 11 = (x_al 12 0, false) ∧ lk (tb_X9_message) 12 = (x_gR 9 1 15, false) ∧ lk (tb_X9_message) 15 = (x_il 16 2, false) ∧ lk (tb_X9_message) 16 = (x_cV 5 1 P_X5_hasBit 19, false) ∧ lk (tb_X9_message) 19 = (x_ifn 24 22 (fun x : Int32 => x = 0), false) ∧ lk (tb_X9_message) 22 = (x_c 23 (.int (-1)), false) ∧ lk (tb_X9_message) 23 = (x_rI, false) ∧ lk (tb_X9_message) 24 = (x_al 25 0, false) ∧ lk (tb_X9_message) 25 = (x_gR 9 1 28, false) ∧ lk (tb_X9_message) 28 = (x_il 29 1, false) ∧ lk (tb_X9_message) 29 = (x_il 30 2, false) ∧ lk (tb_X9_message) 30 = (x_cV 5 2 P_X5_isOver 33, false) ∧ lk (tb_X9_message) 33 = (x_if 56 36 (fun x : Int32 => x = 0), false) ∧ lk (tb_X9_message) 36 = (x_al 37 0, false) ∧ lk (tb_X9_message) 37 = (x_gR 9 1 40, false) ∧ lk (tb_X9_message) 40 = (x_gR 5 3 43, false) ∧ lk (tb_X9_message) 43 = (x_il 44 1, false) ∧ lk (tb_X9_message) 44 = (x_c 46 (.int 9), false) ∧ lk (tb_X9_message) 46 = (x_ii 47 (fun x y : Int32 => x * y), false) ∧ lk (tb_X9_message) 47 = (x_il 48 2, false) ∧ lk (tb_X9_message) 48 = (x_ii 49 (fun x y : Int32 => x + y), false) ∧ lk (tb_X9_message) 49 = (x_ia 50, false) ∧ lk (tb_X9_message) 50 = (x_c 52 (.int 100), false) ∧ lk (tb_X9_message) 52 = (x_ii 53 (fun x y : Int32 => x + y), false) ∧ lk (tb_X9_message) 53 = (x_go 58, false) ∧ lk (tb_X9_message) 56 = (x_c 58 (.int (-9)), false) ∧ lk (tb_X9_message) 58 = (x_rI, false) := ⟨rfl, rfl, rfl, rfl, rfl, rfl, rfl, rfl, rfl, rfl, rfl, rfl, rfl, rfl, rfl, rfl, rfl, rfl, rfl, rfl, rfl, rfl, rfl, rfl, rfl, rfl, rfl, rfl, rfl, rfl, rfl, rfl⟩
def P_X9_message : PTT := fun as M R => match as with
  | [.ref k, .int c, .int b] => k = 0 ∧ ∃ g, CR M.1 M.2.1 M.2.2 g ∧ GOk g ∧ Ans M R (gMsg g c b) g
  | _ => False
set_option maxRecDepth 20000 in
theorem ok_X9_message : Ok yX9_message mt_X9_message P_X9_message := by
  refine Ok.of (by decide) rfl rfl rfl rfl fun av ⟨S, I, L⟩ R hP => ?_
  unfold P_X9_message at hP
  split at hP
  case h_2 => exact hP.elim
  rename_i k c b
  obtain ⟨k, rfl⟩ : ∃ q : Nat, q = k := ⟨k, rfl⟩
  refine ⟨by simp [ent, wide, mt_X9_message], ?_⟩
  show J mt_X9_message R 0 [some (.ref k), some (.int c), some (.int b)] [] (S, I, L)
  try dsimp only at hP
  obtain ⟨rfl, g, hc, ho, hA⟩ := hP
  have h1 := hc.1
  have en : I 5 4 = nI (aN (gA g)) := hc.2.2.1.1
  have em : I 5 5 = nI (aM (gA g)) := hc.2.2.1.2.1
  have h9 := ho.2.1.1
  have hs := hc.2.2.1
  have hfin : ∀ v, gMsg g c b = v → R (some (.int v)) (S, I, L) := fun v hv => (hv ▸ hA).s hc
  have hx : ∃ m, m ≤ 6 ∧ nI (aM (gA g)) = nI m := ⟨_, h9.2.2, rfl⟩
  refine J.of tk_X9_message 200 fun ρ hρ => ?_
  simp only [hρ, x_c, x_il, x_ll, x_al, x_is, x_as, x_ls, x_inc, x_ii, x_iq, x_i1, x_l2, x_lq, x_lh, x_i2l, x_l2i, x_lcmp, x_dup, x_dup2, x_pop, x_if, x_ifn, x_ic, x_icn, x_go, x_sw, swc, x_l01, x_mx, x_gI, x_gL, x_gR, x_pI, x_pZ, x_pL, x_pR, x_ia, x_za, x_aa, x_ias, x_zas, x_aas, x_fac, x_fa, x_slen, x_sa, x_ac, x_oi, x_new, x_na, x_cS, x_cV, x_cI, x_rI, x_rZ, x_rL, x_r0, pa, short, oc, lg, lset, lset2, wide, cond_true, cond_false, true_and, and_true, ↓reduceIte, Bool.false_eq_true, true_or, or_true, lf_X9_message, h1.1.f, hc.ac, hc.ac.2.f, P_X5_hasBit, P_X5_hasCheck, P_X5_isOver, en, em, hx, bI_0, Classical.not_not]
  refine ⟨fun h => hfin _ (by rw [gMsg, if_pos (fun q => h q.1)]), fun h => ⟨fun h' => ?_, fun h' => hfin _ (by rw [gMsg, if_pos (fun q => h' q.2)])⟩⟩
  obtain ⟨i, hi, rfl⟩ := hC.i (g := g) h ho
  obtain ⟨j, hj, rfl⟩ := hB.i (g := g) h' ho
  have hv := ho.2.1.v hi
  have e6 : I (5 + 1) i = nI (aV (gA g) i) := hs.2.2.2.2.1 i hi
  have e9 : I (5 + 4) (9 * i + j) = (aD (gA g)).2 (9 * i + j) := hs.2.2.2.2.2.2.2 (9 * i + j) (by omega)
  have ei : nI i * 9 + nI j = nI (9 * i + j) := by rw [nI9, pk_mul, nI_add, Nat.mul_comm]
  rw [ei, ncl (by omega), ncl (by omega), e6, bit_c (by omega) (by omega), e9, Classical.not_not]
  have hg : gMsg g (nI i) (nI j) = if (aV (gA g) i).testBit j = true then (aD (gA g)).2 (9 * i + j) + 100 else -9 := by rw [gMsg, if_neg (fun q => q ⟨h, h'⟩), tn_nI (by omega), tn_nI (by omega)]
  refine ⟨fun h2 => hfin _ ?_, fun h2 => ⟨vp_in_nI (by omega) (by omega), hfin _ ?_⟩⟩
  · rw [hg, if_neg (fun q => h2 ⟨h, h', q⟩)]
  · rw [hg, if_pos h2.2.2]
/-- see -/
def gSee (g : GS) (n v : Int32) : Int32 × GS := if (n < 0 ∨ 20 < n) ∨ v < 0 ∨ ¬ v ≤ 63 then (-2, g) else if gN g = 6 then (-4, g) else (nI (gN g + 1), GE g (gN g + 1) (upd (gB g) (gN g) n) (upd (gO g) (gN g) v))
def il_X9_see : List (Nat × Instr × Nat) := [(0, .iload_n 1, 1), (1, .ifCond .lt 19, 3), (4, .iload_n 1, 1), (5, .bipush 20, 2), (7, .if_icmp .gt 13, 3), (10, .iload_n 2, 1), (11, .ifCond .lt 9, 3), (14, .iload_n 2, 1), (15, .bipush 63, 2), (17, .if_icmp .le 6, 3), (20, .bipush (-2), 2), (22, .ireturn, 1), (23, .aload_n 0, 1), (24, .getfield 59, 3), (27, .getfield 147, 3), (30, .bipush 6, 2), (32, .if_icmp .lt 6, 3), (35, .bipush (-4), 2), (37, .ireturn, 1), (38, .aload_n 0, 1), (39, .getfield 59, 3), (42, .iload_n 1, 1), (43, .iload_n 2, 1), (44, .invokevirtual 228, 3), (47, .ireturn, 1)]
def mt_X9_see : Mt := (cX9_see, RX9, 3, (some .int), ({ frames := 1, cells := 0, slots := 0, locals := 22 } : Room), false, none, none)
set_option maxRecDepth 100000 in
theorem dl_X9_see : ∀ q ∈ il_X9_see, decode (mt_X9_see).1 q.1 = .ok q.2 := by decide +kernel
def tb_X9_see : Tb := [(0, x_il 1 1, false),
  (1, x_if 20 4 (fun x : Int32 => x < 0), false),
  (4, x_il 5 1, false),
  (5, x_c 7 (.int 20), false),
  (7, x_ic 20 10 (fun x y : Int32 => y < x), false),
  (10, x_il 11 2, false),
  (11, x_if 20 14 (fun x : Int32 => x < 0), false),
  (14, x_il 15 2, false),
  (15, x_c 17 (.int 63), false),
  (17, x_ic 23 20 (fun x y : Int32 => x ≤ y), false),
  (20, x_c 22 (.int (-2)), false),
  (22, x_rI, false),
  (23, x_al 24 0, false),
  (24, x_gR 9 7 27, false),
  (27, x_gI 4 2 30, false),
  (30, x_c 32 (.int 6), false),
  (32, x_ic 38 35 (fun x y : Int32 => x < y), false),
  (35, x_c 37 (.int (-4)), false),
  (37, x_rI, false),
  (38, x_al 39 0, false),
  (39, x_gR 9 7 42, false),
  (42, x_il 43 1, false),
  (43, x_il 44 2, false),
  (44, x_cV 4 2 P_X4_add 47, false),
  (47, x_rI, false)]
set_option maxRecDepth 100000 in
theorem tk_X9_see : TbOk (mt_X9_see) (tb_X9_see) :=
  tkc (s_iload_n (at_ dl_X9_see 0 (ins := .iload_n 1) rfl)) (
  tkc (s_if_lt (at_ dl_X9_see 1 (ins := .ifCond .lt 19) rfl) (by decide)) (
  tkc (s_iload_n (at_ dl_X9_see 2 (ins := .iload_n 1) rfl)) (
  tkc (s_bipush (at_ dl_X9_see 3 (ins := .bipush 20) rfl) (by first | rfl | decide)) (
  tkc (s_ic_gt (at_ dl_X9_see 4 (ins := .if_icmp .gt 13) rfl) (by decide)) (
  tkc (s_iload_n (at_ dl_X9_see 5 (ins := .iload_n 2) rfl)) (
  tkc (s_if_lt (at_ dl_X9_see 6 (ins := .ifCond .lt 9) rfl) (by decide)) (
  tkc (s_iload_n (at_ dl_X9_see 7 (ins := .iload_n 2) rfl)) (
  tkc (s_bipush (at_ dl_X9_see 8 (ins := .bipush 63) rfl) (by first | rfl | decide)) (
  tkc (s_ic_le (at_ dl_X9_see 9 (ins := .if_icmp .le 6) rfl) (by decide)) (
  tkc (s_bipush (at_ dl_X9_see 10 (ins := .bipush (-2)) rfl) (by first | rfl | decide)) (
  tkc (s_rI (at_ dl_X9_see 11 (ins := .ireturn) rfl) rfl) (
  tkc (s_aload_n (at_ dl_X9_see 12 (ins := .aload_n 0) rfl)) (
  tkc (s_gR (at_ dl_X9_see 13 (ins := .getfield 59) rfl) (by decide) (by decide) (by decide) (tg 261 (by decide +kernel) (by decide +kernel))) (
  tkc (s_gI (at_ dl_X9_see 14 (ins := .getfield 147) rfl) (by decide) (by decide) (by decide) (tg 246 (by decide +kernel) (by decide +kernel))) (
  tkc (s_bipush (at_ dl_X9_see 15 (ins := .bipush 6) rfl) (by first | rfl | decide)) (
  tkc (s_ic_lt (at_ dl_X9_see 16 (ins := .if_icmp .lt 6) rfl) (by decide)) (
  tkc (s_bipush (at_ dl_X9_see 17 (ins := .bipush (-4)) rfl) (by first | rfl | decide)) (
  tkc (s_rI (at_ dl_X9_see 18 (ins := .ireturn) rfl) rfl) (
  tkc (s_aload_n (at_ dl_X9_see 19 (ins := .aload_n 0) rfl)) (
  tkc (s_gR (at_ dl_X9_see 20 (ins := .getfield 59) rfl) (by decide) (by decide) (by decide) (tg 261 (by decide +kernel) (by decide +kernel))) (
  tkc (s_iload_n (at_ dl_X9_see 21 (ins := .iload_n 1) rfl)) (
  tkc (s_iload_n (at_ dl_X9_see 22 (ins := .iload_n 2) rfl)) (
  tkc (s_cV ok_X4_add (at_ dl_X9_see 23 (ins := .invokevirtual 228) rfl) (by decide) rfl (tg 610 (by decide +kernel) (by decide +kernel)) (tg 611 (by decide +kernel) (by decide +kernel)) (tg 612 (by decide +kernel) (by decide +kernel)) (tg 50 (by decide +kernel) (by decide +kernel)) (tg 613 (by decide +kernel) (by decide +kernel)) (⟨by decide, by decide, by decide +kernel⟩) (⟨by decide, by decide⟩) rfl rfl) (
  tkc (s_rI (at_ dl_X9_see 24 (ins := .ireturn) rfl) rfl) ( tk0)))))))))))))))))))))))))
theorem lf_X9_see : lk (tb_X9_see) 0 = (x_il 1 1, false) ∧ lk (tb_X9_see) 1 = (x_if 20 4 (fun x : Int32 => x < 0), false) ∧ lk (tb_X9_see) 4 = (x_il 5 1, false) ∧ lk (tb_X9_see) 5 = (x_c 7 (.int 20), false) ∧ lk (tb_X9_see) 7 = (x_ic 20 10 (fun x y : Int32 => y < x), false) ∧ lk (tb_X9_see) 10 = (x_il 11 2, false) ∧ lk (tb_X9_see) 11 = (x_if 20 14 (fun x : Int32 => x < 0), false) ∧ lk (tb_X9_see) 14 = (x_il 15 2, false) ∧ lk (tb_X9_see) 15 = (x_c 17 (.int 63), false) ∧ lk (tb_X9_see) 17 = (x_ic 23 20 (fun x y : Int32 => x ≤ y), false) ∧ lk (tb_X9_see) 20 = (x_c 22 (.int (-2)), false) ∧ lk (tb_X9_see) 22 = (x_rI, false) ∧ lk (tb_X9_see) 23 = (x_al 24 0, false) ∧ lk (tb_X9_see) 24 = (x_gR 9 7 27, false) ∧ lk (tb_X9_see) 27 = (x_gI 4 2 30, false) ∧ lk (tb_X9_see) 30 = (x_c 32 (.int 6), false) ∧ lk (tb_X9_see) 32 = (x_ic 38 35 (fun x y : Int32 => x < y), false) ∧ lk (tb_X9_see) 35 = (x_c 37 (.int (-4)), false) ∧ lk (tb_X9_see) 37 = (x_rI, false) ∧ lk (tb_X9_see) 38 = (x_al 39 0, false) ∧ lk (tb_X9_see) 39 = (x_gR 9 7 42, false) ∧ lk (tb_X9_see) 42 = (x_il 43 1, false) ∧ lk (tb_X9_see) 43 = (x_il 44 2, false) ∧ lk (tb_X9_see) 44 = (x_cV 4 2 P_X4_add 47, false) ∧ lk (tb_X9_see) 47 = (x_rI, false) := ⟨rfl, rfl, rfl, rfl, rfl, rfl, rfl, rfl, rfl, rfl, rfl, rfl, rfl, rfl, rfl, rfl, rfl, rfl, rfl, rfl, rfl, rfl, rfl, rfl, rfl⟩
def P_X9_see : PTT := fun as M R => match as with
  | [.ref k, .int n, .int v] => k = 0 ∧ ∃ g, CR M.1 M.2.1 M.2.2 g ∧ GOk g ∧ Ans M R (gSee g n v).1 (gSee g n v).2
  | _ => False
set_option maxRecDepth 20000 in
theorem ok_X9_see : Ok yX9_see mt_X9_see P_X9_see := by
  refine Ok.of (by decide) rfl rfl rfl rfl fun av ⟨S, I, L⟩ R hP => ?_
  unfold P_X9_see at hP
  split at hP
  case h_2 => exact hP.elim
  rename_i k n v
  obtain ⟨k, rfl⟩ : ∃ q : Nat, q = k := ⟨k, rfl⟩
  refine ⟨by simp [ent, wide, mt_X9_see], ?_⟩
  show J mt_X9_see R 0 [some (.ref k), some (.int n), some (.int v)] [] (S, I, L)
  try dsimp only at hP
  obtain ⟨rfl, g, hc, ho, hA⟩ := hP
  obtain ⟨h1, h2, h3, h4, h5, h6, h7, h8⟩ := id hc
  have hl := ho.2.2.2.2.1
  refine J.of tk_X9_see 200 fun ρ hρ => ?_
  simp only [hρ, x_c, x_il, x_ll, x_al, x_is, x_as, x_ls, x_inc, x_ii, x_iq, x_i1, x_l2, x_lq, x_lh, x_i2l, x_l2i, x_lcmp, x_dup, x_dup2, x_pop, x_if, x_ifn, x_ic, x_icn, x_go, x_sw, swc, x_l01, x_mx, x_gI, x_gL, x_gR, x_pI, x_pZ, x_pL, x_pR, x_ia, x_za, x_aa, x_ias, x_zas, x_aas, x_fac, x_fa, x_slen, x_sa, x_ac, x_oi, x_new, x_na, x_cS, x_cV, x_cI, x_rI, x_rZ, x_rL, x_r0, pa, short, oc, lg, lset, lset2, wide, cond_true, cond_false, true_and, and_true, ↓reduceIte, Bool.false_eq_true, true_or, or_true, lf_X9_see, h1.1.f, h1.2.2.2.2.2.2.2.2.2.1, h1.2.2.2.2.2.2.2.2.2.1.f, h6.1, nI6, nI_ltI (show gN g < 2 ^ 31 by omega) (show 6 < 2 ^ 31 by omega), P_X4_add, Classical.not_not]
  have hbad : ((n < 0 ∨ 20 < n) ∨ v < 0 ∨ ¬ v ≤ 63) → R (some (.int (-2))) (S, I, L) := fun h => (hA.e (by rw [gSee, if_pos h])).s hc
  refine ⟨fun h => hbad (.inl (.inl h)), fun q1 => ⟨fun h => hbad (.inl (.inr h)), fun q2 => ⟨fun h => hbad (.inr (.inl h)), fun q3 => ⟨fun q4 => ?_, fun h => hbad (.inr (.inr h))⟩⟩⟩⟩
  have hno : ¬ ((n < 0 ∨ 20 < n) ∨ v < 0 ∨ ¬ v ≤ 63) := fun q => q.elim (fun q => q.elim q1 q2) (fun q => q.elim q3 (fun r => r q4))
  refine ⟨fun h => ⟨gN g, h, rfl, ?_⟩, fun h => (hA.e (by rw [gSee, if_neg hno, if_pos (by omega)])).s hc⟩
  refine (hA.e (show gSee g n v = (nI (gN g + 1), GE g (gN g + 1) (upd (gB g) (gN g) n) (upd (gO g) (gN g) v)) by rw [gSee, if_neg hno, if_neg (by omega)])) _ L (fun q hq => by rw [mS_n (by omega), mS_n (by omega), mS_n (by omega)]) (fun _ _ => rfl) ⟨h1, h2.fr rfl rfl, h3.fr (fun q a b => by rw [mS_n (by omega), mS_n (by omega), mS_n (by omega)]), CA.fr (g := g) h4 (fun q a b => by rw [mS_n (by omega), mS_n (by omega), mS_n (by omega)]), CK.fr (g := g) h5 (fun q a b => by rw [mS_n (by omega), mS_n (by omega), mS_n (by omega)]), ⟨by rw [mS_s, upd_s]; rfl, fun j hj => ?_⟩, h7, h8.fr rfl⟩
  replace hj : j < gN g + 1 := hj
  show upd (I 94) (gN g) n j = upd (gB g) (gN g) n j ∧ upd (I 95) (gN g) v j = upd (gO g) (gN g) v j
  simp only [upd_app]
  split
  · exact ⟨rfl, rfl⟩
  · exact h6.2 j (by omega)
/-- unsee -/
def gUnsee (g : GS) : Int32 × GS := (nI (gN g), GE g 0 (gB g) (gO g))
def il_X9_unsee : List (Nat × Instr × Nat) := [(0, .aload_n 0, 1), (1, .getfield 59, 3), (4, .getfield 147, 3), (7, .istore_n 1, 1), (8, .aload_n 0, 1), (9, .getfield 59, 3), (12, .iconst 0, 1), (13, .putfield 147, 3), (16, .iload_n 1, 1), (17, .ireturn, 1)]
def mt_X9_unsee : Mt := (cX9_unsee, RX9, 2, (some .int), ({ frames := 0, cells := 0, slots := 0, locals := 0 } : Room), false, none, none)
set_option maxRecDepth 100000 in
theorem dl_X9_unsee : ∀ q ∈ il_X9_unsee, decode (mt_X9_unsee).1 q.1 = .ok q.2 := by decide +kernel
def tb_X9_unsee : Tb := [(0, x_al 1 0, false),
  (1, x_gR 9 7 4, false),
  (4, x_gI 4 2 7, false),
  (7, x_is 8 1, false),
  (8, x_al 9 0, false),
  (9, x_gR 9 7 12, false),
  (12, x_c 13 (.int 0), false),
  (13, x_pI 4 2 16, false),
  (16, x_il 17 1, false),
  (17, x_rI, false)]
set_option maxRecDepth 100000 in
theorem tk_X9_unsee : TbOk (mt_X9_unsee) (tb_X9_unsee) :=
  tkc (s_aload_n (at_ dl_X9_unsee 0 (ins := .aload_n 0) rfl)) (
  tkc (s_gR (at_ dl_X9_unsee 1 (ins := .getfield 59) rfl) (by decide) (by decide) (by decide) (tg 261 (by decide +kernel) (by decide +kernel))) (
  tkc (s_gI (at_ dl_X9_unsee 2 (ins := .getfield 147) rfl) (by decide) (by decide) (by decide) (tg 246 (by decide +kernel) (by decide +kernel))) (
  tkc (s_istore_n (at_ dl_X9_unsee 3 (ins := .istore_n 1) rfl) (by decide)) (
  tkc (s_aload_n (at_ dl_X9_unsee 4 (ins := .aload_n 0) rfl)) (
  tkc (s_gR (at_ dl_X9_unsee 5 (ins := .getfield 59) rfl) (by decide) (by decide) (by decide) (tg 261 (by decide +kernel) (by decide +kernel))) (
  tkc (s_iconst (at_ dl_X9_unsee 6 (ins := .iconst 0) rfl) (by first | rfl | decide)) (
  tkc (s_pI (at_ dl_X9_unsee 7 (ins := .putfield 147) rfl) (by decide) (by decide) (by decide) (by decide) (tg 246 (by decide +kernel) (by decide +kernel))) (
  tkc (s_iload_n (at_ dl_X9_unsee 8 (ins := .iload_n 1) rfl)) (
  tkc (s_rI (at_ dl_X9_unsee 9 (ins := .ireturn) rfl) rfl) ( tk0))))))))))
theorem lf_X9_unsee : lk (tb_X9_unsee) 0 = (x_al 1 0, false) ∧ lk (tb_X9_unsee) 1 = (x_gR 9 7 4, false) ∧ lk (tb_X9_unsee) 4 = (x_gI 4 2 7, false) ∧ lk (tb_X9_unsee) 7 = (x_is 8 1, false) ∧ lk (tb_X9_unsee) 8 = (x_al 9 0, false) ∧ lk (tb_X9_unsee) 9 = (x_gR 9 7 12, false) ∧ lk (tb_X9_unsee) 12 = (x_c 13 (.int 0), false) ∧ lk (tb_X9_unsee) 13 = (x_pI 4 2 16, false) ∧ lk (tb_X9_unsee) 16 = (x_il 17 1, false) ∧ lk (tb_X9_unsee) 17 = (x_rI, false) := ⟨rfl, rfl, rfl, rfl, rfl, rfl, rfl, rfl, rfl, rfl⟩
def P_X9_unsee : PTT := fun as M R => match as with
  | [.ref k] => k = 0 ∧ ∃ g, CR M.1 M.2.1 M.2.2 g ∧ GOk g ∧ Ans M R (gUnsee g).1 (gUnsee g).2
  | _ => False
set_option maxRecDepth 20000 in
theorem ok_X9_unsee : Ok yX9_unsee mt_X9_unsee P_X9_unsee := by
  refine Ok.of (by decide) rfl rfl rfl rfl fun av ⟨S, I, L⟩ R hP => ?_
  unfold P_X9_unsee at hP
  split at hP
  case h_2 => exact hP.elim
  rename_i k
  obtain ⟨k, rfl⟩ : ∃ q : Nat, q = k := ⟨k, rfl⟩
  refine ⟨by simp [ent, wide, mt_X9_unsee], ?_⟩
  show J mt_X9_unsee R 0 [some (.ref k), none] [] (S, I, L)
  try dsimp only at hP
  obtain ⟨rfl, g, ⟨h1, h2, h3, h4, h5, h6, h7, h8⟩, ho, hA⟩ := hP
  refine J.of tk_X9_unsee 200 fun ρ hρ => ?_
  simp only [hρ, x_c, x_il, x_ll, x_al, x_is, x_as, x_ls, x_inc, x_ii, x_iq, x_i1, x_l2, x_lq, x_lh, x_i2l, x_l2i, x_lcmp, x_dup, x_dup2, x_pop, x_if, x_ifn, x_ic, x_icn, x_go, x_sw, swc, x_l01, x_mx, x_gI, x_gL, x_gR, x_pI, x_pZ, x_pL, x_pR, x_ia, x_za, x_aa, x_ias, x_zas, x_aas, x_fac, x_fa, x_slen, x_sa, x_ac, x_oi, x_new, x_na, x_cS, x_cV, x_cI, x_rI, x_rZ, x_rL, x_r0, pa, short, oc, lg, lset, lset2, wide, cond_true, cond_false, true_and, and_true, ↓reduceIte, Bool.false_eq_true, true_or, or_true, lf_X9_unsee, h1.1.f, h1.2.2.2.2.2.2.2.2.2.1, h1.2.2.2.2.2.2.2.2.2.1.f, h6.1]
  exact hA _ L (fun q hq => mS_n (by omega)) (fun _ _ => rfl) ⟨h1, h2.fr rfl rfl, h3.fr (fun q a b => mS_n (by omega)), CA.fr (g := g) h4 (fun q a b => mS_n (by omega)), CK.fr (g := g) h5 (fun q a b => mS_n (by omega)), ⟨by rw [mS_s, upd_s]; rfl, fun j hj => absurd hj (Nat.not_lt_zero j)⟩, h7, h8.fr rfl⟩
/-- seed -/
def il_X9_seed : List (Nat × Instr × Nat) := [(0, .aload_n 0, 1), (1, .getfield 71, 3), (4, .lstore_n 3, 1), (5, .aload_n 0, 1), (6, .lload_n 1, 1), (7, .putfield 71, 3), (10, .lload_n 3, 1), (11, .lreturn, 1)]
def mt_X9_seed : Mt := (cX9_seed, RX9, 5, (some .long), ({ frames := 0, cells := 0, slots := 0, locals := 0 } : Room), false, none, none)
set_option maxRecDepth 100000 in
theorem dl_X9_seed : ∀ q ∈ il_X9_seed, decode (mt_X9_seed).1 q.1 = .ok q.2 := by decide +kernel
def tb_X9_seed : Tb := [(0, x_al 1 0, false),
  (1, x_gL 9 10 4, false),
  (4, x_ls 5 3, false),
  (5, x_al 6 0, false),
  (6, x_ll 7 1, false),
  (7, x_pL 9 10 10, false),
  (10, x_ll 11 3, false),
  (11, x_rL, false)]
set_option maxRecDepth 100000 in
theorem tk_X9_seed : TbOk (mt_X9_seed) (tb_X9_seed) :=
  tkc (s_aload_n (at_ dl_X9_seed 0 (ins := .aload_n 0) rfl)) (
  tkc (s_gL (at_ dl_X9_seed 1 (ins := .getfield 71) rfl) (by decide) (by decide) (by decide) (tg 264 (by decide +kernel) (by decide +kernel))) (
  tkc (s_lstore_n (at_ dl_X9_seed 2 (ins := .lstore_n 3) rfl) (by decide)) (
  tkc (s_aload_n (at_ dl_X9_seed 3 (ins := .aload_n 0) rfl)) (
  tkc (s_lload_n (at_ dl_X9_seed 4 (ins := .lload_n 1) rfl)) (
  tkc (s_pL (at_ dl_X9_seed 5 (ins := .putfield 71) rfl) (by decide) (by decide) (by decide) (by decide) (tg 264 (by decide +kernel) (by decide +kernel))) (
  tkc (s_lload_n (at_ dl_X9_seed 6 (ins := .lload_n 3) rfl)) (
  tkc (s_rL (at_ dl_X9_seed 7 (ins := .lreturn) rfl) rfl) ( tk0))))))))
theorem lf_X9_seed : lk (tb_X9_seed) 0 = (x_al 1 0, false) ∧ lk (tb_X9_seed) 1 = (x_gL 9 10 4, false) ∧ lk (tb_X9_seed) 4 = (x_ls 5 3, false) ∧ lk (tb_X9_seed) 5 = (x_al 6 0, false) ∧ lk (tb_X9_seed) 6 = (x_ll 7 1, false) ∧ lk (tb_X9_seed) 7 = (x_pL 9 10 10, false) ∧ lk (tb_X9_seed) 10 = (x_ll 11 3, false) ∧ lk (tb_X9_seed) 11 = (x_rL, false) := ⟨rfl, rfl, rfl, rfl, rfl, rfl, rfl, rfl⟩
def P_X9_seed : PTT := fun as M R => match as with
  | [.ref k, .long v] => k = 0 ∧ ∃ g, CR M.1 M.2.1 M.2.2 g ∧ ∀ L', (∀ q, q ≠ 0 → L' q = M.2.2 q) → CR M.1 M.2.1 L' (GZ g v) → R (some (.long (gZ g))) (M.1, M.2.1, L')
  | _ => False
set_option maxRecDepth 20000 in
theorem ok_X9_seed : Ok yX9_seed mt_X9_seed P_X9_seed := by
  refine Ok.of (by decide) rfl rfl rfl rfl fun av ⟨S, I, L⟩ R hP => ?_
  unfold P_X9_seed at hP
  split at hP
  case h_2 => exact hP.elim
  rename_i k v
  obtain ⟨k, rfl⟩ : ∃ q : Nat, q = k := ⟨k, rfl⟩
  refine ⟨by simp [ent, wide, mt_X9_seed], ?_⟩
  show J mt_X9_seed R 0 [some (.ref k), some (.long v), none, none, none] [] (S, I, L)
  try dsimp only at hP
  obtain ⟨rfl, g, ⟨h1, h2, h3, h4, h5, h6, h7, h8⟩, hA⟩ := hP
  refine J.of tk_X9_seed 200 fun ρ hρ => ?_
  simp only [hρ, x_c, x_il, x_ll, x_al, x_is, x_as, x_ls, x_inc, x_ii, x_iq, x_i1, x_l2, x_lq, x_lh, x_i2l, x_l2i, x_lcmp, x_dup, x_dup2, x_pop, x_if, x_ifn, x_ic, x_icn, x_go, x_sw, swc, x_l01, x_mx, x_gI, x_gL, x_gR, x_pI, x_pZ, x_pL, x_pR, x_ia, x_za, x_aa, x_ias, x_zas, x_aas, x_fac, x_fa, x_slen, x_sa, x_ac, x_oi, x_new, x_na, x_cS, x_cV, x_cI, x_rI, x_rZ, x_rL, x_r0, pa, short, oc, lg, lset, lset2, wide, cond_true, cond_false, true_and, and_true, ↓reduceIte, Bool.false_eq_true, true_or, or_true, lf_X9_seed, h1.1.f, h7]
  exact hA _ (fun q hq => mS_n hq) ⟨h1, h2, h3, h4, h5, h6, by rw [mS_s]; simp [vp_updL]; rfl, h8⟩
/-- keep -/
def gKeep (g : GS) (x : Int32) : Int32 × GS := if x < 0 ∨ ¬ x < 2 then (-1, g) else (aR (gA g), GK g (fun i => if i = tn x then true else gK g i) (fun i => if i = tn x then gA g else gS g i))
theorem ix2 {x : Int32} (h1 : ¬ x < 0) (h2 : x < 2) : ∃ i, i < 2 ∧ x = nI i := by
  rcases pk_ix x (n := 2) (by omega) with h | h | h
  · exact absurd h h1
  · exact absurd h2 (Int32.not_lt.mpr h)
  · exact h
theorem slot {S : Sh} (h : IsCl S) {i : Nat} (hi : i < 2) : sR S 96 i = 97 + 5 * i ∧ IsSt S (97 + 5 * i) := by
  obtain ⟨-, -, -, -, -, -, -, -, -, -, hs, h97, h102⟩ := h
  rcases b2 hi with rfl | rfl
  · exact ⟨hs.2.2.1, h97⟩
  · exact ⟨hs.2.2.2.1, h102⟩
def il_X9_keep : List (Nat × Instr × Nat) := [(0, .iload_n 1, 1), (1, .ifCond .lt 8, 3), (4, .iload_n 1, 1), (5, .iconst 2, 1), (6, .if_icmp .lt 5, 3), (9, .iconst (-1), 1), (10, .ireturn, 1), (11, .aload_n 0, 1), (12, .getfield 63, 3), (15, .iload_n 1, 1), (16, .aaload, 1), (17, .aload_n 0, 1), (18, .getfield 19, 3), (21, .invokevirtual 219, 3), (24, .aload_n 0, 1), (25, .getfield 67, 3), (28, .iload_n 1, 1), (29, .iconst 1, 1), (30, .bastore, 1), (31, .aload_n 0, 1), (32, .getfield 19, 3), (35, .getfield 107, 3), (38, .ireturn, 1)]
def mt_X9_keep : Mt := (cX9_keep, RX9, 2, (some .int), ({ frames := 2, cells := 0, slots := 0, locals := 39 } : Room), false, none, none)
set_option maxRecDepth 100000 in
theorem dl_X9_keep : ∀ q ∈ il_X9_keep, decode (mt_X9_keep).1 q.1 = .ok q.2 := by decide +kernel
def tb_X9_keep : Tb := [(0, x_il 1 1, false),
  (1, x_if 9 4 (fun x : Int32 => x < 0), false),
  (4, x_il 5 1, false),
  (5, x_c 6 (.int 2), false),
  (6, x_ic 11 9 (fun x y : Int32 => x < y), false),
  (9, x_c 10 (.int (-1)), false),
  (10, x_rI, false),
  (11, x_al 12 0, false),
  (12, x_gR 9 8 15, false),
  (15, x_il 16 1, false),
  (16, x_aa 17, false),
  (17, x_al 18 0, false),
  (18, x_gR 9 1 21, false),
  (21, x_cV 5 1 P_X5_becomeLike 24, false),
  (24, x_al 25 0, false),
  (25, x_gR 9 9 28, false),
  (28, x_il 29 1, false),
  (29, x_c 30 (.int 1), false),
  (30, x_zas 31, false),
  (31, x_al 32 0, false),
  (32, x_gR 9 1 35, false),
  (35, x_gI 5 7 38, false),
  (38, x_rI, false)]
set_option maxRecDepth 100000 in
theorem tk_X9_keep : TbOk (mt_X9_keep) (tb_X9_keep) :=
  tkc (s_iload_n (at_ dl_X9_keep 0 (ins := .iload_n 1) rfl)) (
  tkc (s_if_lt (at_ dl_X9_keep 1 (ins := .ifCond .lt 8) rfl) (by decide)) (
  tkc (s_iload_n (at_ dl_X9_keep 2 (ins := .iload_n 1) rfl)) (
  tkc (s_iconst (at_ dl_X9_keep 3 (ins := .iconst 2) rfl) (by first | rfl | decide)) (
  tkc (s_ic_lt (at_ dl_X9_keep 4 (ins := .if_icmp .lt 5) rfl) (by decide)) (
  tkc (s_iconst (at_ dl_X9_keep 5 (ins := .iconst (-1)) rfl) (by first | rfl | decide)) (
  tkc (s_rI (at_ dl_X9_keep 6 (ins := .ireturn) rfl) rfl) (
  tkc (s_aload_n (at_ dl_X9_keep 7 (ins := .aload_n 0) rfl)) (
  tkc (s_gR (at_ dl_X9_keep 8 (ins := .getfield 63) rfl) (by decide) (by decide) (by decide) (tg 262 (by decide +kernel) (by decide +kernel))) (
  tkc (s_iload_n (at_ dl_X9_keep 9 (ins := .iload_n 1) rfl)) (
  tkc (s_aa (at_ dl_X9_keep 10 (ins := .aaload) rfl)) (
  tkc (s_aload_n (at_ dl_X9_keep 11 (ins := .aload_n 0) rfl)) (
  tkc (s_gR (at_ dl_X9_keep 12 (ins := .getfield 19) rfl) (by decide) (by decide) (by decide) (tg 255 (by decide +kernel) (by decide +kernel))) (
  tkc (s_cV ok_X5_becomeLike (at_ dl_X9_keep 13 (ins := .invokevirtual 219) rfl) (by decide) rfl (tg 443 (by decide +kernel) (by decide +kernel)) (tg 444 (by decide +kernel) (by decide +kernel)) (tg 445 (by decide +kernel) (by decide +kernel)) (tg 45 (by decide +kernel) (by decide +kernel)) (tg 446 (by decide +kernel) (by decide +kernel)) (⟨by decide, by decide, by decide +kernel⟩) (⟨by decide, by decide⟩) rfl rfl) (
  tkc (s_aload_n (at_ dl_X9_keep 14 (ins := .aload_n 0) rfl)) (
  tkc (s_gR (at_ dl_X9_keep 15 (ins := .getfield 67) rfl) (by decide) (by decide) (by decide) (tg 263 (by decide +kernel) (by decide +kernel))) (
  tkc (s_iload_n (at_ dl_X9_keep 16 (ins := .iload_n 1) rfl)) (
  tkc (s_iconst (at_ dl_X9_keep 17 (ins := .iconst 1) rfl) (by first | rfl | decide)) (
  tkc (s_zas (at_ dl_X9_keep 18 (ins := .bastore) rfl)) (
  tkc (s_aload_n (at_ dl_X9_keep 19 (ins := .aload_n 0) rfl)) (
  tkc (s_gR (at_ dl_X9_keep 20 (ins := .getfield 19) rfl) (by decide) (by decide) (by decide) (tg 255 (by decide +kernel) (by decide +kernel))) (
  tkc (s_gI (at_ dl_X9_keep 21 (ins := .getfield 107) rfl) (by decide) (by decide) (by decide) (tg 150 (by decide +kernel) (by decide +kernel))) (
  tkc (s_rI (at_ dl_X9_keep 22 (ins := .ireturn) rfl) rfl) ( tk0)))))))))))))))))))))))
theorem lf_X9_keep : lk (tb_X9_keep) 0 = (x_il 1 1, false) ∧ lk (tb_X9_keep) 1 = (x_if 9 4 (fun x : Int32 => x < 0), false) ∧ lk (tb_X9_keep) 4 = (x_il 5 1, false) ∧ lk (tb_X9_keep) 5 = (x_c 6 (.int 2), false) ∧ lk (tb_X9_keep) 6 = (x_ic 11 9 (fun x y : Int32 => x < y), false) ∧ lk (tb_X9_keep) 9 = (x_c 10 (.int (-1)), false) ∧ lk (tb_X9_keep) 10 = (x_rI, false) ∧ lk (tb_X9_keep) 11 = (x_al 12 0, false) ∧ lk (tb_X9_keep) 12 = (x_gR 9 8 15, false) ∧ lk (tb_X9_keep) 15 = (x_il 16 1, false) ∧ lk (tb_X9_keep) 16 = (x_aa 17, false) ∧ lk (tb_X9_keep) 17 = (x_al 18 0, false) ∧ lk (tb_X9_keep) 18 = (x_gR 9 1 21, false) ∧ lk (tb_X9_keep) 21 = (x_cV 5 1 P_X5_becomeLike 24, false) ∧ lk (tb_X9_keep) 24 = (x_al 25 0, false) ∧ lk (tb_X9_keep) 25 = (x_gR 9 9 28, false) ∧ lk (tb_X9_keep) 28 = (x_il 29 1, false) ∧ lk (tb_X9_keep) 29 = (x_c 30 (.int 1), false) ∧ lk (tb_X9_keep) 30 = (x_zas 31, false) ∧ lk (tb_X9_keep) 31 = (x_al 32 0, false) ∧ lk (tb_X9_keep) 32 = (x_gR 9 1 35, false) ∧ lk (tb_X9_keep) 35 = (x_gI 5 7 38, false) ∧ lk (tb_X9_keep) 38 = (x_rI, false) := ⟨rfl, rfl, rfl, rfl, rfl, rfl, rfl, rfl, rfl, rfl, rfl, rfl, rfl, rfl, rfl, rfl, rfl, rfl, rfl, rfl, rfl, rfl, rfl⟩
def P_X9_keep : PTT := fun as M R => match as with
  | [.ref k, .int x] => k = 0 ∧ ∃ g, CR M.1 M.2.1 M.2.2 g ∧ GOk g ∧ Ans M R (gKeep g x).1 (gKeep g x).2
  | _ => False
set_option maxRecDepth 20000 in
theorem ok_X9_keep : Ok yX9_keep mt_X9_keep P_X9_keep := by
  refine Ok.of (by decide) rfl rfl rfl rfl fun av ⟨S, I, L⟩ R hP => ?_
  unfold P_X9_keep at hP
  split at hP
  case h_2 => exact hP.elim
  rename_i k x
  obtain ⟨k, rfl⟩ : ∃ q : Nat, q = k := ⟨k, rfl⟩
  refine ⟨by simp [ent, wide, mt_X9_keep], ?_⟩
  show J mt_X9_keep R 0 [some (.ref k), some (.int x)] [] (S, I, L)
  try dsimp only at hP
  obtain ⟨rfl, g, hc, ho, hA⟩ := hP
  obtain ⟨h1, h2, h3, h4, h5, h6, h7, h8⟩ := id hc
  have hbad : (x < 0 ∨ ¬ x < 2) → R (some (.int (-1))) (S, I, L) := fun h => (hA.e (by rw [gKeep, if_pos h])).s hc
  by_cases hx : x < 0 ∨ ¬ x < 2
  · refine J.of tk_X9_keep 200 fun ρ hρ => ?_
    simp only [hρ, x_c, x_il, x_ll, x_al, x_is, x_as, x_ls, x_inc, x_ii, x_iq, x_i1, x_l2, x_lq, x_lh, x_i2l, x_l2i, x_lcmp, x_dup, x_dup2, x_pop, x_if, x_ifn, x_ic, x_icn, x_go, x_sw, swc, x_l01, x_mx, x_gI, x_gL, x_gR, x_pI, x_pZ, x_pL, x_pR, x_ia, x_za, x_aa, x_ias, x_zas, x_aas, x_fac, x_fa, x_slen, x_sa, x_ac, x_oi, x_new, x_na, x_cS, x_cV, x_cI, x_rI, x_rZ, x_rL, x_r0, pa, short, oc, lg, lset, lset2, wide, cond_true, cond_false, true_and, and_true, ↓reduceIte, Bool.false_eq_true, true_or, or_true, lf_X9_keep, h1.1.f, h1.2.2.2.2.2.2.2.2.2.2.1.f, P_X5_becomeLike, eq_true (hbad hx), implies_true]
    exact fun q1 q2 => absurd hx (fun q => q.elim q1 (fun r => r q2))
  · have q1 : ¬ x < 0 := fun q => hx (.inl q)
    have q2 : x < 2 := Classical.byContradiction fun q => hx (.inr q)
    have hA' := hA.e (show gKeep g x = (aR (gA g), GK g (fun i => if i = tn x then true else gK g i) (fun i => if i = tn x then gA g else gS g i)) by rw [gKeep, if_neg hx])
    obtain ⟨i, hi, rfl⟩ := ix2 q1 q2
    rw [tn_nI (n := i) (by omega)] at hA'
    obtain ⟨s1, s2⟩ := slot h1 hi
    have hap : apart5 (97 + 5 * i) 5 := Or.inr (by omega)
    have e107 : cpI I (97 + 5 * i) 5 107 = I 107 := cpI_fr (by omega)
    refine J.of tk_X9_keep 200 fun ρ hρ => ?_
    simp only [hρ, x_c, x_il, x_ll, x_al, x_is, x_as, x_ls, x_inc, x_ii, x_iq, x_i1, x_l2, x_lq, x_lh, x_i2l, x_l2i, x_lcmp, x_dup, x_dup2, x_pop, x_if, x_ifn, x_ic, x_icn, x_go, x_sw, swc, x_l01, x_mx, x_gI, x_gL, x_gR, x_pI, x_pZ, x_pL, x_pR, x_ia, x_za, x_aa, x_ias, x_zas, x_aas, x_fac, x_fa, x_slen, x_sa, x_ac, x_oi, x_new, x_na, x_cS, x_cV, x_cI, x_rI, x_rZ, x_rL, x_r0, pa, short, oc, lg, lset, lset2, wide, cond_true, cond_false, true_and, and_true, ↓reduceIte, Bool.false_eq_true, true_or, or_true, lf_X9_keep, h1.1.f, h1.2.2.2.2.2.2.2.2.2.2.1.f, hc.ac, hc.ac.2.f, P_X5_becomeLike, q1, q2, ncl (show i < 2 ^ 31 by omega), s1, s2, s2.f, hap, eq_true (show vp_in (nI i) 2 from vp_in_nI (by omega) (by omega)), e107, true_implies, not_true_eq_false, false_implies, not_false_eq_true]
    have hX : ∀ q, (q < 97 + 5 * i ∨ 97 + 5 * i + 5 ≤ q) → q ≠ 107 → mS (cpI I (97 + 5 * i) 5) 107 (upd (I 107) i 1) q = I q := fun q a b => by rw [mS_n b, cpI_fr a]
    rw [hX 5 (by omega) (by omega), h3.2.2.2.1]
    refine hA' _ L (fun q hq => hX q (by omega) (by omega)) (fun _ _ => rfl) ⟨h1, h2.fr (hX 1 (by omega) (by omega)) (hX 2 (by omega) (by omega)), h3.fr (fun q a b => hX q (by omega) (by omega)), CA.fr (g := g) h4 (fun q a b => hX q (by omega) (by omega)), fun j hj => ?_, CE.fr (g := g) h6 (hX 93 (by omega) (by omega)) (hX 94 (by omega) (by omega)) (hX 95 (by omega) (by omega)), h7, h8.fr (hX 16 (by omega) (by omega))⟩
    show mS (cpI I (97 + 5 * i) 5) 107 (upd (I 107) i 1) 107 j = bB (if j = i then true else gK g j) ∧ ((if j = i then true else gK g j) = true → SR _ (97 + 5 * j) (if j = i then gA g else gS g j))
    rw [mS_s, upd_app]
    by_cases hji : j = i
    · subst hji
      simp only [if_true]
      exact ⟨rfl, fun _ => (SR.cpI (k := 97 + 5 * j) h3 ho.2.1.1.2.2).fr (fun q a b => mS_n (by omega))⟩
    · simp only [hji, if_false]
      exact ⟨(h5 j hj).1, fun hk => ((h5 j hj).2 hk).fr (fun q a b => hX q (by omega) (by omega))⟩
/-- again -/
def gAgain (g : GS) (x : Int32) : Int32 × GS := if x < 0 ∨ ¬ x < 2 then (-1, g) else if ¬ gK g (tn x) = true then (-3, g) else (aR (gS g (tn x)), GH (GA g (gS g (tn x))) 0 (gH g))
def il_X9_again : List (Nat × Instr × Nat) := [(0, .iload_n 1, 1), (1, .ifCond .lt 8, 3), (4, .iload_n 1, 1), (5, .iconst 2, 1), (6, .if_icmp .lt 5, 3), (9, .iconst (-1), 1), (10, .ireturn, 1), (11, .aload_n 0, 1), (12, .getfield 67, 3), (15, .iload_n 1, 1), (16, .baload, 1), (17, .ifCond .ne 6, 3), (20, .bipush (-3), 2), (22, .ireturn, 1), (23, .aload_n 0, 1), (24, .getfield 19, 3), (27, .aload_n 0, 1), (28, .getfield 63, 3), (31, .iload_n 1, 1), (32, .aaload, 1), (33, .invokevirtual 219, 3), (36, .aload_n 0, 1), (37, .getfield 52, 3), (40, .invokevirtual 95, 3), (43, .aload_n 0, 1), (44, .getfield 19, 3), (47, .getfield 107, 3), (50, .ireturn, 1)]
def mt_X9_again : Mt := (cX9_again, RX9, 2, (some .int), ({ frames := 2, cells := 0, slots := 0, locals := 39 } : Room), false, none, none)
set_option maxRecDepth 100000 in
theorem dl_X9_again : ∀ q ∈ il_X9_again, decode (mt_X9_again).1 q.1 = .ok q.2 := by decide +kernel
def tb_X9_again : Tb := [(0, x_il 1 1, false),
  (1, x_if 9 4 (fun x : Int32 => x < 0), false),
  (4, x_il 5 1, false),
  (5, x_c 6 (.int 2), false),
  (6, x_ic 11 9 (fun x y : Int32 => x < y), false),
  (9, x_c 10 (.int (-1)), false),
  (10, x_rI, false),
  (11, x_al 12 0, false),
  (12, x_gR 9 9 15, false),
  (15, x_il 16 1, false),
  (16, x_za 17, false),
  (17, x_ifn 23 20 (fun x : Int32 => x = 0), false),
  (20, x_c 22 (.int (-3)), false),
  (22, x_rI, false),
  (23, x_al 24 0, false),
  (24, x_gR 9 1 27, false),
  (27, x_al 28 0, false),
  (28, x_gR 9 8 31, false),
  (31, x_il 32 1, false),
  (32, x_aa 33, false),
  (33, x_cV 5 1 P_X5_becomeLike 36, false),
  (36, x_al 37 0, false),
  (37, x_gR 9 6 40, false),
  (40, x_cV 0 0 P_X0_forgetAll 43, false),
  (43, x_al 44 0, false),
  (44, x_gR 9 1 47, false),
  (47, x_gI 5 7 50, false),
  (50, x_rI, false)]
set_option maxRecDepth 100000 in
theorem tk_X9_again : TbOk (mt_X9_again) (tb_X9_again) :=
  tkc (s_iload_n (at_ dl_X9_again 0 (ins := .iload_n 1) rfl)) (
  tkc (s_if_lt (at_ dl_X9_again 1 (ins := .ifCond .lt 8) rfl) (by decide)) (
  tkc (s_iload_n (at_ dl_X9_again 2 (ins := .iload_n 1) rfl)) (
  tkc (s_iconst (at_ dl_X9_again 3 (ins := .iconst 2) rfl) (by first | rfl | decide)) (
  tkc (s_ic_lt (at_ dl_X9_again 4 (ins := .if_icmp .lt 5) rfl) (by decide)) (
  tkc (s_iconst (at_ dl_X9_again 5 (ins := .iconst (-1)) rfl) (by first | rfl | decide)) (
  tkc (s_rI (at_ dl_X9_again 6 (ins := .ireturn) rfl) rfl) (
  tkc (s_aload_n (at_ dl_X9_again 7 (ins := .aload_n 0) rfl)) (
  tkc (s_gR (at_ dl_X9_again 8 (ins := .getfield 67) rfl) (by decide) (by decide) (by decide) (tg 263 (by decide +kernel) (by decide +kernel))) (
  tkc (s_iload_n (at_ dl_X9_again 9 (ins := .iload_n 1) rfl)) (
  tkc (s_za (at_ dl_X9_again 10 (ins := .baload) rfl)) (
  tkc (s_if_ne (at_ dl_X9_again 11 (ins := .ifCond .ne 6) rfl) (by decide)) (
  tkc (s_bipush (at_ dl_X9_again 12 (ins := .bipush (-3)) rfl) (by first | rfl | decide)) (
  tkc (s_rI (at_ dl_X9_again 13 (ins := .ireturn) rfl) rfl) (
  tkc (s_aload_n (at_ dl_X9_again 14 (ins := .aload_n 0) rfl)) (
  tkc (s_gR (at_ dl_X9_again 15 (ins := .getfield 19) rfl) (by decide) (by decide) (by decide) (tg 255 (by decide +kernel) (by decide +kernel))) (
  tkc (s_aload_n (at_ dl_X9_again 16 (ins := .aload_n 0) rfl)) (
  tkc (s_gR (at_ dl_X9_again 17 (ins := .getfield 63) rfl) (by decide) (by decide) (by decide) (tg 262 (by decide +kernel) (by decide +kernel))) (
  tkc (s_iload_n (at_ dl_X9_again 18 (ins := .iload_n 1) rfl)) (
  tkc (s_aa (at_ dl_X9_again 19 (ins := .aaload) rfl)) (
  tkc (s_cV ok_X5_becomeLike (at_ dl_X9_again 20 (ins := .invokevirtual 219) rfl) (by decide) rfl (tg 443 (by decide +kernel) (by decide +kernel)) (tg 444 (by decide +kernel) (by decide +kernel)) (tg 445 (by decide +kernel) (by decide +kernel)) (tg 45 (by decide +kernel) (by decide +kernel)) (tg 446 (by decide +kernel) (by decide +kernel)) (⟨by decide, by decide, by decide +kernel⟩) (⟨by decide, by decide⟩) rfl rfl) (
  tkc (s_aload_n (at_ dl_X9_again 21 (ins := .aload_n 0) rfl)) (
  tkc (s_gR (at_ dl_X9_again 22 (ins := .getfield 52) rfl) (by decide) (by decide) (by decide) (tg 260 (by decide +kernel) (by decide +kernel))) (
  tkc (s_cV ok_X0_forgetAll (at_ dl_X9_again 23 (ins := .invokevirtual 95) rfl) (by decide) rfl (tg 352 (by decide +kernel) (by decide +kernel)) (tg 353 (by decide +kernel) (by decide +kernel)) (tg 354 (by decide +kernel) (by decide +kernel)) (tg 49 (by decide +kernel) (by decide +kernel)) (tg 355 (by decide +kernel) (by decide +kernel)) (⟨by decide, by decide, by decide +kernel⟩) (⟨by decide, by decide⟩) rfl rfl) (
  tkc (s_aload_n (at_ dl_X9_again 24 (ins := .aload_n 0) rfl)) (
  tkc (s_gR (at_ dl_X9_again 25 (ins := .getfield 19) rfl) (by decide) (by decide) (by decide) (tg 255 (by decide +kernel) (by decide +kernel))) (
  tkc (s_gI (at_ dl_X9_again 26 (ins := .getfield 107) rfl) (by decide) (by decide) (by decide) (tg 150 (by decide +kernel) (by decide +kernel))) (
  tkc (s_rI (at_ dl_X9_again 27 (ins := .ireturn) rfl) rfl) ( tk0))))))))))))))))))))))))))))
theorem lf_X9_again : lk (tb_X9_again) 0 = (x_il 1 1, false) ∧ lk (tb_X9_again) 1 = (x_if 9 4 (fun x : Int32 => x < 0), false) ∧ lk (tb_X9_again) 4 = (x_il 5 1, false) ∧ lk (tb_X9_again) 5 = (x_c 6 (.int 2), false) ∧ lk (tb_X9_again) 6 = (x_ic 11 9 (fun x y : Int32 => x < y), false) ∧ lk (tb_X9_again) 9 = (x_c 10 (.int (-1)), false) ∧ lk (tb_X9_again) 10 = (x_rI, false) ∧ lk (tb_X9_again) 11 = (x_al 12 0, false) ∧ lk (tb_X9_again) 12 = (x_gR 9 9 15, false) ∧ lk (tb_X9_again) 15 = (x_il 16 1, false) ∧ lk (tb_X9_again) 16 = (x_za 17, false) ∧ lk (tb_X9_again) 17 = (x_ifn 23 20 (fun x : Int32 => x = 0), false) ∧ lk (tb_X9_again) 20 = (x_c 22 (.int (-3)), false) ∧ lk (tb_X9_again) 22 = (x_rI, false) ∧ lk (tb_X9_again) 23 = (x_al 24 0, false) ∧ lk (tb_X9_again) 24 = (x_gR 9 1 27, false) ∧ lk (tb_X9_again) 27 = (x_al 28 0, false) ∧ lk (tb_X9_again) 28 = (x_gR 9 8 31, false) ∧ lk (tb_X9_again) 31 = (x_il 32 1, false) ∧ lk (tb_X9_again) 32 = (x_aa 33, false) ∧ lk (tb_X9_again) 33 = (x_cV 5 1 P_X5_becomeLike 36, false) ∧ lk (tb_X9_again) 36 = (x_al 37 0, false) ∧ lk (tb_X9_again) 37 = (x_gR 9 6 40, false) ∧ lk (tb_X9_again) 40 = (x_cV 0 0 P_X0_forgetAll 43, false) ∧ lk (tb_X9_again) 43 = (x_al 44 0, false) ∧ lk (tb_X9_again) 44 = (x_gR 9 1 47, false) ∧ lk (tb_X9_again) 47 = (x_gI 5 7 50, false) ∧ lk (tb_X9_again) 50 = (x_rI, false) := ⟨rfl, rfl, rfl, rfl, rfl, rfl, rfl, rfl, rfl, rfl, rfl, rfl, rfl, rfl, rfl, rfl, rfl, rfl, rfl, rfl, rfl, rfl, rfl, rfl, rfl, rfl, rfl, rfl⟩
def P_X9_again : PTT := fun as M R => match as with
  | [.ref k, .int x] => k = 0 ∧ ∃ g, CR M.1 M.2.1 M.2.2 g ∧ GOk g ∧ Ans M R (gAgain g x).1 (gAgain g x).2
  | _ => False
set_option maxRecDepth 20000 in
theorem ok_X9_again : Ok yX9_again mt_X9_again P_X9_again := by
  refine Ok.of (by decide) rfl rfl rfl rfl fun av ⟨S, I, L⟩ R hP => ?_
  unfold P_X9_again at hP
  split at hP
  case h_2 => exact hP.elim
  rename_i k x
  obtain ⟨k, rfl⟩ : ∃ q : Nat, q = k := ⟨k, rfl⟩
  refine ⟨by simp [ent, wide, mt_X9_again], ?_⟩
  show J mt_X9_again R 0 [some (.ref k), some (.int x)] [] (S, I, L)
  try dsimp only at hP
  obtain ⟨rfl, g, hc, ho, hA⟩ := hP
  obtain ⟨h1, h2, h3, h4, h5, h6, h7, h8⟩ := id hc
  have hbad : (x < 0 ∨ ¬ x < 2) → R (some (.int (-1))) (S, I, L) := fun h => (hA.e (by rw [gAgain, if_pos h])).s hc
  by_cases hx : x < 0 ∨ ¬ x < 2
  · refine J.of tk_X9_again 200 fun ρ hρ => ?_
    simp only [hρ, x_c, x_il, x_ll, x_al, x_is, x_as, x_ls, x_inc, x_ii, x_iq, x_i1, x_l2, x_lq, x_lh, x_i2l, x_l2i, x_lcmp, x_dup, x_dup2, x_pop, x_if, x_ifn, x_ic, x_icn, x_go, x_sw, swc, x_l01, x_mx, x_gI, x_gL, x_gR, x_pI, x_pZ, x_pL, x_pR, x_ia, x_za, x_aa, x_ias, x_zas, x_aas, x_fac, x_fa, x_slen, x_sa, x_ac, x_oi, x_new, x_na, x_cS, x_cV, x_cI, x_rI, x_rZ, x_rL, x_r0, pa, short, oc, lg, lset, lset2, wide, cond_true, cond_false, true_and, and_true, ↓reduceIte, Bool.false_eq_true, true_or, or_true, lf_X9_again, h1.1.f, h1.2.2.2.2.2.2.2.2.2.2.1.f, P_X5_becomeLike, P_X0_forgetAll, eq_true (hbad hx), implies_true]
    exact fun q1 q2 => absurd hx (fun q => q.elim q1 (fun r => r q2))
  · have q1 : ¬ x < 0 := fun q => hx (.inl q)
    have q2 : x < 2 := Classical.byContradiction fun q => hx (.inr q)
    obtain ⟨i, hi, rfl⟩ := ix2 q1 q2
    have ht : tn (nI i) = i := tn_nI (by omega)
    obtain ⟨s1, s2⟩ := slot h1 hi
    obtain ⟨k1, k2⟩ := h5 i hi
    have hap : apart5 5 (97 + 5 * i) := Or.inl (by omega)
    have e21 : cpI I 5 (97 + 5 * i) 21 = I 21 := cpI_fr (by omega)
    refine J.of tk_X9_again 200 fun ρ hρ => ?_
    simp only [hρ, x_c, x_il, x_ll, x_al, x_is, x_as, x_ls, x_inc, x_ii, x_iq, x_i1, x_l2, x_lq, x_lh, x_i2l, x_l2i, x_lcmp, x_dup, x_dup2, x_pop, x_if, x_ifn, x_ic, x_icn, x_go, x_sw, swc, x_l01, x_mx, x_gI, x_gL, x_gR, x_pI, x_pZ, x_pL, x_pR, x_ia, x_za, x_aa, x_ias, x_zas, x_aas, x_fac, x_fa, x_slen, x_sa, x_ac, x_oi, x_new, x_na, x_cS, x_cV, x_cI, x_rI, x_rZ, x_rL, x_r0, pa, short, oc, lg, lset, lset2, wide, cond_true, cond_false, true_and, and_true, ↓reduceIte, Bool.false_eq_true, true_or, or_true, lf_X9_again, h1.1.f, h1.2.2.2.2.2.2.2.2.2.2.1.f, hc.ac, hc.ac.1.f, hc.ac.2.f, P_X5_becomeLike, P_X0_forgetAll, q1, q2, ncl (show i < 2 ^ 31 by omega), s1, s2, s2.f, hap, eq_true (show vp_in (nI i) 2 from vp_in_nI (by omega) (by omega)), e21, k1, bB_0, Classical.not_not, true_implies, not_true_eq_false, false_implies, not_false_eq_true]
    refine ⟨fun hk => ?_, fun hk => (hA.e (show gAgain g (nI i) = (-3, g) by rw [gAgain, if_neg hx, ht, if_pos hk])).s hc⟩
    have hA' := hA.e (show gAgain g (nI i) = (aR (gS g i), GH (GA g (gS g i)) 0 (gH g)) by rw [gAgain, if_neg hx, ht, if_neg (fun q => q hk)])
    have hX : ∀ q, (q < 5 ∨ 10 ≤ q) → q ≠ 21 → mS (cpI I 5 (97 + 5 * i)) 21 (upd (I 21) 2 0) q = I q := fun q a b => by rw [mS_n b, cpI_fr a]
    have hs5 : SR (mS (cpI I 5 (97 + 5 * i)) 21 (upd (I 21) 2 0)) 5 (gS g i) := (SR.cpI (k := 5) (k2 hk) (ho.2.2.2.1 i hi hk).1.1.2.2).fr (fun q a b => mS_n (by omega))
    rw [hs5.2.2.2.1]
    obtain ⟨f, ⟨a1, a2, a3, a4⟩, -⟩ := h4
    refine hA' _ L (fun q hq => hX q (by omega) (by omega)) (fun _ _ => rfl) ⟨h1, h2.fr (hX 1 (by omega) (by omega)) (hX 2 (by omega) (by omega)), hs5, ⟨f, ⟨a1, Nat.zero_le _, ?_, ?_⟩, fun j hj => absurd hj (Nat.not_lt_zero j)⟩, CK.fr (g := g) h5 (fun q a b => hX q (by omega) (by omega)), CE.fr (g := g) h6 (hX 93 (by omega) (by omega)) (hX 94 (by omega) (by omega)) (hX 95 (by omega) (by omega)), h7, h8.fr (hX 16 (by omega) (by omega))⟩
    · rw [mS_s]; exact a3
    · rw [mS_s]; rfl
end
