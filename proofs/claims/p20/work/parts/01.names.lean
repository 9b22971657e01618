-- ===== PART A: goes FIRST, ahead of the names: the tables' words, and 'selects' of the private methods out of them =====
/-- a private method of a class that the tables say can be made, by its rows of tables_1 -/
def lw_okq (q : MethodName × Nat) : Prop := (q.1.cls ≠ "java/lang/invoke/MethodHandle" ∧ q.1.cls ≠ "java/lang/invoke/VarHandle") ∧ Cond.instantiable q.1.cls q.2 ∈ tables_1 ∧ Cond.privateMethod q.1 ∈ tables_1 ∧ Cond.instanceMethod q.1 ∈ tables_1
theorem lw_p0 : lw_okq (⟨"ErrandGuild", "errandAt", "(I)LErrandGuild$Errand;"⟩, 15) := ⟨⟨by decide +kernel, by decide +kernel⟩, List.mem_of_getElem? (i := 14) (by decide +kernel), List.mem_of_getElem? (i := 158) (by decide +kernel), List.mem_of_getElem? (i := 159) (by decide +kernel)⟩
theorem lw_p1 : lw_okq (⟨"ErrandGuild", "wipeErrands", "()V"⟩, 15) := ⟨⟨by decide +kernel, by decide +kernel⟩, List.mem_of_getElem? (i := 14) (by decide +kernel), List.mem_of_getElem? (i := 185) (by decide +kernel), List.mem_of_getElem? (i := 186) (by decide +kernel)⟩
theorem lw_p2 : lw_okq (⟨"ErrandGuild", "openRun", "(ILErrandGuild$Run;)LErrandGuild$Run;"⟩, 15) := ⟨⟨by decide +kernel, by decide +kernel⟩, List.mem_of_getElem? (i := 14) (by decide +kernel), List.mem_of_getElem? (i := 209) (by decide +kernel), List.mem_of_getElem? (i := 210) (by decide +kernel)⟩
theorem lw_p3 : lw_okq (⟨"ErrandGuild", "readIn", "(LErrandGuild$Run;I)I"⟩, 15) := ⟨⟨by decide +kernel, by decide +kernel⟩, List.mem_of_getElem? (i := 14) (by decide +kernel), List.mem_of_getElem? (i := 430) (by decide +kernel), List.mem_of_getElem? (i := 431) (by decide +kernel)⟩
theorem lw_p4 : lw_okq (⟨"ErrandGuild$Scopes", "innermostOf", "(I)I"⟩, 9) := ⟨⟨by decide +kernel, by decide +kernel⟩, List.mem_of_getElem? (i := 276) (by decide +kernel), List.mem_of_getElem? (i := 448) (by decide +kernel), List.mem_of_getElem? (i := 449) (by decide +kernel)⟩
theorem lw_p5 : lw_okq (⟨"ErrandGuild", "isWorkLeft", "()Z"⟩, 15) := ⟨⟨by decide +kernel, by decide +kernel⟩, List.mem_of_getElem? (i := 14) (by decide +kernel), List.mem_of_getElem? (i := 460) (by decide +kernel), List.mem_of_getElem? (i := 461) (by decide +kernel)⟩
theorem lw_p6 : lw_okq (⟨"ErrandGuild", "runAt", "(I)LErrandGuild$Run;"⟩, 15) := ⟨⟨by decide +kernel, by decide +kernel⟩, List.mem_of_getElem? (i := 14) (by decide +kernel), List.mem_of_getElem? (i := 464) (by decide +kernel), List.mem_of_getElem? (i := 465) (by decide +kernel)⟩
theorem lw_p7 : lw_okq (⟨"ErrandGuild", "fillThreads", "()V"⟩, 15) := ⟨⟨by decide +kernel, by decide +kernel⟩, List.mem_of_getElem? (i := 14) (by decide +kernel), List.mem_of_getElem? (i := 472) (by decide +kernel), List.mem_of_getElem? (i := 473) (by decide +kernel)⟩
theorem lw_p8 : lw_okq (⟨"ErrandGuild", "comeToThread", "(LErrandGuild$Run;)V"⟩, 15) := ⟨⟨by decide +kernel, by decide +kernel⟩, List.mem_of_getElem? (i := 14) (by decide +kernel), List.mem_of_getElem? (i := 476) (by decide +kernel), List.mem_of_getElem? (i := 477) (by decide +kernel)⟩
theorem lw_p9 : lw_okq (⟨"ErrandGuild", "takeTurns", "()V"⟩, 15) := ⟨⟨by decide +kernel, by decide +kernel⟩, List.mem_of_getElem? (i := 14) (by decide +kernel), List.mem_of_getElem? (i := 480) (by decide +kernel), List.mem_of_getElem? (i := 481) (by decide +kernel)⟩
theorem lw_p10 : lw_okq (⟨"ErrandGuild", "noteTurn", "(LErrandGuild$Run;)V"⟩, 15) := ⟨⟨by decide +kernel, by decide +kernel⟩, List.mem_of_getElem? (i := 14) (by decide +kernel), List.mem_of_getElem? (i := 484) (by decide +kernel), List.mem_of_getElem? (i := 485) (by decide +kernel)⟩
theorem lw_p11 : lw_okq (⟨"ErrandGuild", "doStep", "(LErrandGuild$Run;)I"⟩, 15) := ⟨⟨by decide +kernel, by decide +kernel⟩, List.mem_of_getElem? (i := 14) (by decide +kernel), List.mem_of_getElem? (i := 508) (by decide +kernel), List.mem_of_getElem? (i := 509) (by decide +kernel)⟩
theorem lw_p12 : lw_okq (⟨"ErrandGuild", "end", "(LErrandGuild$Run;)I"⟩, 15) := ⟨⟨by decide +kernel, by decide +kernel⟩, List.mem_of_getElem? (i := 14) (by decide +kernel), List.mem_of_getElem? (i := 512) (by decide +kernel), List.mem_of_getElem? (i := 513) (by decide +kernel)⟩
theorem lw_p13 : lw_okq (⟨"ErrandGuild", "writeIn", "(LErrandGuild$Run;II)I"⟩, 15) := ⟨⟨by decide +kernel, by decide +kernel⟩, List.mem_of_getElem? (i := 14) (by decide +kernel), List.mem_of_getElem? (i := 520) (by decide +kernel), List.mem_of_getElem? (i := 521) (by decide +kernel)⟩
theorem lw_p14 : lw_okq (⟨"ErrandGuild", "addReading", "(LErrandGuild$Run;I)I"⟩, 15) := ⟨⟨by decide +kernel, by decide +kernel⟩, List.mem_of_getElem? (i := 14) (by decide +kernel), List.mem_of_getElem? (i := 532) (by decide +kernel), List.mem_of_getElem? (i := 533) (by decide +kernel)⟩
theorem lw_p15 : lw_okq (⟨"ErrandGuild", "bind", "(LErrandGuild$Run;II)I"⟩, 15) := ⟨⟨by decide +kernel, by decide +kernel⟩, List.mem_of_getElem? (i := 14) (by decide +kernel), List.mem_of_getElem? (i := 541) (by decide +kernel), List.mem_of_getElem? (i := 542) (by decide +kernel)⟩
def lw_privs_1 : List (MethodName × Nat) := [(⟨"ErrandGuild", "errandAt", "(I)LErrandGuild$Errand;"⟩, 15), (⟨"ErrandGuild", "wipeErrands", "()V"⟩, 15), (⟨"ErrandGuild", "openRun", "(ILErrandGuild$Run;)LErrandGuild$Run;"⟩, 15), (⟨"ErrandGuild", "readIn", "(LErrandGuild$Run;I)I"⟩, 15), (⟨"ErrandGuild$Scopes", "innermostOf", "(I)I"⟩, 9), (⟨"ErrandGuild", "isWorkLeft", "()Z"⟩, 15), (⟨"ErrandGuild", "runAt", "(I)LErrandGuild$Run;"⟩, 15), (⟨"ErrandGuild", "fillThreads", "()V"⟩, 15), (⟨"ErrandGuild", "comeToThread", "(LErrandGuild$Run;)V"⟩, 15), (⟨"ErrandGuild", "takeTurns", "()V"⟩, 15), (⟨"ErrandGuild", "noteTurn", "(LErrandGuild$Run;)V"⟩, 15), (⟨"ErrandGuild", "doStep", "(LErrandGuild$Run;)I"⟩, 15), (⟨"ErrandGuild", "end", "(LErrandGuild$Run;)I"⟩, 15), (⟨"ErrandGuild", "writeIn", "(LErrandGuild$Run;II)I"⟩, 15), (⟨"ErrandGuild", "addReading", "(LErrandGuild$Run;I)I"⟩, 15), (⟨"ErrandGuild", "bind", "(LErrandGuild$Run;II)I"⟩, 15)]
theorem lw_r1 : ∀ q ∈ lw_privs_1, lw_okq q := List.forall_mem_cons.mpr ⟨lw_p0, List.forall_mem_cons.mpr ⟨lw_p1, List.forall_mem_cons.mpr ⟨lw_p2, List.forall_mem_cons.mpr ⟨lw_p3, List.forall_mem_cons.mpr ⟨lw_p4, List.forall_mem_cons.mpr ⟨lw_p5, List.forall_mem_cons.mpr ⟨lw_p6, List.forall_mem_cons.mpr ⟨lw_p7, List.forall_mem_cons.mpr ⟨lw_p8, List.forall_mem_cons.mpr ⟨lw_p9, List.forall_mem_cons.mpr ⟨lw_p10, List.forall_mem_cons.mpr ⟨lw_p11, List.forall_mem_cons.mpr ⟨lw_p12, List.forall_mem_cons.mpr ⟨lw_p13, List.forall_mem_cons.mpr ⟨lw_p14, List.forall_mem_cons.mpr ⟨lw_p15, fun _ h => absurd h List.not_mem_nil⟩⟩⟩⟩⟩⟩⟩⟩⟩⟩⟩⟩⟩⟩⟩⟩
theorem lw_p16 : lw_okq (⟨"ErrandGuild", "hand", "(LErrandGuild$Run;IIZ)I"⟩, 15) := ⟨⟨by decide +kernel, by decide +kernel⟩, List.mem_of_getElem? (i := 14) (by decide +kernel), List.mem_of_getElem? (i := 553) (by decide +kernel), List.mem_of_getElem? (i := 554) (by decide +kernel)⟩
theorem lw_p17 : lw_okq (⟨"ErrandGuild", "gather", "(LErrandGuild$Run;)I"⟩, 15) := ⟨⟨by decide +kernel, by decide +kernel⟩, List.mem_of_getElem? (i := 14) (by decide +kernel), List.mem_of_getElem? (i := 561) (by decide +kernel), List.mem_of_getElem? (i := 562) (by decide +kernel)⟩
theorem lw_p18 : lw_okq (⟨"ErrandGuild", "closeTurn", "(LErrandGuild$Run;I)V"⟩, 15) := ⟨⟨by decide +kernel, by decide +kernel⟩, List.mem_of_getElem? (i := 14) (by decide +kernel), List.mem_of_getElem? (i := 576) (by decide +kernel), List.mem_of_getElem? (i := 577) (by decide +kernel)⟩
theorem lw_p19 : lw_okq (⟨"ErrandGuild", "failWith", "(LErrandGuild$Run;I)V"⟩, 15) := ⟨⟨by decide +kernel, by decide +kernel⟩, List.mem_of_getElem? (i := 14) (by decide +kernel), List.mem_of_getElem? (i := 580) (by decide +kernel), List.mem_of_getElem? (i := 581) (by decide +kernel)⟩
theorem lw_p20 : lw_okq (⟨"ErrandGuild$Scopes", "endBindingsSince", "(I)V"⟩, 9) := ⟨⟨by decide +kernel, by decide +kernel⟩, List.mem_of_getElem? (i := 276) (by decide +kernel), List.mem_of_getElem? (i := 588) (by decide +kernel), List.mem_of_getElem? (i := 589) (by decide +kernel)⟩
theorem lw_p21 : lw_okq (⟨"ErrandGuild", "leaveThread", "(LErrandGuild$Run;)V"⟩, 15) := ⟨⟨by decide +kernel, by decide +kernel⟩, List.mem_of_getElem? (i := 14) (by decide +kernel), List.mem_of_getElem? (i := 592) (by decide +kernel), List.mem_of_getElem? (i := 593) (by decide +kernel)⟩
theorem lw_p22 : lw_okq (⟨"ErrandGuild", "tellUncaught", "(LErrandGuild$Run;)V"⟩, 15) := ⟨⟨by decide +kernel, by decide +kernel⟩, List.mem_of_getElem? (i := 14) (by decide +kernel), List.mem_of_getElem? (i := 600) (by decide +kernel), List.mem_of_getElem? (i := 601) (by decide +kernel)⟩
theorem lw_p23 : lw_okq (⟨"ErrandGuild", "askHandlers", "(LErrandGuild$Run;)V"⟩, 15) := ⟨⟨by decide +kernel, by decide +kernel⟩, List.mem_of_getElem? (i := 14) (by decide +kernel), List.mem_of_getElem? (i := 604) (by decide +kernel), List.mem_of_getElem? (i := 605) (by decide +kernel)⟩
theorem lw_p24 : lw_okq (⟨"ErrandGuild", "wakeWaiting", "()V"⟩, 15) := ⟨⟨by decide +kernel, by decide +kernel⟩, List.mem_of_getElem? (i := 14) (by decide +kernel), List.mem_of_getElem? (i := 620) (by decide +kernel), List.mem_of_getElem? (i := 621) (by decide +kernel)⟩
theorem lw_p25 : lw_okq (⟨"ErrandGuild", "failedAt", "(I)LErrandGuild$Run;"⟩, 15) := ⟨⟨by decide +kernel, by decide +kernel⟩, List.mem_of_getElem? (i := 14) (by decide +kernel), List.mem_of_getElem? (i := 636) (by decide +kernel), List.mem_of_getElem? (i := 637) (by decide +kernel)⟩
theorem lw_p26 : lw_okq (⟨"ErrandGuild", "runsThatAre", "(I)I"⟩, 15) := ⟨⟨by decide +kernel, by decide +kernel⟩, List.mem_of_getElem? (i := 14) (by decide +kernel), List.mem_of_getElem? (i := 687) (by decide +kernel), List.mem_of_getElem? (i := 688) (by decide +kernel)⟩
theorem lw_p27 : lw_okq (⟨"ErrandGuild", "runOnThread", "(I)I"⟩, 15) := ⟨⟨by decide +kernel, by decide +kernel⟩, List.mem_of_getElem? (i := 14) (by decide +kernel), List.mem_of_getElem? (i := 691) (by decide +kernel), List.mem_of_getElem? (i := 692) (by decide +kernel)⟩
theorem lw_p28 : lw_okq (⟨"ErrandGuildModel", "comes", "(II)I"⟩, 60) := ⟨⟨by decide +kernel, by decide +kernel⟩, List.mem_of_getElem? (i := 695) (by decide +kernel), List.mem_of_getElem? (i := 920) (by decide +kernel), List.mem_of_getElem? (i := 921) (by decide +kernel)⟩
theorem lw_p29 : lw_okq (⟨"ErrandGuildModel", "reads", "(II)I"⟩, 60) := ⟨⟨by decide +kernel, by decide +kernel⟩, List.mem_of_getElem? (i := 695) (by decide +kernel), List.mem_of_getElem? (i := 924) (by decide +kernel), List.mem_of_getElem? (i := 925) (by decide +kernel)⟩
theorem lw_p30 : lw_okq (⟨"ErrandGuildModel", "binding", "(II)I"⟩, 60) := ⟨⟨by decide +kernel, by decide +kernel⟩, List.mem_of_getElem? (i := 695) (by decide +kernel), List.mem_of_getElem? (i := 928) (by decide +kernel), List.mem_of_getElem? (i := 929) (by decide +kernel)⟩
theorem lw_p31 : lw_okq (⟨"ErrandGuildModel", "isLeft", "()Z"⟩, 60) := ⟨⟨by decide +kernel, by decide +kernel⟩, List.mem_of_getElem? (i := 695) (by decide +kernel), List.mem_of_getElem? (i := 936) (by decide +kernel), List.mem_of_getElem? (i := 937) (by decide +kernel)⟩
def lw_privs_2 : List (MethodName × Nat) := [(⟨"ErrandGuild", "hand", "(LErrandGuild$Run;IIZ)I"⟩, 15), (⟨"ErrandGuild", "gather", "(LErrandGuild$Run;)I"⟩, 15), (⟨"ErrandGuild", "closeTurn", "(LErrandGuild$Run;I)V"⟩, 15), (⟨"ErrandGuild", "failWith", "(LErrandGuild$Run;I)V"⟩, 15), (⟨"ErrandGuild$Scopes", "endBindingsSince", "(I)V"⟩, 9), (⟨"ErrandGuild", "leaveThread", "(LErrandGuild$Run;)V"⟩, 15), (⟨"ErrandGuild", "tellUncaught", "(LErrandGuild$Run;)V"⟩, 15), (⟨"ErrandGuild", "askHandlers", "(LErrandGuild$Run;)V"⟩, 15), (⟨"ErrandGuild", "wakeWaiting", "()V"⟩, 15), (⟨"ErrandGuild", "failedAt", "(I)LErrandGuild$Run;"⟩, 15), (⟨"ErrandGuild", "runsThatAre", "(I)I"⟩, 15), (⟨"ErrandGuild", "runOnThread", "(I)I"⟩, 15), (⟨"ErrandGuildModel", "comes", "(II)I"⟩, 60), (⟨"ErrandGuildModel", "reads", "(II)I"⟩, 60), (⟨"ErrandGuildModel", "binding", "(II)I"⟩, 60), (⟨"ErrandGuildModel", "isLeft", "()Z"⟩, 60)]
theorem lw_r2 : ∀ q ∈ lw_privs_2, lw_okq q := List.forall_mem_cons.mpr ⟨lw_p16, List.forall_mem_cons.mpr ⟨lw_p17, List.forall_mem_cons.mpr ⟨lw_p18, List.forall_mem_cons.mpr ⟨lw_p19, List.forall_mem_cons.mpr ⟨lw_p20, List.forall_mem_cons.mpr ⟨lw_p21, List.forall_mem_cons.mpr ⟨lw_p22, List.forall_mem_cons.mpr ⟨lw_p23, List.forall_mem_cons.mpr ⟨lw_p24, List.forall_mem_cons.mpr ⟨lw_p25, List.forall_mem_cons.mpr ⟨lw_p26, List.forall_mem_cons.mpr ⟨lw_p27, List.forall_mem_cons.mpr ⟨lw_p28, List.forall_mem_cons.mpr ⟨lw_p29, List.forall_mem_cons.mpr ⟨lw_p30, List.forall_mem_cons.mpr ⟨lw_p31, fun _ h => absurd h List.not_mem_nil⟩⟩⟩⟩⟩⟩⟩⟩⟩⟩⟩⟩⟩⟩⟩⟩
theorem lw_p32 : lw_okq (⟨"ErrandGuildModel", "isOver", "(I)Z"⟩, 60) := ⟨⟨by decide +kernel, by decide +kernel⟩, List.mem_of_getElem? (i := 695) (by decide +kernel), List.mem_of_getElem? (i := 940) (by decide +kernel), List.mem_of_getElem? (i := 941) (by decide +kernel)⟩
theorem lw_p33 : lw_okq (⟨"ErrandGuildModel", "oneBeat", "()V"⟩, 60) := ⟨⟨by decide +kernel, by decide +kernel⟩, List.mem_of_getElem? (i := 695) (by decide +kernel), List.mem_of_getElem? (i := 944) (by decide +kernel), List.mem_of_getElem? (i := 945) (by decide +kernel)⟩
theorem lw_p34 : lw_okq (⟨"ErrandGuildModel", "free", "()I"⟩, 60) := ⟨⟨by decide +kernel, by decide +kernel⟩, List.mem_of_getElem? (i := 695) (by decide +kernel), List.mem_of_getElem? (i := 948) (by decide +kernel), List.mem_of_getElem? (i := 949) (by decide +kernel)⟩
theorem lw_p35 : lw_okq (⟨"ErrandGuildModel", "turn", "(I)V"⟩, 60) := ⟨⟨by decide +kernel, by decide +kernel⟩, List.mem_of_getElem? (i := 695) (by decide +kernel), List.mem_of_getElem? (i := 952) (by decide +kernel), List.mem_of_getElem? (i := 953) (by decide +kernel)⟩
theorem lw_p36 : lw_okq (⟨"ErrandGuildModel", "fails", "(IIII)V"⟩, 60) := ⟨⟨by decide +kernel, by decide +kernel⟩, List.mem_of_getElem? (i := 695) (by decide +kernel), List.mem_of_getElem? (i := 956) (by decide +kernel), List.mem_of_getElem? (i := 957) (by decide +kernel)⟩
theorem lw_p37 : lw_okq (⟨"ErrandGuildModel", "goes", "(II)V"⟩, 60) := ⟨⟨by decide +kernel, by decide +kernel⟩, List.mem_of_getElem? (i := 695) (by decide +kernel), List.mem_of_getElem? (i := 960) (by decide +kernel), List.mem_of_getElem? (i := 961) (by decide +kernel)⟩
theorem lw_p38 : lw_okq (⟨"ErrandGuildModel", "leaves", "(I)V"⟩, 60) := ⟨⟨by decide +kernel, by decide +kernel⟩, List.mem_of_getElem? (i := 695) (by decide +kernel), List.mem_of_getElem? (i := 964) (by decide +kernel), List.mem_of_getElem? (i := 965) (by decide +kernel)⟩
theorem lw_p39 : lw_okq (⟨"ErrandGuildModel", "asks", "(I)V"⟩, 60) := ⟨⟨by decide +kernel, by decide +kernel⟩, List.mem_of_getElem? (i := 695) (by decide +kernel), List.mem_of_getElem? (i := 968) (by decide +kernel), List.mem_of_getElem? (i := 969) (by decide +kernel)⟩
theorem lw_p40 : lw_okq (⟨"ErrandGuildModel", "gathers", "(I)V"⟩, 60) := ⟨⟨by decide +kernel, by decide +kernel⟩, List.mem_of_getElem? (i := 695) (by decide +kernel), List.mem_of_getElem? (i := 972) (by decide +kernel), List.mem_of_getElem? (i := 973) (by decide +kernel)⟩
theorem lw_p41 : lw_okq (⟨"ErrandGuildModel", "does", "(I)V"⟩, 60) := ⟨⟨by decide +kernel, by decide +kernel⟩, List.mem_of_getElem? (i := 695) (by decide +kernel), List.mem_of_getElem? (i := 976) (by decide +kernel), List.mem_of_getElem? (i := 977) (by decide +kernel)⟩
theorem lw_p42 : lw_okq (⟨"ErrandGuildModel", "writes", "(III)Z"⟩, 60) := ⟨⟨by decide +kernel, by decide +kernel⟩, List.mem_of_getElem? (i := 695) (by decide +kernel), List.mem_of_getElem? (i := 980) (by decide +kernel), List.mem_of_getElem? (i := 981) (by decide +kernel)⟩
theorem lw_p43 : lw_okq (⟨"ErrandGuildModel", "adds", "(II)V"⟩, 60) := ⟨⟨by decide +kernel, by decide +kernel⟩, List.mem_of_getElem? (i := 695) (by decide +kernel), List.mem_of_getElem? (i := 984) (by decide +kernel), List.mem_of_getElem? (i := 985) (by decide +kernel)⟩
theorem lw_p44 : lw_okq (⟨"ErrandGuildModel", "binds", "(III)Z"⟩, 60) := ⟨⟨by decide +kernel, by decide +kernel⟩, List.mem_of_getElem? (i := 695) (by decide +kernel), List.mem_of_getElem? (i := 988) (by decide +kernel), List.mem_of_getElem? (i := 989) (by decide +kernel)⟩
theorem lw_p45 : lw_okq (⟨"ErrandGuildModel", "frees", "(II)Z"⟩, 60) := ⟨⟨by decide +kernel, by decide +kernel⟩, List.mem_of_getElem? (i := 695) (by decide +kernel), List.mem_of_getElem? (i := 992) (by decide +kernel), List.mem_of_getElem? (i := 993) (by decide +kernel)⟩
theorem lw_p46 : lw_okq (⟨"ErrandGuildModel", "hands", "(IIZ)Z"⟩, 60) := ⟨⟨by decide +kernel, by decide +kernel⟩, List.mem_of_getElem? (i := 695) (by decide +kernel), List.mem_of_getElem? (i := 996) (by decide +kernel), List.mem_of_getElem? (i := 997) (by decide +kernel)⟩
theorem lw_p47 : lw_okq (⟨"ErrandGuildModel", "waits", "(I)V"⟩, 60) := ⟨⟨by decide +kernel, by decide +kernel⟩, List.mem_of_getElem? (i := 695) (by decide +kernel), List.mem_of_getElem? (i := 1000) (by decide +kernel), List.mem_of_getElem? (i := 1001) (by decide +kernel)⟩
def lw_privs_3 : List (MethodName × Nat) := [(⟨"ErrandGuildModel", "isOver", "(I)Z"⟩, 60), (⟨"ErrandGuildModel", "oneBeat", "()V"⟩, 60), (⟨"ErrandGuildModel", "free", "()I"⟩, 60), (⟨"ErrandGuildModel", "turn", "(I)V"⟩, 60), (⟨"ErrandGuildModel", "fails", "(IIII)V"⟩, 60), (⟨"ErrandGuildModel", "goes", "(II)V"⟩, 60), (⟨"ErrandGuildModel", "leaves", "(I)V"⟩, 60), (⟨"ErrandGuildModel", "asks", "(I)V"⟩, 60), (⟨"ErrandGuildModel", "gathers", "(I)V"⟩, 60), (⟨"ErrandGuildModel", "does", "(I)V"⟩, 60), (⟨"ErrandGuildModel", "writes", "(III)Z"⟩, 60), (⟨"ErrandGuildModel", "adds", "(II)V"⟩, 60), (⟨"ErrandGuildModel", "binds", "(III)Z"⟩, 60), (⟨"ErrandGuildModel", "frees", "(II)Z"⟩, 60), (⟨"ErrandGuildModel", "hands", "(IIZ)Z"⟩, 60), (⟨"ErrandGuildModel", "waits", "(I)V"⟩, 60)]
theorem lw_r3 : ∀ q ∈ lw_privs_3, lw_okq q := List.forall_mem_cons.mpr ⟨lw_p32, List.forall_mem_cons.mpr ⟨lw_p33, List.forall_mem_cons.mpr ⟨lw_p34, List.forall_mem_cons.mpr ⟨lw_p35, List.forall_mem_cons.mpr ⟨lw_p36, List.forall_mem_cons.mpr ⟨lw_p37, List.forall_mem_cons.mpr ⟨lw_p38, List.forall_mem_cons.mpr ⟨lw_p39, List.forall_mem_cons.mpr ⟨lw_p40, List.forall_mem_cons.mpr ⟨lw_p41, List.forall_mem_cons.mpr ⟨lw_p42, List.forall_mem_cons.mpr ⟨lw_p43, List.forall_mem_cons.mpr ⟨lw_p44, List.forall_mem_cons.mpr ⟨lw_p45, List.forall_mem_cons.mpr ⟨lw_p46, List.forall_mem_cons.mpr ⟨lw_p47, fun _ h => absurd h List.not_mem_nil⟩⟩⟩⟩⟩⟩⟩⟩⟩⟩⟩⟩⟩⟩⟩⟩
theorem lw_p48 : lw_okq (⟨"ErrandGuildModel", "areOver", "(I)Z"⟩, 60) := ⟨⟨by decide +kernel, by decide +kernel⟩, List.mem_of_getElem? (i := 695) (by decide +kernel), List.mem_of_getElem? (i := 1004) (by decide +kernel), List.mem_of_getElem? (i := 1005) (by decide +kernel)⟩
theorem lw_p49 : lw_okq (⟨"ErrandGuildModel", "isRun", "(I)Z"⟩, 60) := ⟨⟨by decide +kernel, by decide +kernel⟩, List.mem_of_getElem? (i := 695) (by decide +kernel), List.mem_of_getElem? (i := 1012) (by decide +kernel), List.mem_of_getElem? (i := 1013) (by decide +kernel)⟩
theorem lw_p50 : lw_okq (⟨"ErrandGuildModel", "children", "(I)I"⟩, 60) := ⟨⟨by decide +kernel, by decide +kernel⟩, List.mem_of_getElem? (i := 695) (by decide +kernel), List.mem_of_getElem? (i := 1020) (by decide +kernel), List.mem_of_getElem? (i := 1021) (by decide +kernel)⟩
theorem lw_p51 : lw_okq (⟨"ErrandGuildModel", "inState", "(I)I"⟩, 60) := ⟨⟨by decide +kernel, by decide +kernel⟩, List.mem_of_getElem? (i := 695) (by decide +kernel), List.mem_of_getElem? (i := 1060) (by decide +kernel), List.mem_of_getElem? (i := 1061) (by decide +kernel)⟩
def lw_privs_4 : List (MethodName × Nat) := [(⟨"ErrandGuildModel", "areOver", "(I)Z"⟩, 60), (⟨"ErrandGuildModel", "isRun", "(I)Z"⟩, 60), (⟨"ErrandGuildModel", "children", "(I)I"⟩, 60), (⟨"ErrandGuildModel", "inState", "(I)I"⟩, 60)]
theorem lw_r4 : ∀ q ∈ lw_privs_4, lw_okq q := List.forall_mem_cons.mpr ⟨lw_p48, List.forall_mem_cons.mpr ⟨lw_p49, List.forall_mem_cons.mpr ⟨lw_p50, List.forall_mem_cons.mpr ⟨lw_p51, fun _ h => absurd h List.not_mem_nil⟩⟩⟩⟩
def lw_privs : List (MethodName × Nat) := lw_privs_1 ++ (lw_privs_2 ++ (lw_privs_3 ++ (lw_privs_4)))
def lw_tbl : List Cond := k2_sels lw_privs ++ tables_1
theorem lw_privs_ok : ∀ q ∈ lw_privs, lw_okq q := by
  show ∀ q ∈ lw_privs_1 ++ (lw_privs_2 ++ (lw_privs_3 ++ (lw_privs_4))), lw_okq q
  exact List.forall_mem_append.mpr ⟨lw_r1, List.forall_mem_append.mpr ⟨lw_r2, List.forall_mem_append.mpr ⟨lw_r3, lw_r4⟩⟩⟩
/-! ===== BEGIN words of one list among another's, by their places ===== -/
theorem goodIn_r {big : List Cond} (ws : List Cond) (ps : List Nat) (hp : ws = ps.filterMap (fun i => big[i]?)) (h : ws.all goodWord = true) : GoodIn big ws := by
  intro w hw
  have h1 := List.all_eq_true.mp h w hw
  rw [hp] at hw
  obtain ⟨i, -, hi⟩ := List.mem_filterMap.mp hw
  have hm : w ∈ big := by first | exact List.mem_of_getElem? hi | exact List.getElem?_mem hi
  exact ⟨hm, good_of_word h1⟩
theorem goodIn_app {big a b : List Cond} (ha : GoodIn big a) (hb : GoodIn big b) : GoodIn big (a ++ b) := fun w h => (List.mem_append.mp h).elim (ha w) (hb w)
theorem goodIn_ca {big a b : List Cond} {c : Cond} (ha : GoodIn big (c :: a)) (hb : GoodIn big b) : GoodIn big (c :: (a ++ b)) := fun w h => (List.mem_cons.mp h).elim (fun e => ha w (List.mem_cons.mpr (Or.inl e))) (fun h => (List.mem_append.mp h).elim (fun h => ha w (List.mem_cons.mpr (Or.inr h))) (hb w))
theorem goodIn_sub {big ws : List Cond} (hm : ∀ w ∈ ws, w ∈ big) (h : ws.all goodWord = true) : GoodIn big ws := fun w hw => ⟨hm w hw, good_of_word (List.all_eq_true.mp h w hw)⟩
/-! ===== END ===== -/

/-! ===== BEGIN printed: names, fields, word lists, decode rows ===== -/
def RX0 : String := "ErrandGuild$Cells"
def TX0 : u_T := fun k => match k with
  | 0 => ("ErrandGuild$Cells", "limit", "I", true)
  | 1 => ("ErrandGuild$Cells", "cells", "[I", false)
  | _ => ("ErrandGuild$Cells", "used", "I", false)
def tyX0 : Nat → FieldType := fun k => match k with
  | 0 => .int
  | 1 => .array .int
  | _ => .int
abbrev wsX00 : List Cond := u_ws RX0 TX0 3
theorem nmX0 : ∀ a, a < 3 → ∀ b, b < 3 → a ≠ b → (TX0 a).2.1 ≠ (TX0 b).2.1 := by decide +kernel
theorem tyX0_ok : ∀ k, k < 3 → parseFieldDescriptor (TX0 k).2.2.1 = some (tyX0 k) := by decide +kernel
abbrev cX0_init : ByteArray := prog_2_method_1_code
def yX0_init : MethodName := ⟨RX0, "<init>", "(I)V"⟩
abbrev cX0_clear : ByteArray := prog_2_method_2_code
def yX0_clear : MethodName := ⟨RX0, "clear", "()V"⟩
abbrev cX0_add : ByteArray := prog_2_method_3_code
def yX0_add : MethodName := ⟨RX0, "add", "(I)V"⟩
abbrev cX0_has : ByteArray := prog_2_method_4_code
def yX0_has : MethodName := ⟨RX0, "has", "(I)Z"⟩
abbrev cX0_at : ByteArray := prog_2_method_5_code
def yX0_at : MethodName := ⟨RX0, "at", "(I)I"⟩
def RX1 : String := "ErrandGuild$Errand"
def TX1 : u_T := fun k => match k with
  | 0 => ("ErrandGuild$Errand", "ops", "[I", true)
  | 1 => ("ErrandGuild$Errand", "as", "[I", true)
  | 2 => ("ErrandGuild$Errand", "bs", "[I", true)
  | _ => ("ErrandGuild$Errand", "count", "I", false)
def tyX1 : Nat → FieldType := fun k => match k with
  | 0 => .array .int
  | 1 => .array .int
  | 2 => .array .int
  | _ => .int
abbrev wsX10 : List Cond := u_ws RX1 TX1 4
theorem nmX1 : ∀ a, a < 4 → ∀ b, b < 4 → a ≠ b → (TX1 a).2.1 ≠ (TX1 b).2.1 := by decide +kernel
theorem tyX1_ok : ∀ k, k < 4 → parseFieldDescriptor (TX1 k).2.2.1 = some (tyX1 k) := by decide +kernel
abbrev cX1_init : ByteArray := prog_3_method_1_code
def yX1_init : MethodName := ⟨RX1, "<init>", "()V"⟩
abbrev cX1_add : ByteArray := prog_3_method_2_code
def yX1_add : MethodName := ⟨RX1, "add", "(III)V"⟩
def RX2 : String := "ErrandGuild$Fault"
def TX2 : u_T := fun k => match k with
  | 0 => ("ErrandGuild$Fault", "kind", "I", false)
  | 1 => ("ErrandGuild$Fault", "step", "I", false)
  | 2 => ("ErrandGuild$Fault", "cause", "I", false)
  | 3 => ("ErrandGuild$Fault", "suppressed", "I", false)
  | _ => ("ErrandGuild$Fault", "uncaught", "Z", false)
def tyX2 : Nat → FieldType := fun k => match k with
  | 0 => .int
  | 1 => .int
  | 2 => .int
  | 3 => .int
  | _ => .boolean
abbrev wsX20 : List Cond := u_ws RX2 TX2 5
theorem nmX2 : ∀ a, a < 5 → ∀ b, b < 5 → a ≠ b → (TX2 a).2.1 ≠ (TX2 b).2.1 := by decide +kernel
theorem tyX2_ok : ∀ k, k < 5 → parseFieldDescriptor (TX2 k).2.2.1 = some (tyX2 k) := by decide +kernel
abbrev cX2_init : ByteArray := prog_4_method_1_code
def yX2_init : MethodName := ⟨RX2, "<init>", "()V"⟩
abbrev cX2_clear : ByteArray := prog_4_method_2_code
def yX2_clear : MethodName := ⟨RX2, "clear", "()V"⟩
def RX3 : String := "ErrandGuild$Handlers"
def TX3 : u_T := fun k => match k with
  | 0 => ("ErrandGuild$Handlers", "there", "[Z", true)
  | 1 => ("ErrandGuild$Handlers", "effects", "[I", true)
  | _ => ("ErrandGuild$Handlers", "throwing", "[Z", true)
def tyX3 : Nat → FieldType := fun k => match k with
  | 0 => .array .boolean
  | 1 => .array .int
  | _ => .array .boolean
abbrev wsX30 : List Cond := u_ws RX3 TX3 3
theorem nmX3 : ∀ a, a < 3 → ∀ b, b < 3 → a ≠ b → (TX3 a).2.1 ≠ (TX3 b).2.1 := by decide +kernel
theorem tyX3_ok : ∀ k, k < 3 → parseFieldDescriptor (TX3 k).2.2.1 = some (tyX3 k) := by decide +kernel
abbrev cX3_init : ByteArray := prog_5_method_1_code
def yX3_init : MethodName := ⟨RX3, "<init>", "()V"⟩
abbrev cX3_indexOf : ByteArray := prog_5_method_2_code
def yX3_indexOf : MethodName := ⟨RX3, "indexOf", "(II)I"⟩
abbrev cX3_put : ByteArray := prog_5_method_3_code
def yX3_put : MethodName := ⟨RX3, "put", "(IIZ)V"⟩
abbrev cX3_isThere : ByteArray := prog_5_method_4_code
def yX3_isThere : MethodName := ⟨RX3, "isThere", "(I)Z"⟩
abbrev cX3_isThrowing : ByteArray := prog_5_method_5_code
def yX3_isThrowing : MethodName := ⟨RX3, "isThrowing", "(I)Z"⟩
abbrev cX3_effectAt : ByteArray := prog_5_method_6_code
def yX3_effectAt : MethodName := ⟨RX3, "effectAt", "(I)I"⟩
def RX4 : String := "ErrandGuild$Kin"
def TX4 : u_T := fun k => match k with
  | 0 => ("ErrandGuild$Kin", "giver", "LErrandGuild$Run;", false)
  | 1 => ("ErrandGuild$Kin", "root", "LErrandGuild$Run;", false)
  | 2 => ("ErrandGuild$Kin", "depth", "I", false)
  | 3 => ("ErrandGuild$Kin", "handedAt", "I", false)
  | 4 => ("ErrandGuild$Kin", "claim", "I", false)
  | 5 => ("ErrandGuild$Kin", "firstChild", "LErrandGuild$Run;", false)
  | 6 => ("ErrandGuild$Kin", "lastChild", "LErrandGuild$Run;", false)
  | 7 => ("ErrandGuild$Kin", "nextSibling", "LErrandGuild$Run;", false)
  | _ => ("ErrandGuild$Kin", "children", "I", false)
def tyX4 : Nat → FieldType := fun k => match k with
  | 0 => .object "ErrandGuild$Run"
  | 1 => .object "ErrandGuild$Run"
  | 2 => .int
  | 3 => .int
  | 4 => .int
  | 5 => .object "ErrandGuild$Run"
  | 6 => .object "ErrandGuild$Run"
  | 7 => .object "ErrandGuild$Run"
  | _ => .int
abbrev wsX40 : List Cond := u_ws RX4 TX4 9
theorem nmX4 : ∀ a, a < 9 → ∀ b, b < 9 → a ≠ b → (TX4 a).2.1 ≠ (TX4 b).2.1 := by decide +kernel
theorem tyX4_ok : ∀ k, k < 9 → parseFieldDescriptor (TX4 k).2.2.1 = some (tyX4 k) := by decide +kernel
abbrev cX4_init : ByteArray := prog_6_method_1_code
def yX4_init : MethodName := ⟨RX4, "<init>", "()V"⟩
abbrev cX4_begin : ByteArray := prog_6_method_2_code
def yX4_begin : MethodName := ⟨RX4, "begin", "(LErrandGuild$Run;)V"⟩
abbrev cX4_adopt : ByteArray := prog_6_method_3_code
def yX4_adopt : MethodName := ⟨RX4, "adopt", "(LErrandGuild$Run;)V"⟩
def RX5 : String := "ErrandGuild$Ledger"
def TX5 : u_T := fun k => match k with
  | 0 => ("ErrandGuild$Ledger", "limit", "I", true)
  | _ => ("ErrandGuild$Ledger", "cells", "LErrandGuild$Cells;", true)
def tyX5 : Nat → FieldType := fun k => match k with
  | 0 => .int
  | _ => .object "ErrandGuild$Cells"
abbrev wsX50 : List Cond := u_ws RX5 TX5 2
theorem nmX5 : ∀ a, a < 2 → ∀ b, b < 2 → a ≠ b → (TX5 a).2.1 ≠ (TX5 b).2.1 := by decide +kernel
theorem tyX5_ok : ∀ k, k < 2 → parseFieldDescriptor (TX5 k).2.2.1 = some (tyX5 k) := by decide +kernel
abbrev cX5_init : ByteArray := prog_7_method_1_code
def yX5_init : MethodName := ⟨RX5, "<init>", "(I)V"⟩
abbrev cX5_clear : ByteArray := prog_7_method_2_code
def yX5_clear : MethodName := ⟨RX5, "clear", "()V"⟩
abbrev cX5_add : ByteArray := prog_7_method_3_code
def yX5_add : MethodName := ⟨RX5, "add", "(IIII)V"⟩
abbrev cX5_at : ByteArray := prog_7_method_4_code
def yX5_at : MethodName := ⟨RX5, "at", "(II)I"⟩
def RX6 : String := "ErrandGuild$Memory"
def TX6 : u_T := fun k => match k with
  | 0 => ("ErrandGuild$Memory", "wrote", "[Z", true)
  | 1 => ("ErrandGuild$Memory", "written", "[I", true)
  | _ => ("ErrandGuild$Memory", "given", "[I", true)
def tyX6 : Nat → FieldType := fun k => match k with
  | 0 => .array .boolean
  | 1 => .array .int
  | _ => .array .int
abbrev wsX60 : List Cond := u_ws RX6 TX6 3
theorem nmX6 : ∀ a, a < 3 → ∀ b, b < 3 → a ≠ b → (TX6 a).2.1 ≠ (TX6 b).2.1 := by decide +kernel
theorem tyX6_ok : ∀ k, k < 3 → parseFieldDescriptor (TX6 k).2.2.1 = some (tyX6 k) := by decide +kernel
abbrev cX6_init : ByteArray := prog_8_method_1_code
def yX6_init : MethodName := ⟨RX6, "<init>", "()V"⟩
abbrev cX6_clear : ByteArray := prog_8_method_2_code
def yX6_clear : MethodName := ⟨RX6, "clear", "()V"⟩
abbrev cX6_write : ByteArray := prog_8_method_3_code
def yX6_write : MethodName := ⟨RX6, "write", "(II)V"⟩
abbrev cX6_forget : ByteArray := prog_8_method_4_code
def yX6_forget : MethodName := ⟨RX6, "forget", "(I)V"⟩
abbrev cX6_writtenOr : ByteArray := prog_8_method_5_code
def yX6_writtenOr : MethodName := ⟨RX6, "writtenOr", "(II)I"⟩
abbrev cX6_give : ByteArray := prog_8_method_6_code
def yX6_give : MethodName := ⟨RX6, "give", "(II)V"⟩
abbrev cX6_givenAt : ByteArray := prog_8_method_7_code
def yX6_givenAt : MethodName := ⟨RX6, "givenAt", "(I)I"⟩
def RX7 : String := "ErrandGuild$Run"
def TX7 : u_T := fun k => match k with
  | 0 => ("ErrandGuild$Run", "number", "I", true)
  | 1 => ("ErrandGuild$Run", "errand", "I", false)
  | 2 => ("ErrandGuild$Run", "state", "I", false)
  | 3 => ("ErrandGuild$Run", "thread", "I", false)
  | 4 => ("ErrandGuild$Run", "visits", "I", false)
  | 5 => ("ErrandGuild$Run", "sum", "I", false)
  | 6 => ("ErrandGuild$Run", "place", "I", false)
  | 7 => ("ErrandGuild$Run", "overBeat", "I", false)
  | 8 => ("ErrandGuild$Run", "interrupted", "Z", false)
  | 9 => ("ErrandGuild$Run", "returning", "Z", false)
  | 10 => ("ErrandGuild$Run", "kin", "LErrandGuild$Kin;", true)
  | 11 => ("ErrandGuild$Run", "memory", "LErrandGuild$Memory;", true)
  | 12 => ("ErrandGuild$Run", "scopes", "LErrandGuild$Scopes;", true)
  | 13 => ("ErrandGuild$Run", "fault", "LErrandGuild$Fault;", true)
  | _ => ("ErrandGuild$Run", "remarks", "LErrandGuild$Cells;", true)
def tyX7 : Nat → FieldType := fun k => match k with
  | 0 => .int
  | 1 => .int
  | 2 => .int
  | 3 => .int
  | 4 => .int
  | 5 => .int
  | 6 => .int
  | 7 => .int
  | 8 => .boolean
  | 9 => .boolean
  | 10 => .object "ErrandGuild$Kin"
  | 11 => .object "ErrandGuild$Memory"
  | 12 => .object "ErrandGuild$Scopes"
  | 13 => .object "ErrandGuild$Fault"
  | _ => .object "ErrandGuild$Cells"
abbrev wsX70 : List Cond := u_ws RX7 TX7 15
theorem nmX7 : ∀ a, a < 15 → ∀ b, b < 15 → a ≠ b → (TX7 a).2.1 ≠ (TX7 b).2.1 := by decide +kernel
theorem tyX7_ok : ∀ k, k < 15 → parseFieldDescriptor (TX7 k).2.2.1 = some (tyX7 k) := by decide +kernel
abbrev cX7_init : ByteArray := prog_9_method_1_code
def yX7_init : MethodName := ⟨RX7, "<init>", "(I)V"⟩
abbrev cX7_begin : ByteArray := prog_9_method_2_code
def yX7_begin : MethodName := ⟨RX7, "begin", "(ILErrandGuild$Run;)V"⟩
abbrev cX7_isOver : ByteArray := prog_9_method_3_code
def yX7_isOver : MethodName := ⟨RX7, "isOver", "()Z"⟩
abbrev cX7_root : ByteArray := prog_9_method_4_code
def yX7_root : MethodName := ⟨RX7, "root", "()LErrandGuild$Run;"⟩
def RX8 : String := "ErrandGuild$Scopes"
def TX8 : u_T := fun k => match k with
  | 0 => ("ErrandGuild$Scopes", "bindingSlots", "[I", true)
  | 1 => ("ErrandGuild$Scopes", "bindingValues", "[I", true)
  | 2 => ("ErrandGuild$Scopes", "bindingMarks", "[I", true)
  | 3 => ("ErrandGuild$Scopes", "bindings", "I", false)
  | 4 => ("ErrandGuild$Scopes", "tryKinds", "[I", true)
  | 5 => ("ErrandGuild$Scopes", "tryPlaces", "[I", true)
  | 6 => ("ErrandGuild$Scopes", "tryMarks", "[I", true)
  | 7 => ("ErrandGuild$Scopes", "tries", "I", false)
  | _ => ("ErrandGuild$Scopes", "marks", "I", false)
def tyX8 : Nat → FieldType := fun k => match k with
  | 0 => .array .int
  | 1 => .array .int
  | 2 => .array .int
  | 3 => .int
  | 4 => .array .int
  | 5 => .array .int
  | 6 => .array .int
  | 7 => .int
  | _ => .int
abbrev wsX80 : List Cond := u_ws RX8 TX8 9
theorem nmX8 : ∀ a, a < 9 → ∀ b, b < 9 → a ≠ b → (TX8 a).2.1 ≠ (TX8 b).2.1 := by decide +kernel
theorem tyX8_ok : ∀ k, k < 9 → parseFieldDescriptor (TX8 k).2.2.1 = some (tyX8 k) := by decide +kernel
abbrev cX8_init : ByteArray := prog_10_method_1_code
def yX8_init : MethodName := ⟨RX8, "<init>", "()V"⟩
abbrev cX8_clear : ByteArray := prog_10_method_2_code
def yX8_clear : MethodName := ⟨RX8, "clear", "()V"⟩
abbrev cX8_bind : ByteArray := prog_10_method_3_code
def yX8_bind : MethodName := ⟨RX8, "bind", "(II)V"⟩
abbrev cX8_innermostOf : ByteArray := prog_10_method_4_code
def yX8_innermostOf : MethodName := ⟨RX8, "innermostOf", "(I)I"⟩
abbrev cX8_boundOr : ByteArray := prog_10_method_5_code
def yX8_boundOr : MethodName := ⟨RX8, "boundOr", "(II)I"⟩
abbrev cX8_rebind : ByteArray := prog_10_method_6_code
def yX8_rebind : MethodName := ⟨RX8, "rebind", "(II)Z"⟩
abbrev cX8_free : ByteArray := prog_10_method_7_code
def yX8_free : MethodName := ⟨RX8, "free", "(I)Z"⟩
abbrev cX8_endBindings : ByteArray := prog_10_method_8_code
def yX8_endBindings : MethodName := ⟨RX8, "endBindings", "()V"⟩
abbrev cX8_openTry : ByteArray := prog_10_method_9_code
def yX8_openTry : MethodName := ⟨RX8, "openTry", "(II)V"⟩
abbrev cX8_closeTry : ByteArray := prog_10_method_10_code
def yX8_closeTry : MethodName := ⟨RX8, "closeTry", "()Z"⟩
abbrev cX8_catchOf : ByteArray := prog_10_method_11_code
def yX8_catchOf : MethodName := ⟨RX8, "catchOf", "(I)I"⟩
abbrev cX8_endBindingsSince : ByteArray := prog_10_method_12_code
def yX8_endBindingsSince : MethodName := ⟨RX8, "endBindingsSince", "(I)V"⟩
def RX9 : String := "ErrandGuild"
def TX9 : u_T := fun k => match k with
  | 0 => ("ErrandGuild", "manners", "[I", true)
  | 1 => ("ErrandGuild", "firsts", "[I", true)
  | 2 => ("ErrandGuild", "errands", "[LErrandGuild$Errand;", true)
  | 3 => ("ErrandGuild", "handlers", "LErrandGuild$Handlers;", true)
  | 4 => ("ErrandGuild", "runs", "[LErrandGuild$Run;", true)
  | 5 => ("ErrandGuild", "runCount", "I", false)
  | 6 => ("ErrandGuild", "onThreads", "[LErrandGuild$Run;", true)
  | 7 => ("ErrandGuild", "threadCount", "I", false)
  | 8 => ("ErrandGuild", "beats", "I", false)
  | 9 => ("ErrandGuild", "readings", "LErrandGuild$Ledger;", true)
  | 10 => ("ErrandGuild", "readingCount", "I", false)
  | 11 => ("ErrandGuild", "asked", "LErrandGuild$Ledger;", true)
  | 12 => ("ErrandGuild", "askedCount", "I", false)
  | 13 => ("ErrandGuild", "turns", "LErrandGuild$Cells;", true)
  | _ => ("ErrandGuild", "turnCount", "I", false)
def tyX9 : Nat → FieldType := fun k => match k with
  | 0 => .array .int
  | 1 => .array .int
  | 2 => .array (.object "ErrandGuild$Errand")
  | 3 => .object "ErrandGuild$Handlers"
  | 4 => .array (.object "ErrandGuild$Run")
  | 5 => .int
  | 6 => .array (.object "ErrandGuild$Run")
  | 7 => .int
  | 8 => .int
  | 9 => .object "ErrandGuild$Ledger"
  | 10 => .int
  | 11 => .object "ErrandGuild$Ledger"
  | 12 => .int
  | 13 => .object "ErrandGuild$Cells"
  | _ => .int
abbrev wsX90 : List Cond := u_ws RX9 TX9 15
theorem nmX9 : ∀ a, a < 15 → ∀ b, b < 15 → a ≠ b → (TX9 a).2.1 ≠ (TX9 b).2.1 := by decide +kernel
theorem tyX9_ok : ∀ k, k < 15 → parseFieldDescriptor (TX9 k).2.2.1 = some (tyX9 k) := by decide +kernel
abbrev cX9_init : ByteArray := prog_1_method_1_code
def yX9_init : MethodName := ⟨RX9, "<init>", "()V"⟩
abbrev cX9_slot : ByteArray := prog_1_method_2_code
def yX9_slot : MethodName := ⟨RX9, "slot", "(III)Z"⟩
abbrev cX9_first : ByteArray := prog_1_method_3_code
def yX9_first : MethodName := ⟨RX9, "first", "(II)Z"⟩
abbrev cX9_step : ByteArray := prog_1_method_4_code
def yX9_step : MethodName := ⟨RX9, "step", "(IIII)I"⟩
abbrev cX9_anew : ByteArray := prog_1_method_5_code
def yX9_anew : MethodName := ⟨RX9, "anew", "(Z)V"⟩
abbrev cX9_threads : ByteArray := prog_1_method_6_code
def yX9_threads : MethodName := ⟨RX9, "threads", "(I)Z"⟩
abbrev cX9_handler : ByteArray := prog_1_method_7_code
def yX9_handler : MethodName := ⟨RX9, "handler", "(IIIZ)Z"⟩
abbrev cX9_submit : ByteArray := prog_1_method_8_code
def yX9_submit : MethodName := ⟨RX9, "submit", "(I)I"⟩
abbrev cX9_beat : ByteArray := prog_1_method_9_code
def yX9_beat : MethodName := ⟨RX9, "beat", "(I)I"⟩
abbrev cX9_interrupt : ByteArray := prog_1_method_10_code
def yX9_interrupt : MethodName := ⟨RX9, "interrupt", "(I)Z"⟩
abbrev cX9_run : ByteArray := prog_1_method_11_code
def yX9_run : MethodName := ⟨RX9, "run", "(II)I"⟩
abbrev cX9_failure : ByteArray := prog_1_method_12_code
def yX9_failure : MethodName := ⟨RX9, "failure", "(II)I"⟩
abbrev cX9_trace : ByteArray := prog_1_method_13_code
def yX9_trace : MethodName := ⟨RX9, "trace", "(II)I"⟩
abbrev cX9_child : ByteArray := prog_1_method_14_code
def yX9_child : MethodName := ⟨RX9, "child", "(II)I"⟩
abbrev cX9_value : ByteArray := prog_1_method_15_code
def yX9_value : MethodName := ⟨RX9, "value", "(II)I"⟩
abbrev cX9_seen : ByteArray := prog_1_method_16_code
def yX9_seen : MethodName := ⟨RX9, "seen", "(II)I"⟩
abbrev cX9_remark : ByteArray := prog_1_method_17_code
def yX9_remark : MethodName := ⟨RX9, "remark", "(II)I"⟩
abbrev cX9_handled : ByteArray := prog_1_method_18_code
def yX9_handled : MethodName := ⟨RX9, "handled", "(II)I"⟩
abbrev cX9_order : ByteArray := prog_1_method_19_code
def yX9_order : MethodName := ⟨RX9, "order", "(I)I"⟩
abbrev cX9_count : ByteArray := prog_1_method_20_code
def yX9_count : MethodName := ⟨RX9, "count", "(I)I"⟩
abbrev cX9_isSlot : ByteArray := prog_1_method_21_code
def yX9_isSlot : MethodName := ⟨RX9, "isSlot", "(I)Z"⟩
abbrev cX9_isErrand : ByteArray := prog_1_method_22_code
def yX9_isErrand : MethodName := ⟨RX9, "isErrand", "(I)Z"⟩
abbrev cX9_errandAt : ByteArray := prog_1_method_23_code
def yX9_errandAt : MethodName := ⟨RX9, "errandAt", "(I)LErrandGuild$Errand;"⟩
abbrev cX9_runAt : ByteArray := prog_1_method_24_code
def yX9_runAt : MethodName := ⟨RX9, "runAt", "(I)LErrandGuild$Run;"⟩
abbrev cX9_failedAt : ByteArray := prog_1_method_25_code
def yX9_failedAt : MethodName := ⟨RX9, "failedAt", "(I)LErrandGuild$Run;"⟩
abbrev cX9_runsThatAre : ByteArray := prog_1_method_26_code
def yX9_runsThatAre : MethodName := ⟨RX9, "runsThatAre", "(I)I"⟩
abbrev cX9_runOnThread : ByteArray := prog_1_method_27_code
def yX9_runOnThread : MethodName := ⟨RX9, "runOnThread", "(I)I"⟩
abbrev cX9_isWorkLeft : ByteArray := prog_1_method_28_code
def yX9_isWorkLeft : MethodName := ⟨RX9, "isWorkLeft", "()Z"⟩
abbrev cX9_wipeErrands : ByteArray := prog_1_method_29_code
def yX9_wipeErrands : MethodName := ⟨RX9, "wipeErrands", "()V"⟩
abbrev cX9_fits : ByteArray := prog_1_method_30_code
def yX9_fits : MethodName := ⟨RX9, "fits", "(IIII)Z"⟩
abbrev cX9_readIn : ByteArray := prog_1_method_31_code
def yX9_readIn : MethodName := ⟨RX9, "readIn", "(LErrandGuild$Run;I)I"⟩
abbrev cX9_writeIn : ByteArray := prog_1_method_32_code
def yX9_writeIn : MethodName := ⟨RX9, "writeIn", "(LErrandGuild$Run;II)I"⟩
abbrev cX9_addReading : ByteArray := prog_1_method_33_code
def yX9_addReading : MethodName := ⟨RX9, "addReading", "(LErrandGuild$Run;I)I"⟩
abbrev cX9_bind : ByteArray := prog_1_method_34_code
def yX9_bind : MethodName := ⟨RX9, "bind", "(LErrandGuild$Run;II)I"⟩
abbrev cX9_fillThreads : ByteArray := prog_1_method_35_code
def yX9_fillThreads : MethodName := ⟨RX9, "fillThreads", "()V"⟩
abbrev cX9_takeTurns : ByteArray := prog_1_method_36_code
def yX9_takeTurns : MethodName := ⟨RX9, "takeTurns", "()V"⟩
abbrev cX9_wakeWaiting : ByteArray := prog_1_method_37_code
def yX9_wakeWaiting : MethodName := ⟨RX9, "wakeWaiting", "()V"⟩
abbrev cX9_comeToThread : ByteArray := prog_1_method_38_code
def yX9_comeToThread : MethodName := ⟨RX9, "comeToThread", "(LErrandGuild$Run;)V"⟩
abbrev cX9_leaveThread : ByteArray := prog_1_method_39_code
def yX9_leaveThread : MethodName := ⟨RX9, "leaveThread", "(LErrandGuild$Run;)V"⟩
abbrev cX9_noteTurn : ByteArray := prog_1_method_40_code
def yX9_noteTurn : MethodName := ⟨RX9, "noteTurn", "(LErrandGuild$Run;)V"⟩
abbrev cX9_closeTurn : ByteArray := prog_1_method_41_code
def yX9_closeTurn : MethodName := ⟨RX9, "closeTurn", "(LErrandGuild$Run;I)V"⟩
abbrev cX9_standIn : ByteArray := prog_1_method_42_code
def yX9_standIn : MethodName := ⟨RX9, "standIn", "(LErrandGuild$Run;)I"⟩
abbrev cX9_doStep : ByteArray := prog_1_method_43_code
def yX9_doStep : MethodName := ⟨RX9, "doStep", "(LErrandGuild$Run;)I"⟩
abbrev cX9_end : ByteArray := prog_1_method_44_code
def yX9_end : MethodName := ⟨RX9, "end", "(LErrandGuild$Run;)I"⟩
abbrev cX9_openRun : ByteArray := prog_1_method_45_code
def yX9_openRun : MethodName := ⟨RX9, "openRun", "(ILErrandGuild$Run;)LErrandGuild$Run;"⟩
abbrev cX9_hand : ByteArray := prog_1_method_46_code
def yX9_hand : MethodName := ⟨RX9, "hand", "(LErrandGuild$Run;IIZ)I"⟩
abbrev cX9_gather : ByteArray := prog_1_method_47_code
def yX9_gather : MethodName := ⟨RX9, "gather", "(LErrandGuild$Run;)I"⟩
abbrev cX9_areAwaitedOver : ByteArray := prog_1_method_48_code
def yX9_areAwaitedOver : MethodName := ⟨RX9, "areAwaitedOver", "(LErrandGuild$Run;)Z"⟩
abbrev cX9_settleAwaited : ByteArray := prog_1_method_49_code
def yX9_settleAwaited : MethodName := ⟨RX9, "settleAwaited", "(LErrandGuild$Run;)V"⟩
abbrev cX9_takeAnswers : ByteArray := prog_1_method_50_code
def yX9_takeAnswers : MethodName := ⟨RX9, "takeAnswers", "(LErrandGuild$Run;)I"⟩
abbrev cX9_noticeInterrupt : ByteArray := prog_1_method_51_code
def yX9_noticeInterrupt : MethodName := ⟨RX9, "noticeInterrupt", "(LErrandGuild$Run;)I"⟩
abbrev cX9_failWith : ByteArray := prog_1_method_52_code
def yX9_failWith : MethodName := ⟨RX9, "failWith", "(LErrandGuild$Run;I)V"⟩
abbrev cX9_tellUncaught : ByteArray := prog_1_method_53_code
def yX9_tellUncaught : MethodName := ⟨RX9, "tellUncaught", "(LErrandGuild$Run;)V"⟩
abbrev cX9_askHandlers : ByteArray := prog_1_method_54_code
def yX9_askHandlers : MethodName := ⟨RX9, "askHandlers", "(LErrandGuild$Run;)V"⟩
def RX10 : String := "ErrandGuildModel"
def TX10 : u_T := fun k => match k with
  | 0 => ("ErrandGuildModel", "manner", "[I", true)
  | 1 => ("ErrandGuildModel", "first", "[I", true)
  | 2 => ("ErrandGuildModel", "stepMany", "[I", true)
  | 3 => ("ErrandGuildModel", "op", "[I", true)
  | 4 => ("ErrandGuildModel", "opA", "[I", true)
  | 5 => ("ErrandGuildModel", "opB", "[I", true)
  | 6 => ("ErrandGuildModel", "isHandler", "[Z", true)
  | 7 => ("ErrandGuildModel", "throwsOn", "[Z", true)
  | 8 => ("ErrandGuildModel", "effect", "[I", true)
  | 9 => ("ErrandGuildModel", "threads", "I", false)
  | 10 => ("ErrandGuildModel", "onThread", "[I", true)
  | 11 => ("ErrandGuildModel", "runs", "I", false)
  | 12 => ("ErrandGuildModel", "beats", "I", false)
  | 13 => ("ErrandGuildModel", "state", "[I", true)
  | 14 => ("ErrandGuildModel", "errand", "[I", true)
  | 15 => ("ErrandGuildModel", "giver", "[I", true)
  | 16 => ("ErrandGuildModel", "root", "[I", true)
  | 17 => ("ErrandGuildModel", "depth", "[I", true)
  | 18 => ("ErrandGuildModel", "thread", "[I", true)
  | 19 => ("ErrandGuildModel", "sum", "[I", true)
  | 20 => ("ErrandGuildModel", "place", "[I", true)
  | 21 => ("ErrandGuildModel", "gaveAt", "[I", true)
  | 22 => ("ErrandGuildModel", "endedAt", "[I", true)
  | 23 => ("ErrandGuildModel", "came", "[I", true)
  | 24 => ("ErrandGuildModel", "isBack", "[Z", true)
  | 25 => ("ErrandGuildModel", "isTold", "[Z", true)
  | 26 => ("ErrandGuildModel", "wasWaited", "[Z", true)
  | 27 => ("ErrandGuildModel", "isAwaited", "[Z", true)
  | 28 => ("ErrandGuildModel", "failKind", "[I", true)
  | 29 => ("ErrandGuildModel", "failStep", "[I", true)
  | 30 => ("ErrandGuildModel", "failCause", "[I", true)
  | 31 => ("ErrandGuildModel", "failOthers", "[I", true)
  | 32 => ("ErrandGuildModel", "isUncaught", "[Z", true)
  | 33 => ("ErrandGuildModel", "kept", "[I", true)
  | 34 => ("ErrandGuildModel", "wrote", "[I", true)
  | 35 => ("ErrandGuildModel", "hasWritten", "[Z", true)
  | 36 => ("ErrandGuildModel", "bindMany", "[I", true)
  | 37 => ("ErrandGuildModel", "bindSlot", "[I", true)
  | 38 => ("ErrandGuildModel", "bindValue", "[I", true)
  | 39 => ("ErrandGuildModel", "tryMany", "[I", true)
  | 40 => ("ErrandGuildModel", "tryKind", "[I", true)
  | 41 => ("ErrandGuildModel", "tryPlace", "[I", true)
  | 42 => ("ErrandGuildModel", "bindNumber", "[I", true)
  | 43 => ("ErrandGuildModel", "tryNumber", "[I", true)
  | 44 => ("ErrandGuildModel", "opened", "I", false)
  | 45 => ("ErrandGuildModel", "seenMany", "I", false)
  | 46 => ("ErrandGuildModel", "remarkMany", "I", false)
  | 47 => ("ErrandGuildModel", "handledMany", "I", false)
  | 48 => ("ErrandGuildModel", "orderMany", "I", false)
  | 49 => ("ErrandGuildModel", "seenRun", "[I", true)
  | 50 => ("ErrandGuildModel", "seenSlot", "[I", true)
  | 51 => ("ErrandGuildModel", "seenValue", "[I", true)
  | 52 => ("ErrandGuildModel", "seenStep", "[I", true)
  | 53 => ("ErrandGuildModel", "remarkRoot", "[I", true)
  | 54 => ("ErrandGuildModel", "remarkValue", "[I", true)
  | 55 => ("ErrandGuildModel", "handledRun", "[I", true)
  | 56 => ("ErrandGuildModel", "handledLevel", "[I", true)
  | 57 => ("ErrandGuildModel", "handledEffect", "[I", true)
  | 58 => ("ErrandGuildModel", "handledThrew", "[I", true)
  | _ => ("ErrandGuildModel", "order", "[I", true)
def tyX10 : Nat → FieldType := fun k => match k with
  | 0 => .array .int
  | 1 => .array .int
  | 2 => .array .int
  | 3 => .array .int
  | 4 => .array .int
  | 5 => .array .int
  | 6 => .array .boolean
  | 7 => .array .boolean
  | 8 => .array .int
  | 9 => .int
  | 10 => .array .int
  | 11 => .int
  | 12 => .int
  | 13 => .array .int
  | 14 => .array .int
  | 15 => .array .int
  | 16 => .array .int
  | 17 => .array .int
  | 18 => .array .int
  | 19 => .array .int
  | 20 => .array .int
  | 21 => .array .int
  | 22 => .array .int
  | 23 => .array .int
  | 24 => .array .boolean
  | 25 => .array .boolean
  | 26 => .array .boolean
  | 27 => .array .boolean
  | 28 => .array .int
  | 29 => .array .int
  | 30 => .array .int
  | 31 => .array .int
  | 32 => .array .boolean
  | 33 => .array .int
  | 34 => .array .int
  | 35 => .array .boolean
  | 36 => .array .int
  | 37 => .array .int
  | 38 => .array .int
  | 39 => .array .int
  | 40 => .array .int
  | 41 => .array .int
  | 42 => .array .int
  | 43 => .array .int
  | 44 => .int
  | 45 => .int
  | 46 => .int
  | 47 => .int
  | 48 => .int
  | 49 => .array .int
  | 50 => .array .int
  | 51 => .array .int
  | 52 => .array .int
  | 53 => .array .int
  | 54 => .array .int
  | 55 => .array .int
  | 56 => .array .int
  | 57 => .array .int
  | 58 => .array .int
  | _ => .array .int
abbrev wsX100 : List Cond := u_ws RX10 TX10 60
theorem nmX10 : ∀ a, a < 60 → ∀ b, b < 60 → a ≠ b → (TX10 a).2.1 ≠ (TX10 b).2.1 := by decide +kernel
theorem tyX10_ok : ∀ k, k < 60 → parseFieldDescriptor (TX10 k).2.2.1 = some (tyX10 k) := by decide +kernel
abbrev cX10_init : ByteArray := prog_12_method_1_code
def yX10_init : MethodName := ⟨RX10, "<init>", "()V"⟩
abbrev cX10_isSlot : ByteArray := prog_12_method_2_code
def yX10_isSlot : MethodName := ⟨RX10, "isSlot", "(I)Z"⟩
abbrev cX10_isErrand : ByteArray := prog_12_method_3_code
def yX10_isErrand : MethodName := ⟨RX10, "isErrand", "(I)Z"⟩
abbrev cX10_slot : ByteArray := prog_12_method_4_code
def yX10_slot : MethodName := ⟨RX10, "slot", "(III)Z"⟩
abbrev cX10_first : ByteArray := prog_12_method_5_code
def yX10_first : MethodName := ⟨RX10, "first", "(II)Z"⟩
abbrev cX10_areGood : ByteArray := prog_12_method_6_code
def yX10_areGood : MethodName := ⟨RX10, "areGood", "(IIII)Z"⟩
abbrev cX10_step : ByteArray := prog_12_method_7_code
def yX10_step : MethodName := ⟨RX10, "step", "(IIII)I"⟩
abbrev cX10_handler : ByteArray := prog_12_method_8_code
def yX10_handler : MethodName := ⟨RX10, "handler", "(IIIZ)Z"⟩
abbrev cX10_threads : ByteArray := prog_12_method_9_code
def yX10_threads : MethodName := ⟨RX10, "threads", "(I)Z"⟩
abbrev cX10_anew : ByteArray := prog_12_method_10_code
def yX10_anew : MethodName := ⟨RX10, "anew", "(Z)V"⟩
abbrev cX10_isRun : ByteArray := prog_12_method_11_code
def yX10_isRun : MethodName := ⟨RX10, "isRun", "(I)Z"⟩
abbrev cX10_isOver : ByteArray := prog_12_method_12_code
def yX10_isOver : MethodName := ⟨RX10, "isOver", "(I)Z"⟩
abbrev cX10_comes : ByteArray := prog_12_method_13_code
def yX10_comes : MethodName := ⟨RX10, "comes", "(II)I"⟩
abbrev cX10_submit : ByteArray := prog_12_method_14_code
def yX10_submit : MethodName := ⟨RX10, "submit", "(I)I"⟩
abbrev cX10_binding : ByteArray := prog_12_method_15_code
def yX10_binding : MethodName := ⟨RX10, "binding", "(II)I"⟩
abbrev cX10_reads : ByteArray := prog_12_method_16_code
def yX10_reads : MethodName := ⟨RX10, "reads", "(II)I"⟩
abbrev cX10_leaves : ByteArray := prog_12_method_17_code
def yX10_leaves : MethodName := ⟨RX10, "leaves", "(I)V"⟩
abbrev cX10_asks : ByteArray := prog_12_method_18_code
def yX10_asks : MethodName := ⟨RX10, "asks", "(I)V"⟩
abbrev cX10_goes : ByteArray := prog_12_method_19_code
def yX10_goes : MethodName := ⟨RX10, "goes", "(II)V"⟩
abbrev cX10_fails : ByteArray := prog_12_method_20_code
def yX10_fails : MethodName := ⟨RX10, "fails", "(IIII)V"⟩
abbrev cX10_areOver : ByteArray := prog_12_method_21_code
def yX10_areOver : MethodName := ⟨RX10, "areOver", "(I)Z"⟩
abbrev cX10_gathers : ByteArray := prog_12_method_22_code
def yX10_gathers : MethodName := ⟨RX10, "gathers", "(I)V"⟩
abbrev cX10_waits : ByteArray := prog_12_method_23_code
def yX10_waits : MethodName := ⟨RX10, "waits", "(I)V"⟩
abbrev cX10_hands : ByteArray := prog_12_method_24_code
def yX10_hands : MethodName := ⟨RX10, "hands", "(IIZ)Z"⟩
abbrev cX10_does : ByteArray := prog_12_method_25_code
def yX10_does : MethodName := ⟨RX10, "does", "(I)V"⟩
abbrev cX10_writes : ByteArray := prog_12_method_26_code
def yX10_writes : MethodName := ⟨RX10, "writes", "(III)Z"⟩
abbrev cX10_adds : ByteArray := prog_12_method_27_code
def yX10_adds : MethodName := ⟨RX10, "adds", "(II)V"⟩
abbrev cX10_binds : ByteArray := prog_12_method_28_code
def yX10_binds : MethodName := ⟨RX10, "binds", "(III)Z"⟩
abbrev cX10_frees : ByteArray := prog_12_method_29_code
def yX10_frees : MethodName := ⟨RX10, "frees", "(II)Z"⟩
abbrev cX10_free : ByteArray := prog_12_method_30_code
def yX10_free : MethodName := ⟨RX10, "free", "()I"⟩
abbrev cX10_turn : ByteArray := prog_12_method_31_code
def yX10_turn : MethodName := ⟨RX10, "turn", "(I)V"⟩
abbrev cX10_oneBeat : ByteArray := prog_12_method_32_code
def yX10_oneBeat : MethodName := ⟨RX10, "oneBeat", "()V"⟩
abbrev cX10_isLeft : ByteArray := prog_12_method_33_code
def yX10_isLeft : MethodName := ⟨RX10, "isLeft", "()Z"⟩
abbrev cX10_beat : ByteArray := prog_12_method_34_code
def yX10_beat : MethodName := ⟨RX10, "beat", "(I)I"⟩
abbrev cX10_interrupt : ByteArray := prog_12_method_35_code
def yX10_interrupt : MethodName := ⟨RX10, "interrupt", "(I)Z"⟩
abbrev cX10_children : ByteArray := prog_12_method_36_code
def yX10_children : MethodName := ⟨RX10, "children", "(I)I"⟩
abbrev cX10_run : ByteArray := prog_12_method_37_code
def yX10_run : MethodName := ⟨RX10, "run", "(II)I"⟩
abbrev cX10_failure : ByteArray := prog_12_method_38_code
def yX10_failure : MethodName := ⟨RX10, "failure", "(II)I"⟩
abbrev cX10_trace : ByteArray := prog_12_method_39_code
def yX10_trace : MethodName := ⟨RX10, "trace", "(II)I"⟩
abbrev cX10_child : ByteArray := prog_12_method_40_code
def yX10_child : MethodName := ⟨RX10, "child", "(II)I"⟩
abbrev cX10_value : ByteArray := prog_12_method_41_code
def yX10_value : MethodName := ⟨RX10, "value", "(II)I"⟩
abbrev cX10_seen : ByteArray := prog_12_method_42_code
def yX10_seen : MethodName := ⟨RX10, "seen", "(II)I"⟩
abbrev cX10_remark : ByteArray := prog_12_method_43_code
def yX10_remark : MethodName := ⟨RX10, "remark", "(II)I"⟩
abbrev cX10_handled : ByteArray := prog_12_method_44_code
def yX10_handled : MethodName := ⟨RX10, "handled", "(II)I"⟩
abbrev cX10_order : ByteArray := prog_12_method_45_code
def yX10_order : MethodName := ⟨RX10, "order", "(I)I"⟩
abbrev cX10_inState : ByteArray := prog_12_method_46_code
def yX10_inState : MethodName := ⟨RX10, "inState", "(I)I"⟩
abbrev cX10_count : ByteArray := prog_12_method_47_code
def yX10_count : MethodName := ⟨RX10, "count", "(I)I"⟩
def RJ10 : String := "java/lang/System"
def TJ10 : u_T := fun k => match k with
  | _ => ("", "", "", false)
def tyJ10 : Nat → FieldType := fun k => match k with
  | _ => .int
abbrev wsJ100 : List Cond := u_ws RJ10 TJ10 0
theorem nmJ10 : ∀ a, a < 0 → ∀ b, b < 0 → a ≠ b → (TJ10 a).2.1 ≠ (TJ10 b).2.1 := by decide +kernel
theorem tyJ10_ok : ∀ k, k < 0 → parseFieldDescriptor (TJ10 k).2.2.1 = some (tyJ10 k) := by decide +kernel
def RL : String := "ErrandGuildLaw"
abbrev cL_law : ByteArray := code
def yL_law : MethodName := ⟨RL, "law", "([I)Z"⟩
theorem inJ10 : ∀ w ∈ wsJ100, w ∈ lw_tbl := by decide +kernel
abbrev vwCl : List vw_C := [(RX0, TX0, 3), (RX1, TX1, 4), (RX2, TX2, 5), (RX3, TX3, 3), (RX4, TX4, 9), (RX5, TX5, 2), (RX6, TX6, 3), (RX7, TX7, 15), (RX8, TX8, 9), (RX9, TX9, 15), (RX10, TX10, 60)]
