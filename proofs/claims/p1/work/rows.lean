section
-- ===== PART A: goes FIRST, ahead of the names: the tables' words, and 'selects' of the private methods out of them =====
/-- a private method of a class that the tables say can be made, by its rows of tables_1 -/
def lw_okq (q : MethodName × Nat) : Prop := (q.1.cls ≠ "java/lang/invoke/MethodHandle" ∧ q.1.cls ≠ "java/lang/invoke/VarHandle") ∧ Cond.instantiable q.1.cls q.2 ∈ tables_1 ∧ Cond.privateMethod q.1 ∈ tables_1 ∧ Cond.instanceMethod q.1 ∈ tables_1
theorem lw_p0 : lw_okq (⟨"GateSums", "refused", "(I)I"⟩, 9) := ⟨⟨by decide +kernel, by decide +kernel⟩, List.mem_of_getElem? (i := 17) (by decide +kernel), List.mem_of_getElem? (i := 209) (by decide +kernel), List.mem_of_getElem? (i := 210) (by decide +kernel)⟩
theorem lw_p1 : lw_okq (⟨"GateSums$Reader", "advance", "()V"⟩, 4) := ⟨⟨by decide +kernel, by decide +kernel⟩, List.mem_of_getElem? (i := 25) (by decide +kernel), List.mem_of_getElem? (i := 229) (by decide +kernel), List.mem_of_getElem? (i := 230) (by decide +kernel)⟩
theorem lw_p2 : lw_okq (⟨"GateSums$Reader", "readInputs", "(LGateSums$Circuit;)Z"⟩, 4) := ⟨⟨by decide +kernel, by decide +kernel⟩, List.mem_of_getElem? (i := 25) (by decide +kernel), List.mem_of_getElem? (i := 240) (by decide +kernel), List.mem_of_getElem? (i := 241) (by decide +kernel)⟩
theorem lw_p3 : lw_okq (⟨"GateSums$Reader", "takeWord", "(Ljava/lang/String;)Z"⟩, 4) := ⟨⟨by decide +kernel, by decide +kernel⟩, List.mem_of_getElem? (i := 25) (by decide +kernel), List.mem_of_getElem? (i := 245) (by decide +kernel), List.mem_of_getElem? (i := 246) (by decide +kernel)⟩
theorem lw_p4 : lw_okq (⟨"GateSums$Reader", "isWord", "(Ljava/lang/String;)Z"⟩, 4) := ⟨⟨by decide +kernel, by decide +kernel⟩, List.mem_of_getElem? (i := 25) (by decide +kernel), List.mem_of_getElem? (i := 249) (by decide +kernel), List.mem_of_getElem? (i := 250) (by decide +kernel)⟩
theorem lw_p5 : lw_okq (⟨"GateSums$Reader", "takeNumber", "(II)I"⟩, 4) := ⟨⟨by decide +kernel, by decide +kernel⟩, List.mem_of_getElem? (i := 25) (by decide +kernel), List.mem_of_getElem? (i := 301) (by decide +kernel), List.mem_of_getElem? (i := 302) (by decide +kernel)⟩
theorem lw_p6 : lw_okq (⟨"GateSums$Reader", "takeSemicolon", "()Z"⟩, 4) := ⟨⟨by decide +kernel, by decide +kernel⟩, List.mem_of_getElem? (i := 25) (by decide +kernel), List.mem_of_getElem? (i := 309) (by decide +kernel), List.mem_of_getElem? (i := 310) (by decide +kernel)⟩
theorem lw_p7 : lw_okq (⟨"GateSums$Reader", "readGates", "(LGateSums$Circuit;)Z"⟩, 4) := ⟨⟨by decide +kernel, by decide +kernel⟩, List.mem_of_getElem? (i := 25) (by decide +kernel), List.mem_of_getElem? (i := 313) (by decide +kernel), List.mem_of_getElem? (i := 314) (by decide +kernel)⟩
theorem lw_p8 : lw_okq (⟨"GateSums$Reader", "readGate", "(LGateSums$Circuit;)Z"⟩, 4) := ⟨⟨by decide +kernel, by decide +kernel⟩, List.mem_of_getElem? (i := 25) (by decide +kernel), List.mem_of_getElem? (i := 318) (by decide +kernel), List.mem_of_getElem? (i := 319) (by decide +kernel)⟩
theorem lw_p9 : lw_okq (⟨"GateSums$Reader", "gateKind", "()I"⟩, 4) := ⟨⟨by decide +kernel, by decide +kernel⟩, List.mem_of_getElem? (i := 25) (by decide +kernel), List.mem_of_getElem? (i := 322) (by decide +kernel), List.mem_of_getElem? (i := 323) (by decide +kernel)⟩
theorem lw_p10 : lw_okq (⟨"GateSums$Reader", "readOutputs", "(LGateSums$Circuit;)Z"⟩, 4) := ⟨⟨by decide +kernel, by decide +kernel⟩, List.mem_of_getElem? (i := 25) (by decide +kernel), List.mem_of_getElem? (i := 349) (by decide +kernel), List.mem_of_getElem? (i := 350) (by decide +kernel)⟩
theorem lw_p11 : lw_okq (⟨"GateSums$Reader", "readTask", "(LGateSums$Circuit;)Z"⟩, 4) := ⟨⟨by decide +kernel, by decide +kernel⟩, List.mem_of_getElem? (i := 25) (by decide +kernel), List.mem_of_getElem? (i := 358) (by decide +kernel), List.mem_of_getElem? (i := 359) (by decide +kernel)⟩
theorem lw_p12 : lw_okq (⟨"GateSums$Reader", "taskKind", "()I"⟩, 4) := ⟨⟨by decide +kernel, by decide +kernel⟩, List.mem_of_getElem? (i := 25) (by decide +kernel), List.mem_of_getElem? (i := 363) (by decide +kernel), List.mem_of_getElem? (i := 364) (by decide +kernel)⟩
theorem lw_p13 : lw_okq (⟨"GateSums", "changed", "()I"⟩, 9) := ⟨⟨by decide +kernel, by decide +kernel⟩, List.mem_of_getElem? (i := 17) (by decide +kernel), List.mem_of_getElem? (i := 405) (by decide +kernel), List.mem_of_getElem? (i := 406) (by decide +kernel)⟩
theorem lw_p14 : lw_okq (⟨"GateSums$Columns", "column", "(LGateSums$Circuit;II)J"⟩, 1) := ⟨⟨by decide +kernel, by decide +kernel⟩, List.mem_of_getElem? (i := 122) (by decide +kernel), List.mem_of_getElem? (i := 416) (by decide +kernel), List.mem_of_getElem? (i := 417) (by decide +kernel)⟩
theorem lw_p15 : lw_okq (⟨"GateSums$Columns", "row", "(I)J"⟩, 1) := ⟨⟨by decide +kernel, by decide +kernel⟩, List.mem_of_getElem? (i := 122) (by decide +kernel), List.mem_of_getElem? (i := 421) (by decide +kernel), List.mem_of_getElem? (i := 422) (by decide +kernel)⟩
def lw_privs_1 : List (MethodName × Nat) := [(⟨"GateSums", "refused", "(I)I"⟩, 9), (⟨"GateSums$Reader", "advance", "()V"⟩, 4), (⟨"GateSums$Reader", "readInputs", "(LGateSums$Circuit;)Z"⟩, 4), (⟨"GateSums$Reader", "takeWord", "(Ljava/lang/String;)Z"⟩, 4), (⟨"GateSums$Reader", "isWord", "(Ljava/lang/String;)Z"⟩, 4), (⟨"GateSums$Reader", "takeNumber", "(II)I"⟩, 4), (⟨"GateSums$Reader", "takeSemicolon", "()Z"⟩, 4), (⟨"GateSums$Reader", "readGates", "(LGateSums$Circuit;)Z"⟩, 4), (⟨"GateSums$Reader", "readGate", "(LGateSums$Circuit;)Z"⟩, 4), (⟨"GateSums$Reader", "gateKind", "()I"⟩, 4), (⟨"GateSums$Reader", "readOutputs", "(LGateSums$Circuit;)Z"⟩, 4), (⟨"GateSums$Reader", "readTask", "(LGateSums$Circuit;)Z"⟩, 4), (⟨"GateSums$Reader", "taskKind", "()I"⟩, 4), (⟨"GateSums", "changed", "()I"⟩, 9), (⟨"GateSums$Columns", "column", "(LGateSums$Circuit;II)J"⟩, 1), (⟨"GateSums$Columns", "row", "(I)J"⟩, 1)]
theorem lw_r1 : ∀ q ∈ lw_privs_1, lw_okq q := List.forall_mem_cons.mpr ⟨lw_p0, List.forall_mem_cons.mpr ⟨lw_p1, List.forall_mem_cons.mpr ⟨lw_p2, List.forall_mem_cons.mpr ⟨lw_p3, List.forall_mem_cons.mpr ⟨lw_p4, List.forall_mem_cons.mpr ⟨lw_p5, List.forall_mem_cons.mpr ⟨lw_p6, List.forall_mem_cons.mpr ⟨lw_p7, List.forall_mem_cons.mpr ⟨lw_p8, List.forall_mem_cons.mpr ⟨lw_p9, List.forall_mem_cons.mpr ⟨lw_p10, List.forall_mem_cons.mpr ⟨lw_p11, List.forall_mem_cons.mpr ⟨lw_p12, List.forall_mem_cons.mpr ⟨lw_p13, List.forall_mem_cons.mpr ⟨lw_p14, List.forall_mem_cons.mpr ⟨lw_p15, fun _ h => absurd h List.not_mem_nil⟩⟩⟩⟩⟩⟩⟩⟩⟩⟩⟩⟩⟩⟩⟩⟩
theorem lw_p16 : lw_okq (⟨"GateSums", "isGate", "(I)Z"⟩, 9) := ⟨⟨by decide +kernel, by decide +kernel⟩, List.mem_of_getElem? (i := 17) (by decide +kernel), List.mem_of_getElem? (i := 435) (by decide +kernel), List.mem_of_getElem? (i := 436) (by decide +kernel)⟩
theorem lw_p17 : lw_okq (⟨"GateSums", "refusal", "(Z)I"⟩, 9) := ⟨⟨by decide +kernel, by decide +kernel⟩, List.mem_of_getElem? (i := 17) (by decide +kernel), List.mem_of_getElem? (i := 443) (by decide +kernel), List.mem_of_getElem? (i := 444) (by decide +kernel)⟩
theorem lw_p18 : lw_okq (⟨"GateSums", "isWay", "(II)Z"⟩, 9) := ⟨⟨by decide +kernel, by decide +kernel⟩, List.mem_of_getElem? (i := 17) (by decide +kernel), List.mem_of_getElem? (i := 453) (by decide +kernel), List.mem_of_getElem? (i := 454) (by decide +kernel)⟩
theorem lw_p19 : lw_okq (⟨"GateSums", "isAhead", "(II)Z"⟩, 9) := ⟨⟨by decide +kernel, by decide +kernel⟩, List.mem_of_getElem? (i := 17) (by decide +kernel), List.mem_of_getElem? (i := 457) (by decide +kernel), List.mem_of_getElem? (i := 458) (by decide +kernel)⟩
theorem lw_p20 : lw_okq (⟨"GateSums", "isPlace", "(I)Z"⟩, 9) := ⟨⟨by decide +kernel, by decide +kernel⟩, List.mem_of_getElem? (i := 17) (by decide +kernel), List.mem_of_getElem? (i := 476) (by decide +kernel), List.mem_of_getElem? (i := 477) (by decide +kernel)⟩
theorem lw_p21 : lw_okq (⟨"GateSums", "isInputs", "(I)Z"⟩, 9) := ⟨⟨by decide +kernel, by decide +kernel⟩, List.mem_of_getElem? (i := 17) (by decide +kernel), List.mem_of_getElem? (i := 507) (by decide +kernel), List.mem_of_getElem? (i := 508) (by decide +kernel)⟩
theorem lw_p22 : lw_okq (⟨"GateSums", "isSignal", "(I)Z"⟩, 9) := ⟨⟨by decide +kernel, by decide +kernel⟩, List.mem_of_getElem? (i := 17) (by decide +kernel), List.mem_of_getElem? (i := 528) (by decide +kernel), List.mem_of_getElem? (i := 529) (by decide +kernel)⟩
theorem lw_p23 : lw_okq (⟨"GateSums$Columns", "isWrong", "(LGateSums$Circuit;I)Z"⟩, 1) := ⟨⟨by decide +kernel, by decide +kernel⟩, List.mem_of_getElem? (i := 122) (by decide +kernel), List.mem_of_getElem? (i := 542) (by decide +kernel), List.mem_of_getElem? (i := 543) (by decide +kernel)⟩
theorem lw_p24 : lw_okq (⟨"GateSums", "stageRefusal", "(ZI)I"⟩, 9) := ⟨⟨by decide +kernel, by decide +kernel⟩, List.mem_of_getElem? (i := 17) (by decide +kernel), List.mem_of_getElem? (i := 560) (by decide +kernel), List.mem_of_getElem? (i := 561) (by decide +kernel)⟩
theorem lw_p25 : lw_okq (⟨"GateSums$Stages", "addOutputs", "(LGateSums$Circuit;)V"⟩, 6) := ⟨⟨by decide +kernel, by decide +kernel⟩, List.mem_of_getElem? (i := 133) (by decide +kernel), List.mem_of_getElem? (i := 568) (by decide +kernel), List.mem_of_getElem? (i := 569) (by decide +kernel)⟩
theorem lw_p26 : lw_okq (⟨"GateSums$Polynomial", "placeOf", "(I)I"⟩, 3) := ⟨⟨by decide +kernel, by decide +kernel⟩, List.mem_of_getElem? (i := 139) (by decide +kernel), List.mem_of_getElem? (i := 580) (by decide +kernel), List.mem_of_getElem? (i := 581) (by decide +kernel)⟩
theorem lw_p27 : lw_okq (⟨"GateSums$Polynomial", "insert", "(III)V"⟩, 3) := ⟨⟨by decide +kernel, by decide +kernel⟩, List.mem_of_getElem? (i := 139) (by decide +kernel), List.mem_of_getElem? (i := 585) (by decide +kernel), List.mem_of_getElem? (i := 586) (by decide +kernel)⟩
theorem lw_p28 : lw_okq (⟨"GateSums$Polynomial", "remove", "(I)V"⟩, 3) := ⟨⟨by decide +kernel, by decide +kernel⟩, List.mem_of_getElem? (i := 139) (by decide +kernel), List.mem_of_getElem? (i := 593) (by decide +kernel), List.mem_of_getElem? (i := 594) (by decide +kernel)⟩
theorem lw_p29 : lw_okq (⟨"GateSums$Stages", "takeTask", "(LGateSums$Circuit;)V"⟩, 6) := ⟨⟨by decide +kernel, by decide +kernel⟩, List.mem_of_getElem? (i := 133) (by decide +kernel), List.mem_of_getElem? (i := 597) (by decide +kernel), List.mem_of_getElem? (i := 598) (by decide +kernel)⟩
theorem lw_p30 : lw_okq (⟨"GateSums$Stages", "replaceGate", "(LGateSums$Circuit;II)V"⟩, 6) := ⟨⟨by decide +kernel, by decide +kernel⟩, List.mem_of_getElem? (i := 133) (by decide +kernel), List.mem_of_getElem? (i := 606) (by decide +kernel), List.mem_of_getElem? (i := 607) (by decide +kernel)⟩
theorem lw_p31 : lw_okq (⟨"GateSums$Stages", "keep", "(I)V"⟩, 6) := ⟨⟨by decide +kernel, by decide +kernel⟩, List.mem_of_getElem? (i := 133) (by decide +kernel), List.mem_of_getElem? (i := 633) (by decide +kernel), List.mem_of_getElem? (i := 634) (by decide +kernel)⟩
def lw_privs_2 : List (MethodName × Nat) := [(⟨"GateSums", "isGate", "(I)Z"⟩, 9), (⟨"GateSums", "refusal", "(Z)I"⟩, 9), (⟨"GateSums", "isWay", "(II)Z"⟩, 9), (⟨"GateSums", "isAhead", "(II)Z"⟩, 9), (⟨"GateSums", "isPlace", "(I)Z"⟩, 9), (⟨"GateSums", "isInputs", "(I)Z"⟩, 9), (⟨"GateSums", "isSignal", "(I)Z"⟩, 9), (⟨"GateSums$Columns", "isWrong", "(LGateSums$Circuit;I)Z"⟩, 1), (⟨"GateSums", "stageRefusal", "(ZI)I"⟩, 9), (⟨"GateSums$Stages", "addOutputs", "(LGateSums$Circuit;)V"⟩, 6), (⟨"GateSums$Polynomial", "placeOf", "(I)I"⟩, 3), (⟨"GateSums$Polynomial", "insert", "(III)V"⟩, 3), (⟨"GateSums$Polynomial", "remove", "(I)V"⟩, 3), (⟨"GateSums$Stages", "takeTask", "(LGateSums$Circuit;)V"⟩, 6), (⟨"GateSums$Stages", "replaceGate", "(LGateSums$Circuit;II)V"⟩, 6), (⟨"GateSums$Stages", "keep", "(I)V"⟩, 6)]
theorem lw_r2 : ∀ q ∈ lw_privs_2, lw_okq q := List.forall_mem_cons.mpr ⟨lw_p16, List.forall_mem_cons.mpr ⟨lw_p17, List.forall_mem_cons.mpr ⟨lw_p18, List.forall_mem_cons.mpr ⟨lw_p19, List.forall_mem_cons.mpr ⟨lw_p20, List.forall_mem_cons.mpr ⟨lw_p21, List.forall_mem_cons.mpr ⟨lw_p22, List.forall_mem_cons.mpr ⟨lw_p23, List.forall_mem_cons.mpr ⟨lw_p24, List.forall_mem_cons.mpr ⟨lw_p25, List.forall_mem_cons.mpr ⟨lw_p26, List.forall_mem_cons.mpr ⟨lw_p27, List.forall_mem_cons.mpr ⟨lw_p28, List.forall_mem_cons.mpr ⟨lw_p29, List.forall_mem_cons.mpr ⟨lw_p30, List.forall_mem_cons.mpr ⟨lw_p31, fun _ h => absurd h List.not_mem_nil⟩⟩⟩⟩⟩⟩⟩⟩⟩⟩⟩⟩⟩⟩⟩⟩
theorem lw_p32 : lw_okq (⟨"GateSums", "isStage", "(I)Z"⟩, 9) := ⟨⟨by decide +kernel, by decide +kernel⟩, List.mem_of_getElem? (i := 17) (by decide +kernel), List.mem_of_getElem? (i := 643) (by decide +kernel), List.mem_of_getElem? (i := 644) (by decide +kernel)⟩
theorem lw_p33 : lw_okq (⟨"GateSums$Stages", "dearerThan", "(II)I"⟩, 6) := ⟨⟨by decide +kernel, by decide +kernel⟩, List.mem_of_getElem? (i := 133) (by decide +kernel), List.mem_of_getElem? (i := 686) (by decide +kernel), List.mem_of_getElem? (i := 687) (by decide +kernel)⟩
theorem lw_p34 : lw_okq (⟨"GateSumsModel", "refuses", "(I)I"⟩, 16) := ⟨⟨by decide +kernel, by decide +kernel⟩, List.mem_of_getElem? (i := 729) (by decide +kernel), List.mem_of_getElem? (i := 792) (by decide +kernel), List.mem_of_getElem? (i := 793) (by decide +kernel)⟩
theorem lw_p35 : lw_okq (⟨"GateSumsModel", "readsAll", "()Z"⟩, 16) := ⟨⟨by decide +kernel, by decide +kernel⟩, List.mem_of_getElem? (i := 729) (by decide +kernel), List.mem_of_getElem? (i := 804) (by decide +kernel), List.mem_of_getElem? (i := 805) (by decide +kernel)⟩
theorem lw_p36 : lw_okq (⟨"GateSumsModel", "word", "(II)I"⟩, 16) := ⟨⟨by decide +kernel, by decide +kernel⟩, List.mem_of_getElem? (i := 729) (by decide +kernel), List.mem_of_getElem? (i := 808) (by decide +kernel), List.mem_of_getElem? (i := 809) (by decide +kernel)⟩
theorem lw_p37 : lw_okq (⟨"GateSumsModel", "skips", "()V"⟩, 16) := ⟨⟨by decide +kernel, by decide +kernel⟩, List.mem_of_getElem? (i := 729) (by decide +kernel), List.mem_of_getElem? (i := 812) (by decide +kernel), List.mem_of_getElem? (i := 813) (by decide +kernel)⟩
theorem lw_p38 : lw_okq (⟨"GateSumsModel", "byteAt", "(I)I"⟩, 16) := ⟨⟨by decide +kernel, by decide +kernel⟩, List.mem_of_getElem? (i := 729) (by decide +kernel), List.mem_of_getElem? (i := 816) (by decide +kernel), List.mem_of_getElem? (i := 817) (by decide +kernel)⟩
theorem lw_p39 : lw_okq (⟨"GateSumsModel", "isWord", "(II)Z"⟩, 16) := ⟨⟨by decide +kernel, by decide +kernel⟩, List.mem_of_getElem? (i := 729) (by decide +kernel), List.mem_of_getElem? (i := 820) (by decide +kernel), List.mem_of_getElem? (i := 821) (by decide +kernel)⟩
theorem lw_p40 : lw_okq (⟨"GateSumsModel", "isNumber", "(II)Z"⟩, 16) := ⟨⟨by decide +kernel, by decide +kernel⟩, List.mem_of_getElem? (i := 729) (by decide +kernel), List.mem_of_getElem? (i := 824) (by decide +kernel), List.mem_of_getElem? (i := 825) (by decide +kernel)⟩
theorem lw_p41 : lw_okq (⟨"GateSumsModel", "ends", "()Z"⟩, 16) := ⟨⟨by decide +kernel, by decide +kernel⟩, List.mem_of_getElem? (i := 729) (by decide +kernel), List.mem_of_getElem? (i := 831) (by decide +kernel), List.mem_of_getElem? (i := 832) (by decide +kernel)⟩
theorem lw_p42 : lw_okq (⟨"GateSumsModel", "readsGate", "()Z"⟩, 16) := ⟨⟨by decide +kernel, by decide +kernel⟩, List.mem_of_getElem? (i := 729) (by decide +kernel), List.mem_of_getElem? (i := 835) (by decide +kernel), List.mem_of_getElem? (i := 836) (by decide +kernel)⟩
theorem lw_p43 : lw_okq (⟨"GateSumsModel", "readsOuts", "()Z"⟩, 16) := ⟨⟨by decide +kernel, by decide +kernel⟩, List.mem_of_getElem? (i := 729) (by decide +kernel), List.mem_of_getElem? (i := 839) (by decide +kernel), List.mem_of_getElem? (i := 840) (by decide +kernel)⟩
theorem lw_p44 : lw_okq (⟨"GateSumsModel", "readsTask", "()Z"⟩, 16) := ⟨⟨by decide +kernel, by decide +kernel⟩, List.mem_of_getElem? (i := 729) (by decide +kernel), List.mem_of_getElem? (i := 843) (by decide +kernel), List.mem_of_getElem? (i := 844) (by decide +kernel)⟩
theorem lw_p45 : lw_okq (⟨"GateSumsModel", "isGate", "(I)Z"⟩, 16) := ⟨⟨by decide +kernel, by decide +kernel⟩, List.mem_of_getElem? (i := 729) (by decide +kernel), List.mem_of_getElem? (i := 851) (by decide +kernel), List.mem_of_getElem? (i := 852) (by decide +kernel)⟩
theorem lw_p46 : lw_okq (⟨"GateSumsModel", "isThere", "()Z"⟩, 16) := ⟨⟨by decide +kernel, by decide +kernel⟩, List.mem_of_getElem? (i := 729) (by decide +kernel), List.mem_of_getElem? (i := 855) (by decide +kernel), List.mem_of_getElem? (i := 856) (by decide +kernel)⟩
theorem lw_p47 : lw_okq (⟨"GateSumsModel", "none", "(Z)I"⟩, 16) := ⟨⟨by decide +kernel, by decide +kernel⟩, List.mem_of_getElem? (i := 729) (by decide +kernel), List.mem_of_getElem? (i := 859) (by decide +kernel), List.mem_of_getElem? (i := 860) (by decide +kernel)⟩
def lw_privs_3 : List (MethodName × Nat) := [(⟨"GateSums", "isStage", "(I)Z"⟩, 9), (⟨"GateSums$Stages", "dearerThan", "(II)I"⟩, 6), (⟨"GateSumsModel", "refuses", "(I)I"⟩, 16), (⟨"GateSumsModel", "readsAll", "()Z"⟩, 16), (⟨"GateSumsModel", "word", "(II)I"⟩, 16), (⟨"GateSumsModel", "skips", "()V"⟩, 16), (⟨"GateSumsModel", "byteAt", "(I)I"⟩, 16), (⟨"GateSumsModel", "isWord", "(II)Z"⟩, 16), (⟨"GateSumsModel", "isNumber", "(II)Z"⟩, 16), (⟨"GateSumsModel", "ends", "()Z"⟩, 16), (⟨"GateSumsModel", "readsGate", "()Z"⟩, 16), (⟨"GateSumsModel", "readsOuts", "()Z"⟩, 16), (⟨"GateSumsModel", "readsTask", "()Z"⟩, 16), (⟨"GateSumsModel", "isGate", "(I)Z"⟩, 16), (⟨"GateSumsModel", "isThere", "()Z"⟩, 16), (⟨"GateSumsModel", "none", "(Z)I"⟩, 16)]
theorem lw_r3 : ∀ q ∈ lw_privs_3, lw_okq q := List.forall_mem_cons.mpr ⟨lw_p32, List.forall_mem_cons.mpr ⟨lw_p33, List.forall_mem_cons.mpr ⟨lw_p34, List.forall_mem_cons.mpr ⟨lw_p35, List.forall_mem_cons.mpr ⟨lw_p36, List.forall_mem_cons.mpr ⟨lw_p37, List.forall_mem_cons.mpr ⟨lw_p38, List.forall_mem_cons.mpr ⟨lw_p39, List.forall_mem_cons.mpr ⟨lw_p40, List.forall_mem_cons.mpr ⟨lw_p41, List.forall_mem_cons.mpr ⟨lw_p42, List.forall_mem_cons.mpr ⟨lw_p43, List.forall_mem_cons.mpr ⟨lw_p44, List.forall_mem_cons.mpr ⟨lw_p45, List.forall_mem_cons.mpr ⟨lw_p46, List.forall_mem_cons.mpr ⟨lw_p47, fun _ h => absurd h List.not_mem_nil⟩⟩⟩⟩⟩⟩⟩⟩⟩⟩⟩⟩⟩⟩⟩⟩
theorem lw_p48 : lw_okq (⟨"GateSumsModel", "begins", "(IIII)V"⟩, 16) := ⟨⟨by decide +kernel, by decide +kernel⟩, List.mem_of_getElem? (i := 729) (by decide +kernel), List.mem_of_getElem? (i := 879) (by decide +kernel), List.mem_of_getElem? (i := 880) (by decide +kernel)⟩
theorem lw_p49 : lw_okq (⟨"GateSumsModel", "outs", "(I)V"⟩, 16) := ⟨⟨by decide +kernel, by decide +kernel⟩, List.mem_of_getElem? (i := 729) (by decide +kernel), List.mem_of_getElem? (i := 886) (by decide +kernel), List.mem_of_getElem? (i := 887) (by decide +kernel)⟩
theorem lw_p50 : lw_okq (⟨"GateSumsModel", "isInput", "(I)Z"⟩, 16) := ⟨⟨by decide +kernel, by decide +kernel⟩, List.mem_of_getElem? (i := 729) (by decide +kernel), List.mem_of_getElem? (i := 906) (by decide +kernel), List.mem_of_getElem? (i := 907) (by decide +kernel)⟩
theorem lw_p51 : lw_okq (⟨"GateSumsModel", "stand", "(I)I"⟩, 16) := ⟨⟨by decide +kernel, by decide +kernel⟩, List.mem_of_getElem? (i := 729) (by decide +kernel), List.mem_of_getElem? (i := 910) (by decide +kernel), List.mem_of_getElem? (i := 911) (by decide +kernel)⟩
theorem lw_p52 : lw_okq (⟨"GateSumsModel", "signals", "(I)I"⟩, 16) := ⟨⟨by decide +kernel, by decide +kernel⟩, List.mem_of_getElem? (i := 729) (by decide +kernel), List.mem_of_getElem? (i := 914) (by decide +kernel), List.mem_of_getElem? (i := 915) (by decide +kernel)⟩
theorem lw_p53 : lw_okq (⟨"GateSumsModel", "task", "(I)I"⟩, 16) := ⟨⟨by decide +kernel, by decide +kernel⟩, List.mem_of_getElem? (i := 729) (by decide +kernel), List.mem_of_getElem? (i := 921) (by decide +kernel), List.mem_of_getElem? (i := 922) (by decide +kernel)⟩
theorem lw_p54 : lw_okq (⟨"GateSumsModel", "wrongOnes", "(Z)I"⟩, 16) := ⟨⟨by decide +kernel, by decide +kernel⟩, List.mem_of_getElem? (i := 729) (by decide +kernel), List.mem_of_getElem? (i := 933) (by decide +kernel), List.mem_of_getElem? (i := 934) (by decide +kernel)⟩
theorem lw_p55 : lw_okq (⟨"GateSumsModel", "comes", "(I)Z"⟩, 16) := ⟨⟨by decide +kernel, by decide +kernel⟩, List.mem_of_getElem? (i := 729) (by decide +kernel), List.mem_of_getElem? (i := 945) (by decide +kernel), List.mem_of_getElem? (i := 946) (by decide +kernel)⟩
theorem lw_p56 : lw_okq (⟨"GateSumsModel", "begin", "()Z"⟩, 16) := ⟨⟨by decide +kernel, by decide +kernel⟩, List.mem_of_getElem? (i := 729) (by decide +kernel), List.mem_of_getElem? (i := 949) (by decide +kernel), List.mem_of_getElem? (i := 950) (by decide +kernel)⟩
theorem lw_p57 : lw_okq (⟨"GateSumsModel", "adds", "(IJ)V"⟩, 16) := ⟨⟨by decide +kernel, by decide +kernel⟩, List.mem_of_getElem? (i := 729) (by decide +kernel), List.mem_of_getElem? (i := 953) (by decide +kernel), List.mem_of_getElem? (i := 954) (by decide +kernel)⟩
theorem lw_p58 : lw_okq (⟨"GateSumsModel", "becomes", "()Z"⟩, 16) := ⟨⟨by decide +kernel, by decide +kernel⟩, List.mem_of_getElem? (i := 729) (by decide +kernel), List.mem_of_getElem? (i := 958) (by decide +kernel), List.mem_of_getElem? (i := 959) (by decide +kernel)⟩
theorem lw_p59 : lw_okq (⟨"GateSumsModel", "step", "(I)Z"⟩, 16) := ⟨⟨by decide +kernel, by decide +kernel⟩, List.mem_of_getElem? (i := 729) (by decide +kernel), List.mem_of_getElem? (i := 962) (by decide +kernel), List.mem_of_getElem? (i := 963) (by decide +kernel)⟩
theorem lw_p60 : lw_okq (⟨"GateSumsModel", "puts", "(IIJ)V"⟩, 16) := ⟨⟨by decide +kernel, by decide +kernel⟩, List.mem_of_getElem? (i := 729) (by decide +kernel), List.mem_of_getElem? (i := 966) (by decide +kernel), List.mem_of_getElem? (i := 967) (by decide +kernel)⟩
theorem lw_p61 : lw_okq (⟨"GateSumsModel", "isStage", "(I)Z"⟩, 16) := ⟨⟨by decide +kernel, by decide +kernel⟩, List.mem_of_getElem? (i := 729) (by decide +kernel), List.mem_of_getElem? (i := 975) (by decide +kernel), List.mem_of_getElem? (i := 976) (by decide +kernel)⟩
theorem lw_p62 : lw_okq (⟨"GateSumsModel", "countOf", "(I)I"⟩, 16) := ⟨⟨by decide +kernel, by decide +kernel⟩, List.mem_of_getElem? (i := 729) (by decide +kernel), List.mem_of_getElem? (i := 1013) (by decide +kernel), List.mem_of_getElem? (i := 1014) (by decide +kernel)⟩
def lw_privs_4 : List (MethodName × Nat) := [(⟨"GateSumsModel", "begins", "(IIII)V"⟩, 16), (⟨"GateSumsModel", "outs", "(I)V"⟩, 16), (⟨"GateSumsModel", "isInput", "(I)Z"⟩, 16), (⟨"GateSumsModel", "stand", "(I)I"⟩, 16), (⟨"GateSumsModel", "signals", "(I)I"⟩, 16), (⟨"GateSumsModel", "task", "(I)I"⟩, 16), (⟨"GateSumsModel", "wrongOnes", "(Z)I"⟩, 16), (⟨"GateSumsModel", "comes", "(I)Z"⟩, 16), (⟨"GateSumsModel", "begin", "()Z"⟩, 16), (⟨"GateSumsModel", "adds", "(IJ)V"⟩, 16), (⟨"GateSumsModel", "becomes", "()Z"⟩, 16), (⟨"GateSumsModel", "step", "(I)Z"⟩, 16), (⟨"GateSumsModel", "puts", "(IIJ)V"⟩, 16), (⟨"GateSumsModel", "isStage", "(I)Z"⟩, 16), (⟨"GateSumsModel", "countOf", "(I)I"⟩, 16)]
theorem lw_r4 : ∀ q ∈ lw_privs_4, lw_okq q := List.forall_mem_cons.mpr ⟨lw_p48, List.forall_mem_cons.mpr ⟨lw_p49, List.forall_mem_cons.mpr ⟨lw_p50, List.forall_mem_cons.mpr ⟨lw_p51, List.forall_mem_cons.mpr ⟨lw_p52, List.forall_mem_cons.mpr ⟨lw_p53, List.forall_mem_cons.mpr ⟨lw_p54, List.forall_mem_cons.mpr ⟨lw_p55, List.forall_mem_cons.mpr ⟨lw_p56, List.forall_mem_cons.mpr ⟨lw_p57, List.forall_mem_cons.mpr ⟨lw_p58, List.forall_mem_cons.mpr ⟨lw_p59, List.forall_mem_cons.mpr ⟨lw_p60, List.forall_mem_cons.mpr ⟨lw_p61, List.forall_mem_cons.mpr ⟨lw_p62, fun _ h => absurd h List.not_mem_nil⟩⟩⟩⟩⟩⟩⟩⟩⟩⟩⟩⟩⟩⟩⟩
def lw_privs : List (MethodName × Nat) := lw_privs_1 ++ (lw_privs_2 ++ (lw_privs_3 ++ (lw_privs_4)))
def lw_tbl : List Cond := k2_sels lw_privs ++ tables_1
theorem lw_privs_ok : ∀ q ∈ lw_privs, lw_okq q := by
  show ∀ q ∈ lw_privs_1 ++ (lw_privs_2 ++ (lw_privs_3 ++ (lw_privs_4))), lw_okq q
  exact List.forall_mem_append.mpr ⟨lw_r1, List.forall_mem_append.mpr ⟨lw_r2, List.forall_mem_append.mpr ⟨lw_r3, lw_r4⟩⟩⟩
end
section
/-! ===== BEGIN words of one list among another's, by their places ===== -/
theorem goodIn_r {big : List Cond} (ws : List Cond) (ps : List Nat) (hp : ws = ps.filterMap (fun i => big[i]?)) (h : ws.all goodWord = true) : GoodIn big ws := by
  intro w hw
  have h1 := List.all_eq_true.mp h w hw
  rw [hp] at hw
  obtain ⟨i, -, hi⟩ := List.mem_filterMap.mp hw
  have hm : w ∈ big := by first | exact List.mem_of_getElem? hi | exact List.getElem?_mem hi
  exact ⟨hm, good_of_word h1⟩
theorem goodIn_app {big a b : List Cond} (ha : GoodIn big a) (hb : GoodIn big b) : GoodIn big (a ++ b) := fun w h => (List.mem_append.mp h).elim (ha w) (hb w)
theorem goodIn_ca {big a b : List Cond} {c : Cond} (ha : GoodIn big (c :: a)) (hb : GoodIn big b) : GoodIn big (c :: (a ++ b)) := fun w h => (List.mem_cons.mp h).elim (fun e => ha w (List.mem_cons.mpr (Or.inl e))) (fun h => (List.mem_append.mp h).elim (fun h => ha w (List.mem_cons.mpr (Or.inr h))) (hb w))
theorem goodIn_sub {big ws : List Cond} (hm : ∀ w ∈ ws, w ∈ big) (h : ws.all goodWord = true) : GoodIn big ws := fun w hw => ⟨hm w hw, good_of_word (List.all_eq_true.mp h w hw)⟩
/-! ===== END ===== -/

/-! ===== BEGIN printed: names, fields, word lists, decode rows ===== -/
def RX0 : String := "GateSums$Circuit"
def TX0 : u_T := fun k => match k with
  | 0 => ("GateSums$Circuit", "there", "Z", false)
  | 1 => ("GateSums$Circuit", "inputs", "I", false)
  | 2 => ("GateSums$Circuit", "gates", "I", false)
  | 3 => ("GateSums$Circuit", "outputs", "I", false)
  | 4 => ("GateSums$Circuit", "task", "I", false)
  | 5 => ("GateSums$Circuit", "p", "I", false)
  | 6 => ("GateSums$Circuit", "q", "I", false)
  | 7 => ("GateSums$Circuit", "kinds", "[I", true)
  | 8 => ("GateSums$Circuit", "xs", "[I", true)
  | 9 => ("GateSums$Circuit", "ys", "[I", true)
  | _ => ("GateSums$Circuit", "places", "[I", true)
def tyX0 : Nat → FieldType := fun k => match k with
  | 0 => .boolean
  | 1 => .int
  | 2 => .int
  | 3 => .int
  | 4 => .int
  | 5 => .int
  | 6 => .int
  | 7 => .array .int
  | 8 => .array .int
  | 9 => .array .int
  | _ => .array .int
abbrev wsX00 : List Cond := u_ws RX0 TX0 11
theorem nmX0 : ∀ a, a < 11 → ∀ b, b < 11 → a ≠ b → (TX0 a).2.1 ≠ (TX0 b).2.1 := by decide +kernel
theorem tyX0_ok : ∀ k, k < 11 → parseFieldDescriptor (TX0 k).2.2.1 = some (tyX0 k) := by decide +kernel
abbrev cX0_init : ByteArray := prog_2_method_1_code
def yX0_init : MethodName := ⟨RX0, "<init>", "()V"⟩
abbrev cX0_begin : ByteArray := prog_2_method_2_code
def yX0_begin : MethodName := ⟨RX0, "begin", "(I)V"⟩
abbrev cX0_addGate : ByteArray := prog_2_method_3_code
def yX0_addGate : MethodName := ⟨RX0, "addGate", "(III)I"⟩
abbrev cX0_addOutput : ByteArray := prog_2_method_4_code
def yX0_addOutput : MethodName := ⟨RX0, "addOutput", "(I)V"⟩
abbrev cX0_end : ByteArray := prog_2_method_5_code
def yX0_end : MethodName := ⟨RX0, "end", "(III)V"⟩
abbrev cX0_become : ByteArray := prog_2_method_6_code
def yX0_become : MethodName := ⟨RX0, "become", "(LGateSums$Circuit;)V"⟩
abbrev cX0_signals : ByteArray := prog_2_method_7_code
def yX0_signals : MethodName := ⟨RX0, "signals", "()I"⟩
abbrev cX0_kindOf : ByteArray := prog_2_method_8_code
def yX0_kindOf : MethodName := ⟨RX0, "kindOf", "(I)I"⟩
abbrev cX0_xOf : ByteArray := prog_2_method_9_code
def yX0_xOf : MethodName := ⟨RX0, "xOf", "(I)I"⟩
abbrev cX0_yOf : ByteArray := prog_2_method_10_code
def yX0_yOf : MethodName := ⟨RX0, "yOf", "(I)I"⟩
abbrev cX0_outputAt : ByteArray := prog_2_method_11_code
def yX0_outputAt : MethodName := ⟨RX0, "outputAt", "(I)I"⟩
abbrev cX0_mayPut : ByteArray := prog_2_method_12_code
def yX0_mayPut : MethodName := ⟨RX0, "mayPut", "(II)Z"⟩
abbrev cX0_usesOf : ByteArray := prog_2_method_13_code
def yX0_usesOf : MethodName := ⟨RX0, "usesOf", "(I)I"⟩
abbrev cX0_taskFor : ByteArray := prog_2_method_14_code
def yX0_taskFor : MethodName := ⟨RX0, "taskFor", "(I)I"⟩
def RX1 : String := "GateSums$Columns"
def TX1 : u_T := fun k => match k with
  | _ => ("GateSums$Columns", "rows", "[J", true)
def tyX1 : Nat → FieldType := fun k => match k with
  | _ => .array .long
abbrev wsX10 : List Cond := u_ws RX1 TX1 1
theorem nmX1 : ∀ a, a < 1 → ∀ b, b < 1 → a ≠ b → (TX1 a).2.1 ≠ (TX1 b).2.1 := by decide +kernel
theorem tyX1_ok : ∀ k, k < 1 → parseFieldDescriptor (TX1 k).2.2.1 = some (tyX1 k) := by decide +kernel
abbrev cX1_init : ByteArray := prog_3_method_1_code
def yX1_init : MethodName := ⟨RX1, "<init>", "()V"⟩
abbrev cX1_fill : ByteArray := prog_3_method_2_code
def yX1_fill : MethodName := ⟨RX1, "fill", "(LGateSums$Circuit;II)V"⟩
abbrev cX1_column : ByteArray := prog_3_method_3_code
def yX1_column : MethodName := ⟨RX1, "column", "(LGateSums$Circuit;II)J"⟩
abbrev cX1_row : ByteArray := prog_3_method_4_code
def yX1_row : MethodName := ⟨RX1, "row", "(I)J"⟩
abbrev cX1_bit : ByteArray := prog_3_method_5_code
def yX1_bit : MethodName := ⟨RX1, "bit", "(II)I"⟩
abbrev cX1_outputsFor : ByteArray := prog_3_method_6_code
def yX1_outputsFor : MethodName := ⟨RX1, "outputsFor", "(LGateSums$Circuit;I)I"⟩
abbrev cX1_trueSignals : ByteArray := prog_3_method_7_code
def yX1_trueSignals : MethodName := ⟨RX1, "trueSignals", "(LGateSums$Circuit;I)I"⟩
abbrev cX1_isWrong : ByteArray := prog_3_method_8_code
def yX1_isWrong : MethodName := ⟨RX1, "isWrong", "(LGateSums$Circuit;I)Z"⟩
abbrev cX1_firstWrong : ByteArray := prog_3_method_9_code
def yX1_firstWrong : MethodName := ⟨RX1, "firstWrong", "(LGateSums$Circuit;)I"⟩
abbrev cX1_countWrong : ByteArray := prog_3_method_10_code
def yX1_countWrong : MethodName := ⟨RX1, "countWrong", "(LGateSums$Circuit;)I"⟩
def RX2 : String := "GateSums$Polynomial"
def TX2 : u_T := fun k => match k with
  | 0 => ("GateSums$Polynomial", "sets", "[I", true)
  | 1 => ("GateSums$Polynomial", "coefficients", "[I", true)
  | _ => ("GateSums$Polynomial", "size", "I", false)
def tyX2 : Nat → FieldType := fun k => match k with
  | 0 => .array .int
  | 1 => .array .int
  | _ => .int
abbrev wsX20 : List Cond := u_ws RX2 TX2 3
theorem nmX2 : ∀ a, a < 3 → ∀ b, b < 3 → a ≠ b → (TX2 a).2.1 ≠ (TX2 b).2.1 := by decide +kernel
theorem tyX2_ok : ∀ k, k < 3 → parseFieldDescriptor (TX2 k).2.2.1 = some (tyX2 k) := by decide +kernel
abbrev cX2_init : ByteArray := prog_4_method_1_code
def yX2_init : MethodName := ⟨RX2, "<init>", "()V"⟩
abbrev cX2_add : ByteArray := prog_4_method_2_code
def yX2_add : MethodName := ⟨RX2, "add", "(II)V"⟩
abbrev cX2_placeOf : ByteArray := prog_4_method_3_code
def yX2_placeOf : MethodName := ⟨RX2, "placeOf", "(I)I"⟩
abbrev cX2_insert : ByteArray := prog_4_method_4_code
def yX2_insert : MethodName := ⟨RX2, "insert", "(III)V"⟩
abbrev cX2_remove : ByteArray := prog_4_method_5_code
def yX2_remove : MethodName := ⟨RX2, "remove", "(I)V"⟩
def RX3 : String := "GateSums$Reader"
def TX3 : u_T := fun k => match k with
  | 0 => ("GateSums$Reader", "text", "LGateSums$Text;", true)
  | 1 => ("GateSums$Reader", "from", "I", false)
  | 2 => ("GateSums$Reader", "to", "I", false)
  | _ => ("GateSums$Reader", "sort", "I", false)
def tyX3 : Nat → FieldType := fun k => match k with
  | 0 => .object "GateSums$Text"
  | 1 => .int
  | 2 => .int
  | _ => .int
abbrev wsX30 : List Cond := u_ws RX3 TX3 4
theorem nmX3 : ∀ a, a < 4 → ∀ b, b < 4 → a ≠ b → (TX3 a).2.1 ≠ (TX3 b).2.1 := by decide +kernel
theorem tyX3_ok : ∀ k, k < 4 → parseFieldDescriptor (TX3 k).2.2.1 = some (tyX3 k) := by decide +kernel
abbrev cX3_init : ByteArray := prog_5_method_1_code
def yX3_init : MethodName := ⟨RX3, "<init>", "()V"⟩
abbrev cX3_faultOf : ByteArray := prog_5_method_2_code
def yX3_faultOf : MethodName := ⟨RX3, "faultOf", "(LGateSums$Circuit;)I"⟩
abbrev cX3_readInputs : ByteArray := prog_5_method_3_code
def yX3_readInputs : MethodName := ⟨RX3, "readInputs", "(LGateSums$Circuit;)Z"⟩
abbrev cX3_readGates : ByteArray := prog_5_method_4_code
def yX3_readGates : MethodName := ⟨RX3, "readGates", "(LGateSums$Circuit;)Z"⟩
abbrev cX3_readGate : ByteArray := prog_5_method_5_code
def yX3_readGate : MethodName := ⟨RX3, "readGate", "(LGateSums$Circuit;)Z"⟩
abbrev cX3_readOutputs : ByteArray := prog_5_method_6_code
def yX3_readOutputs : MethodName := ⟨RX3, "readOutputs", "(LGateSums$Circuit;)Z"⟩
abbrev cX3_readTask : ByteArray := prog_5_method_7_code
def yX3_readTask : MethodName := ⟨RX3, "readTask", "(LGateSums$Circuit;)Z"⟩
abbrev cX3_gateKind : ByteArray := prog_5_method_8_code
def yX3_gateKind : MethodName := ⟨RX3, "gateKind", "()I"⟩
abbrev cX3_taskKind : ByteArray := prog_5_method_9_code
def yX3_taskKind : MethodName := ⟨RX3, "taskKind", "()I"⟩
abbrev cX3_gateWord : ByteArray := prog_5_method_10_code
def yX3_gateWord : MethodName := ⟨RX3, "gateWord", "(I)Ljava/lang/String;"⟩
abbrev cX3_taskWord : ByteArray := prog_5_method_11_code
def yX3_taskWord : MethodName := ⟨RX3, "taskWord", "(I)Ljava/lang/String;"⟩
abbrev cX3_isWord : ByteArray := prog_5_method_12_code
def yX3_isWord : MethodName := ⟨RX3, "isWord", "(Ljava/lang/String;)Z"⟩
abbrev cX3_takeWord : ByteArray := prog_5_method_13_code
def yX3_takeWord : MethodName := ⟨RX3, "takeWord", "(Ljava/lang/String;)Z"⟩
abbrev cX3_takeNumber : ByteArray := prog_5_method_14_code
def yX3_takeNumber : MethodName := ⟨RX3, "takeNumber", "(II)I"⟩
abbrev cX3_takeSemicolon : ByteArray := prog_5_method_15_code
def yX3_takeSemicolon : MethodName := ⟨RX3, "takeSemicolon", "()Z"⟩
abbrev cX3_advance : ByteArray := prog_5_method_16_code
def yX3_advance : MethodName := ⟨RX3, "advance", "()V"⟩
abbrev cX3_sortOf : ByteArray := prog_5_method_17_code
def yX3_sortOf : MethodName := ⟨RX3, "sortOf", "(I)I"⟩
def RX4 : String := "GateSums$Stages"
def TX4 : u_T := fun k => match k with
  | 0 => ("GateSums$Stages", "sizes", "[I", true)
  | 1 => ("GateSums$Stages", "sets", "[I", true)
  | 2 => ("GateSums$Stages", "coefficients", "[I", true)
  | 3 => ("GateSums$Stages", "work", "LGateSums$Polynomial;", true)
  | 4 => ("GateSums$Stages", "known", "I", false)
  | _ => ("GateSums$Stages", "burst", "Z", false)
def tyX4 : Nat → FieldType := fun k => match k with
  | 0 => .array .int
  | 1 => .array .int
  | 2 => .array .int
  | 3 => .object "GateSums$Polynomial"
  | 4 => .int
  | _ => .boolean
abbrev wsX40 : List Cond := u_ws RX4 TX4 6
theorem nmX4 : ∀ a, a < 6 → ∀ b, b < 6 → a ≠ b → (TX4 a).2.1 ≠ (TX4 b).2.1 := by decide +kernel
theorem tyX4_ok : ∀ k, k < 6 → parseFieldDescriptor (TX4 k).2.2.1 = some (tyX4 k) := by decide +kernel
abbrev cX4_init : ByteArray := prog_6_method_1_code
def yX4_init : MethodName := ⟨RX4, "<init>", "()V"⟩
abbrev cX4_forget : ByteArray := prog_6_method_2_code
def yX4_forget : MethodName := ⟨RX4, "forget", "()V"⟩
abbrev cX4_reach : ByteArray := prog_6_method_3_code
def yX4_reach : MethodName := ⟨RX4, "reach", "(LGateSums$Circuit;I)Z"⟩
abbrev cX4_keep : ByteArray := prog_6_method_4_code
def yX4_keep : MethodName := ⟨RX4, "keep", "(I)V"⟩
abbrev cX4_addOutputs : ByteArray := prog_6_method_5_code
def yX4_addOutputs : MethodName := ⟨RX4, "addOutputs", "(LGateSums$Circuit;)V"⟩
abbrev cX4_takeTask : ByteArray := prog_6_method_6_code
def yX4_takeTask : MethodName := ⟨RX4, "takeTask", "(LGateSums$Circuit;)V"⟩
abbrev cX4_replaceGate : ByteArray := prog_6_method_7_code
def yX4_replaceGate : MethodName := ⟨RX4, "replaceGate", "(LGateSums$Circuit;II)V"⟩
abbrev cX4_sizeOf : ByteArray := prog_6_method_8_code
def yX4_sizeOf : MethodName := ⟨RX4, "sizeOf", "(I)I"⟩
abbrev cX4_setAt : ByteArray := prog_6_method_9_code
def yX4_setAt : MethodName := ⟨RX4, "setAt", "(II)I"⟩
abbrev cX4_coefficientAt : ByteArray := prog_6_method_10_code
def yX4_coefficientAt : MethodName := ⟨RX4, "coefficientAt", "(II)I"⟩
abbrev cX4_greatestSize : ByteArray := prog_6_method_11_code
def yX4_greatestSize : MethodName := ⟨RX4, "greatestSize", "(I)I"⟩
abbrev cX4_widestOf : ByteArray := prog_6_method_12_code
def yX4_widestOf : MethodName := ⟨RX4, "widestOf", "(I)I"⟩
abbrev cX4_narrowestOf : ByteArray := prog_6_method_13_code
def yX4_narrowestOf : MethodName := ⟨RX4, "narrowestOf", "(I)I"⟩
abbrev cX4_unionOf : ByteArray := prog_6_method_14_code
def yX4_unionOf : MethodName := ⟨RX4, "unionOf", "(I)I"⟩
abbrev cX4_sumWhere : ByteArray := prog_6_method_15_code
def yX4_sumWhere : MethodName := ⟨RX4, "sumWhere", "(II)I"⟩
abbrev cX4_dearestOf : ByteArray := prog_6_method_16_code
def yX4_dearestOf : MethodName := ⟨RX4, "dearestOf", "(II)I"⟩
abbrev cX4_dearerThan : ByteArray := prog_6_method_17_code
def yX4_dearerThan : MethodName := ⟨RX4, "dearerThan", "(II)I"⟩
def RX5 : String := "GateSums$Text"
def TX5 : u_T := fun k => match k with
  | 0 => ("GateSums$Text", "bytes", "[B", true)
  | _ => ("GateSums$Text", "length", "I", false)
def tyX5 : Nat → FieldType := fun k => match k with
  | 0 => .array .byte
  | _ => .int
abbrev wsX50 : List Cond := u_ws RX5 TX5 2
theorem nmX5 : ∀ a, a < 2 → ∀ b, b < 2 → a ≠ b → (TX5 a).2.1 ≠ (TX5 b).2.1 := by decide +kernel
theorem tyX5_ok : ∀ k, k < 2 → parseFieldDescriptor (TX5 k).2.2.1 = some (tyX5 k) := by decide +kernel
abbrev cX5_init : ByteArray := prog_7_method_1_code
def yX5_init : MethodName := ⟨RX5, "<init>", "()V"⟩
abbrev cX5_append : ByteArray := prog_7_method_2_code
def yX5_append : MethodName := ⟨RX5, "append", "(I)Z"⟩
abbrev cX5_byteAt : ByteArray := prog_7_method_3_code
def yX5_byteAt : MethodName := ⟨RX5, "byteAt", "(I)I"⟩
def RX6 : String := "GateSums"
def TX6 : u_T := fun k => match k with
  | 0 => ("GateSums", "reader", "LGateSums$Reader;", true)
  | 1 => ("GateSums", "circuit", "LGateSums$Circuit;", true)
  | 2 => ("GateSums", "draft", "LGateSums$Circuit;", true)
  | 3 => ("GateSums", "columns", "LGateSums$Columns;", true)
  | 4 => ("GateSums", "trial", "LGateSums$Columns;", true)
  | 5 => ("GateSums", "stages", "LGateSums$Stages;", true)
  | 6 => ("GateSums", "bads", "I", false)
  | 7 => ("GateSums", "noes", "I", false)
  | _ => ("GateSums", "fulls", "I", false)
def tyX6 : Nat → FieldType := fun k => match k with
  | 0 => .object "GateSums$Reader"
  | 1 => .object "GateSums$Circuit"
  | 2 => .object "GateSums$Circuit"
  | 3 => .object "GateSums$Columns"
  | 4 => .object "GateSums$Columns"
  | 5 => .object "GateSums$Stages"
  | 6 => .int
  | 7 => .int
  | _ => .int
abbrev wsX60 : List Cond := u_ws RX6 TX6 9
theorem nmX6 : ∀ a, a < 9 → ∀ b, b < 9 → a ≠ b → (TX6 a).2.1 ≠ (TX6 b).2.1 := by decide +kernel
theorem tyX6_ok : ∀ k, k < 9 → parseFieldDescriptor (TX6 k).2.2.1 = some (tyX6 k) := by decide +kernel
abbrev cX6_init : ByteArray := prog_1_method_1_code
def yX6_init : MethodName := ⟨RX6, "<init>", "()V"⟩
abbrev cX6_type : ByteArray := prog_1_method_2_code
def yX6_type : MethodName := ⟨RX6, "type", "(I)I"⟩
abbrev cX6_clear : ByteArray := prog_1_method_3_code
def yX6_clear : MethodName := ⟨RX6, "clear", "()I"⟩
abbrev cX6_reads : ByteArray := prog_1_method_4_code
def yX6_reads : MethodName := ⟨RX6, "reads", "()I"⟩
abbrev cX6_kind : ByteArray := prog_1_method_5_code
def yX6_kind : MethodName := ⟨RX6, "kind", "(II)I"⟩
abbrev cX6_wire : ByteArray := prog_1_method_6_code
def yX6_wire : MethodName := ⟨RX6, "wire", "(III)I"⟩
abbrev cX6_of : ByteArray := prog_1_method_7_code
def yX6_of : MethodName := ⟨RX6, "of", "(II)I"⟩
abbrev cX6_told : ByteArray := prog_1_method_8_code
def yX6_told : MethodName := ⟨RX6, "told", "(II)I"⟩
abbrev cX6_adder : ByteArray := prog_1_method_9_code
def yX6_adder : MethodName := ⟨RX6, "adder", "(I)I"⟩
abbrev cX6_draw : ByteArray := prog_1_method_10_code
def yX6_draw : MethodName := ⟨RX6, "draw", "(III)I"⟩
abbrev cX6_runs : ByteArray := prog_1_method_11_code
def yX6_runs : MethodName := ⟨RX6, "runs", "(II)I"⟩
abbrev cX6_signal : ByteArray := prog_1_method_12_code
def yX6_signal : MethodName := ⟨RX6, "signal", "(II)I"⟩
abbrev cX6_wrong : ByteArray := prog_1_method_13_code
def yX6_wrong : MethodName := ⟨RX6, "wrong", "(I)I"⟩
abbrev cX6_cures : ByteArray := prog_1_method_14_code
def yX6_cures : MethodName := ⟨RX6, "cures", "(I)I"⟩
abbrev cX6_right : ByteArray := prog_1_method_15_code
def yX6_right : MethodName := ⟨RX6, "right", "()I"⟩
abbrev cX6_terms : ByteArray := prog_1_method_16_code
def yX6_terms : MethodName := ⟨RX6, "terms", "(I)I"⟩
abbrev cX6_term : ByteArray := prog_1_method_17_code
def yX6_term : MethodName := ⟨RX6, "term", "(III)I"⟩
abbrev cX6_most : ByteArray := prog_1_method_18_code
def yX6_most : MethodName := ⟨RX6, "most", "(I)I"⟩
abbrev cX6_dearest : ByteArray := prog_1_method_19_code
def yX6_dearest : MethodName := ⟨RX6, "dearest", "(II)I"⟩
abbrev cX6_value : ByteArray := prog_1_method_20_code
def yX6_value : MethodName := ⟨RX6, "value", "(II)I"⟩
abbrev cX6_stands : ByteArray := prog_1_method_21_code
def yX6_stands : MethodName := ⟨RX6, "stands", "(I)I"⟩
abbrev cX6_witness : ByteArray := prog_1_method_22_code
def yX6_witness : MethodName := ⟨RX6, "witness", "()I"⟩
abbrev cX6_count : ByteArray := prog_1_method_23_code
def yX6_count : MethodName := ⟨RX6, "count", "(I)I"⟩
abbrev cX6_digest : ByteArray := prog_1_method_24_code
def yX6_digest : MethodName := ⟨RX6, "digest", "()J"⟩
abbrev cX6_isGate : ByteArray := prog_1_method_25_code
def yX6_isGate : MethodName := ⟨RX6, "isGate", "(I)Z"⟩
abbrev cX6_isSignal : ByteArray := prog_1_method_26_code
def yX6_isSignal : MethodName := ⟨RX6, "isSignal", "(I)Z"⟩
abbrev cX6_isAhead : ByteArray := prog_1_method_27_code
def yX6_isAhead : MethodName := ⟨RX6, "isAhead", "(II)Z"⟩
abbrev cX6_isWay : ByteArray := prog_1_method_28_code
def yX6_isWay : MethodName := ⟨RX6, "isWay", "(II)Z"⟩
abbrev cX6_isPlace : ByteArray := prog_1_method_29_code
def yX6_isPlace : MethodName := ⟨RX6, "isPlace", "(I)Z"⟩
abbrev cX6_isStage : ByteArray := prog_1_method_30_code
def yX6_isStage : MethodName := ⟨RX6, "isStage", "(I)Z"⟩
abbrev cX6_isInputs : ByteArray := prog_1_method_31_code
def yX6_isInputs : MethodName := ⟨RX6, "isInputs", "(I)Z"⟩
abbrev cX6_refused : ByteArray := prog_1_method_32_code
def yX6_refused : MethodName := ⟨RX6, "refused", "(I)I"⟩
abbrev cX6_refusal : ByteArray := prog_1_method_33_code
def yX6_refusal : MethodName := ⟨RX6, "refusal", "(Z)I"⟩
abbrev cX6_stageRefusal : ByteArray := prog_1_method_34_code
def yX6_stageRefusal : MethodName := ⟨RX6, "stageRefusal", "(ZI)I"⟩
abbrev cX6_changed : ByteArray := prog_1_method_35_code
def yX6_changed : MethodName := ⟨RX6, "changed", "()I"⟩
abbrev cX6_at : ByteArray := prog_1_method_36_code
def yX6_at : MethodName := ⟨RX6, "at", "([II)I"⟩
abbrev cX6_put : ByteArray := prog_1_method_37_code
def yX6_put : MethodName := ⟨RX6, "put", "([III)V"⟩
abbrev cX6_leftOver : ByteArray := prog_1_method_38_code
def yX6_leftOver : MethodName := ⟨RX6, "leftOver", "(JI)I"⟩
abbrev cX6_setOf : ByteArray := prog_1_method_39_code
def yX6_setOf : MethodName := ⟨RX6, "setOf", "(I)I"⟩
def RX7 : String := "GateSumsModel"
def TX7 : u_T := fun k => match k with
  | 0 => ("GateSumsModel", "s", "[I", true)
  | 1 => ("GateSumsModel", "draft", "[I", true)
  | 2 => ("GateSumsModel", "refused", "[I", true)
  | 3 => ("GateSumsModel", "text", "[I", true)
  | 4 => ("GateSumsModel", "typed", "I", false)
  | 5 => ("GateSumsModel", "at", "I", false)
  | 6 => ("GateSumsModel", "number", "I", false)
  | 7 => ("GateSumsModel", "words", "[C", true)
  | 8 => ("GateSumsModel", "sets", "[I", true)
  | 9 => ("GateSumsModel", "coefficients", "[J", true)
  | 10 => ("GateSumsModel", "many", "I", false)
  | 11 => ("GateSumsModel", "newSets", "[I", true)
  | 12 => ("GateSumsModel", "newCoefficients", "[J", true)
  | 13 => ("GateSumsModel", "made", "I", false)
  | 14 => ("GateSumsModel", "fewest", "I", false)
  | _ => ("GateSumsModel", "greatest", "I", false)
def tyX7 : Nat → FieldType := fun k => match k with
  | 0 => .array .int
  | 1 => .array .int
  | 2 => .array .int
  | 3 => .array .int
  | 4 => .int
  | 5 => .int
  | 6 => .int
  | 7 => .array .char
  | 8 => .array .int
  | 9 => .array .long
  | 10 => .int
  | 11 => .array .int
  | 12 => .array .long
  | 13 => .int
  | 14 => .int
  | _ => .int
abbrev wsX70 : List Cond := u_ws RX7 TX7 16
theorem nmX7 : ∀ a, a < 16 → ∀ b, b < 16 → a ≠ b → (TX7 a).2.1 ≠ (TX7 b).2.1 := by decide +kernel
theorem tyX7_ok : ∀ k, k < 16 → parseFieldDescriptor (TX7 k).2.2.1 = some (tyX7 k) := by decide +kernel
abbrev cX7_init : ByteArray := prog_9_method_1_code
def yX7_init : MethodName := ⟨RX7, "<init>", "()V"⟩
abbrev cX7_in : ByteArray := prog_9_method_3_code
def yX7_in : MethodName := ⟨RX7, "in", "(III)Z"⟩
abbrev cX7_refuses : ByteArray := prog_9_method_4_code
def yX7_refuses : MethodName := ⟨RX7, "refuses", "(I)I"⟩
abbrev cX7_type : ByteArray := prog_9_method_5_code
def yX7_type : MethodName := ⟨RX7, "type", "(I)I"⟩
abbrev cX7_clear : ByteArray := prog_9_method_6_code
def yX7_clear : MethodName := ⟨RX7, "clear", "()I"⟩
abbrev cX7_byteAt : ByteArray := prog_9_method_7_code
def yX7_byteAt : MethodName := ⟨RX7, "byteAt", "(I)I"⟩
abbrev cX7_skips : ByteArray := prog_9_method_8_code
def yX7_skips : MethodName := ⟨RX7, "skips", "()V"⟩
abbrev cX7_isDigit : ByteArray := prog_9_method_9_code
def yX7_isDigit : MethodName := ⟨RX7, "isDigit", "(I)Z"⟩
abbrev cX7_isNumber : ByteArray := prog_9_method_10_code
def yX7_isNumber : MethodName := ⟨RX7, "isNumber", "(II)Z"⟩
abbrev cX7_isWord : ByteArray := prog_9_method_11_code
def yX7_isWord : MethodName := ⟨RX7, "isWord", "(II)Z"⟩
abbrev cX7_word : ByteArray := prog_9_method_12_code
def yX7_word : MethodName := ⟨RX7, "word", "(II)I"⟩
abbrev cX7_ends : ByteArray := prog_9_method_13_code
def yX7_ends : MethodName := ⟨RX7, "ends", "()Z"⟩
abbrev cX7_readsGate : ByteArray := prog_9_method_14_code
def yX7_readsGate : MethodName := ⟨RX7, "readsGate", "()Z"⟩
abbrev cX7_readsOuts : ByteArray := prog_9_method_15_code
def yX7_readsOuts : MethodName := ⟨RX7, "readsOuts", "()Z"⟩
abbrev cX7_readsTask : ByteArray := prog_9_method_16_code
def yX7_readsTask : MethodName := ⟨RX7, "readsTask", "()Z"⟩
abbrev cX7_readsAll : ByteArray := prog_9_method_17_code
def yX7_readsAll : MethodName := ⟨RX7, "readsAll", "()Z"⟩
abbrev cX7_reads : ByteArray := prog_9_method_18_code
def yX7_reads : MethodName := ⟨RX7, "reads", "()I"⟩
abbrev cX7_isThere : ByteArray := prog_9_method_19_code
def yX7_isThere : MethodName := ⟨RX7, "isThere", "()Z"⟩
abbrev cX7_isGate : ByteArray := prog_9_method_20_code
def yX7_isGate : MethodName := ⟨RX7, "isGate", "(I)Z"⟩
abbrev cX7_isInput : ByteArray := prog_9_method_21_code
def yX7_isInput : MethodName := ⟨RX7, "isInput", "(I)Z"⟩
abbrev cX7_isStage : ByteArray := prog_9_method_22_code
def yX7_isStage : MethodName := ⟨RX7, "isStage", "(I)Z"⟩
abbrev cX7_none : ByteArray := prog_9_method_23_code
def yX7_none : MethodName := ⟨RX7, "none", "(Z)I"⟩
abbrev cX7_kind : ByteArray := prog_9_method_24_code
def yX7_kind : MethodName := ⟨RX7, "kind", "(II)I"⟩
abbrev cX7_wire : ByteArray := prog_9_method_25_code
def yX7_wire : MethodName := ⟨RX7, "wire", "(III)I"⟩
abbrev cX7_of : ByteArray := prog_9_method_26_code
def yX7_of : MethodName := ⟨RX7, "of", "(II)I"⟩
abbrev cX7_told : ByteArray := prog_9_method_27_code
def yX7_told : MethodName := ⟨RX7, "told", "(II)I"⟩
abbrev cX7_lays : ByteArray := prog_9_method_28_code
def yX7_lays : MethodName := ⟨RX7, "lays", "([IIII)I"⟩
abbrev cX7_outs : ByteArray := prog_9_method_29_code
def yX7_outs : MethodName := ⟨RX7, "outs", "(I)V"⟩
abbrev cX7_begins : ByteArray := prog_9_method_30_code
def yX7_begins : MethodName := ⟨RX7, "begins", "(IIII)V"⟩
abbrev cX7_adder : ByteArray := prog_9_method_31_code
def yX7_adder : MethodName := ⟨RX7, "adder", "(I)I"⟩
abbrev cX7_draw : ByteArray := prog_9_method_32_code
def yX7_draw : MethodName := ⟨RX7, "draw", "(III)I"⟩
abbrev cX7_goes : ByteArray := prog_9_method_33_code
def yX7_goes : MethodName := ⟨RX7, "goes", "(III)I"⟩
abbrev cX7_signals : ByteArray := prog_9_method_34_code
def yX7_signals : MethodName := ⟨RX7, "signals", "(I)I"⟩
abbrev cX7_stand : ByteArray := prog_9_method_35_code
def yX7_stand : MethodName := ⟨RX7, "stand", "(I)I"⟩
abbrev cX7_task : ByteArray := prog_9_method_36_code
def yX7_task : MethodName := ⟨RX7, "task", "(I)I"⟩
abbrev cX7_wrongOnes : ByteArray := prog_9_method_37_code
def yX7_wrongOnes : MethodName := ⟨RX7, "wrongOnes", "(Z)I"⟩
abbrev cX7_runs : ByteArray := prog_9_method_38_code
def yX7_runs : MethodName := ⟨RX7, "runs", "(II)I"⟩
abbrev cX7_signal : ByteArray := prog_9_method_39_code
def yX7_signal : MethodName := ⟨RX7, "signal", "(II)I"⟩
abbrev cX7_wrong : ByteArray := prog_9_method_40_code
def yX7_wrong : MethodName := ⟨RX7, "wrong", "(I)I"⟩
abbrev cX7_cures : ByteArray := prog_9_method_41_code
def yX7_cures : MethodName := ⟨RX7, "cures", "(I)I"⟩
abbrev cX7_adds : ByteArray := prog_9_method_42_code
def yX7_adds : MethodName := ⟨RX7, "adds", "(IJ)V"⟩
abbrev cX7_becomes : ByteArray := prog_9_method_43_code
def yX7_becomes : MethodName := ⟨RX7, "becomes", "()Z"⟩
abbrev cX7_begin : ByteArray := prog_9_method_44_code
def yX7_begin : MethodName := ⟨RX7, "begin", "()Z"⟩
abbrev cX7_puts : ByteArray := prog_9_method_45_code
def yX7_puts : MethodName := ⟨RX7, "puts", "(IIJ)V"⟩
abbrev cX7_step : ByteArray := prog_9_method_46_code
def yX7_step : MethodName := ⟨RX7, "step", "(I)Z"⟩
abbrev cX7_comes : ByteArray := prog_9_method_47_code
def yX7_comes : MethodName := ⟨RX7, "comes", "(I)Z"⟩
abbrev cX7_ones : ByteArray := prog_9_method_48_code
def yX7_ones : MethodName := ⟨RX7, "ones", "(I)I"⟩
abbrev cX7_right : ByteArray := prog_9_method_49_code
def yX7_right : MethodName := ⟨RX7, "right", "()I"⟩
abbrev cX7_terms : ByteArray := prog_9_method_50_code
def yX7_terms : MethodName := ⟨RX7, "terms", "(I)I"⟩
abbrev cX7_term : ByteArray := prog_9_method_51_code
def yX7_term : MethodName := ⟨RX7, "term", "(III)I"⟩
abbrev cX7_most : ByteArray := prog_9_method_52_code
def yX7_most : MethodName := ⟨RX7, "most", "(I)I"⟩
abbrev cX7_size : ByteArray := prog_9_method_53_code
def yX7_size : MethodName := ⟨RX7, "size", "(J)J"⟩
abbrev cX7_dearest : ByteArray := prog_9_method_54_code
def yX7_dearest : MethodName := ⟨RX7, "dearest", "(II)I"⟩
abbrev cX7_value : ByteArray := prog_9_method_55_code
def yX7_value : MethodName := ⟨RX7, "value", "(II)I"⟩
abbrev cX7_stands : ByteArray := prog_9_method_56_code
def yX7_stands : MethodName := ⟨RX7, "stands", "(I)I"⟩
abbrev cX7_witness : ByteArray := prog_9_method_57_code
def yX7_witness : MethodName := ⟨RX7, "witness", "()I"⟩
abbrev cX7_countOf : ByteArray := prog_9_method_58_code
def yX7_countOf : MethodName := ⟨RX7, "countOf", "(I)I"⟩
abbrev cX7_count : ByteArray := prog_9_method_59_code
def yX7_count : MethodName := ⟨RX7, "count", "(I)I"⟩
abbrev cX7_digest : ByteArray := prog_9_method_60_code
def yX7_digest : MethodName := ⟨RX7, "digest", "()J"⟩
def RJ6 : String := "java/lang/Integer"
def TJ6 : u_T := fun k => match k with
  | _ => ("", "", "", false)
def tyJ6 : Nat → FieldType := fun k => match k with
  | _ => .int
abbrev wsJ60 : List Cond := u_ws RJ6 TJ6 0
theorem nmJ6 : ∀ a, a < 0 → ∀ b, b < 0 → a ≠ b → (TJ6 a).2.1 ≠ (TJ6 b).2.1 := by decide +kernel
theorem tyJ6_ok : ∀ k, k < 0 → parseFieldDescriptor (TJ6 k).2.2.1 = some (tyJ6 k) := by decide +kernel
abbrev cJ6_bitCount_0f7a4 : ByteArray := prog_10_method_49_code
def yJ6_bitCount_0f7a4 : MethodName := ⟨RJ6, "bitCount", "(I)I"⟩
def RJ9 : String := "java/lang/Math"
def TJ9 : u_T := fun k => match k with
  | _ => ("", "", "", false)
def tyJ9 : Nat → FieldType := fun k => match k with
  | _ => .int
abbrev wsJ90 : List Cond := u_ws RJ9 TJ9 0
theorem nmJ9 : ∀ a, a < 0 → ∀ b, b < 0 → a ≠ b → (TJ9 a).2.1 ≠ (TJ9 b).2.1 := by decide +kernel
theorem tyJ9_ok : ∀ k, k < 0 → parseFieldDescriptor (TJ9 k).2.2.1 = some (tyJ9 k) := by decide +kernel
abbrev cJ9_abs_0f7a4 : ByteArray := prog_11_method_59_code
def yJ9_abs_0f7a4 : MethodName := ⟨RJ9, "abs", "(I)I"⟩
abbrev cJ9_max_7cf53 : ByteArray := prog_11_method_65_code
def yJ9_max_7cf53 : MethodName := ⟨RJ9, "max", "(II)I"⟩
def RJ0 : String := "java/lang/String"
def TJ0 : u_T := fun k => match k with
  | _ => ("", "", "", false)
def tyJ0 : Nat → FieldType := fun k => match k with
  | _ => .int
abbrev wsJ00 : List Cond := u_ws RJ0 TJ0 0
theorem nmJ0 : ∀ a, a < 0 → ∀ b, b < 0 → a ≠ b → (TJ0 a).2.1 ≠ (TJ0 b).2.1 := by decide +kernel
theorem tyJ0_ok : ∀ k, k < 0 → parseFieldDescriptor (TJ0 k).2.2.1 = some (tyJ0 k) := by decide +kernel
abbrev cJ0_length_8abf5 : ByteArray := prog_12_method_54_code
def yJ0_length_8abf5 : MethodName := ⟨RJ0, "length", "()I"⟩
abbrev cJ0_charAt_5068e : ByteArray := prog_12_method_56_code
def yJ0_charAt_5068e : MethodName := ⟨RJ0, "charAt", "(I)C"⟩
abbrev cJ0_coder_7d493 : ByteArray := prog_12_method_152_code
def yJ0_coder_7d493 : MethodName := ⟨RJ0, "coder", "()B"⟩
abbrev cJ0_isLatin1_aae02 : ByteArray := prog_12_method_154_code
def yJ0_isLatin1_aae02 : MethodName := ⟨RJ0, "isLatin1", "()Z"⟩
abbrev cJ0_checkIndex_df160 : ByteArray := prog_12_method_155_code
def yJ0_checkIndex_df160 : MethodName := ⟨RJ0, "checkIndex", "(II)V"⟩
def RJ1 : String := "java/lang/StringLatin1"
def TJ1 : u_T := fun k => match k with
  | _ => ("", "", "", false)
def tyJ1 : Nat → FieldType := fun k => match k with
  | _ => .int
abbrev wsJ10 : List Cond := u_ws RJ1 TJ1 0
theorem nmJ1 : ∀ a, a < 0 → ∀ b, b < 0 → a ≠ b → (TJ1 a).2.1 ≠ (TJ1 b).2.1 := by decide +kernel
theorem tyJ1_ok : ∀ k, k < 0 → parseFieldDescriptor (TJ1 k).2.2.1 = some (tyJ1 k) := by decide +kernel
abbrev cJ1_charAt_3b067 : ByteArray := prog_13_method_2_code
def yJ1_charAt_3b067 : MethodName := ⟨RJ1, "charAt", "([BI)C"⟩
def RJ2 : String := "java/lang/StringUTF16"
def TJ2 : u_T := fun k => match k with
  | _ => ("", "", "", false)
def tyJ2 : Nat → FieldType := fun k => match k with
  | _ => .int
abbrev wsJ20 : List Cond := u_ws RJ2 TJ2 0
theorem nmJ2 : ∀ a, a < 0 → ∀ b, b < 0 → a ≠ b → (TJ2 a).2.1 ≠ (TJ2 b).2.1 := by decide +kernel
theorem tyJ2_ok : ∀ k, k < 0 → parseFieldDescriptor (TJ2 k).2.2.1 = some (tyJ2 k) := by decide +kernel
abbrev cJ2_getChar_3b067 : ByteArray := prog_14_method_5_code
def yJ2_getChar_3b067 : MethodName := ⟨RJ2, "getChar", "([BI)C"⟩
abbrev cJ2_length_9d52b : ByteArray := prog_14_method_6_code
def yJ2_length_9d52b : MethodName := ⟨RJ2, "length", "([B)I"⟩
abbrev cJ2_charAt_3b067 : ByteArray := prog_14_method_83_code
def yJ2_charAt_3b067 : MethodName := ⟨RJ2, "charAt", "([BI)C"⟩
abbrev cJ2_checkIndex_2214a : ByteArray := prog_14_method_91_code
def yJ2_checkIndex_2214a : MethodName := ⟨RJ2, "checkIndex", "(I[B)V"⟩
def RJ10 : String := "java/lang/System"
def TJ10 : u_T := fun k => match k with
  | _ => ("", "", "", false)
def tyJ10 : Nat → FieldType := fun k => match k with
  | _ => .int
abbrev wsJ100 : List Cond := u_ws RJ10 TJ10 0
theorem nmJ10 : ∀ a, a < 0 → ∀ b, b < 0 → a ≠ b → (TJ10 a).2.1 ≠ (TJ10 b).2.1 := by decide +kernel
theorem tyJ10_ok : ∀ k, k < 0 → parseFieldDescriptor (TJ10 k).2.2.1 = some (tyJ10 k) := by decide +kernel
def RJ3 : String := "jdk/internal/util/Preconditions"
def TJ3 : u_T := fun k => match k with
  | _ => ("", "", "", false)
def tyJ3 : Nat → FieldType := fun k => match k with
  | _ => .int
abbrev wsJ30 : List Cond := u_ws RJ3 TJ3 0
theorem nmJ3 : ∀ a, a < 0 → ∀ b, b < 0 → a ≠ b → (TJ3 a).2.1 ≠ (TJ3 b).2.1 := by decide +kernel
theorem tyJ3_ok : ∀ k, k < 0 → parseFieldDescriptor (TJ3 k).2.2.1 = some (tyJ3 k) := by decide +kernel
abbrev cJ3_checkIndex_8e157 : ByteArray := prog_16_method_11_code
def yJ3_checkIndex_8e157 : MethodName := ⟨RJ3, "checkIndex", "(IILjava/util/function/BiFunction;)I"⟩
def RL : String := "GateSumsLaw"
abbrev cL_law : ByteArray := code
def yL_law : MethodName := ⟨RL, "law", "([I)Z"⟩
def wsX0_init : List Cond := .code yX0_init cX0_init 1 none :: ([.methodLink RX0 3 objectInit, .instanceMethod objectInit, .code objectInit ⟨#[0xb1]⟩ 1 none, .arrayClass .int, .fieldLink RX0 9 "GateSums$Circuit" "kinds" "[I", .fieldLink RX0 15 "GateSums$Circuit" "xs" "[I", .fieldLink RX0 18 "GateSums$Circuit" "ys" "[I", .fieldLink RX0 21 "GateSums$Circuit" "places" "[I"] ++ wsX00)
def wsX0_begin : List Cond := .code yX0_begin cX0_begin 2 none :: ([.fieldLink RX0 24 "GateSums$Circuit" "there" "Z", .fieldLink RX0 28 "GateSums$Circuit" "inputs" "I", .fieldLink RX0 32 "GateSums$Circuit" "gates" "I", .fieldLink RX0 35 "GateSums$Circuit" "outputs" "I"] ++ wsX00)
def wsX6_put : List Cond := .code yX6_put cX6_put 3 none :: ([])
def wsX0_signals : List Cond := .code yX0_signals cX0_signals 1 (some .int) :: ([.fieldLink RX0 28 "GateSums$Circuit" "inputs" "I", .fieldLink RX0 32 "GateSums$Circuit" "gates" "I"] ++ wsX00)
def wsX0_addGate : List Cond := .code yX0_addGate cX0_addGate 4 (some .int) :: ([.fieldLink RX0 32 "GateSums$Circuit" "gates" "I", .fieldLink RX0 9 "GateSums$Circuit" "kinds" "[I", .fieldLink RX0 15 "GateSums$Circuit" "xs" "[I", .fieldLink RX0 18 "GateSums$Circuit" "ys" "[I", .static yX6_put, .initialized RX6, .code yX6_put cX6_put 3 none, .methodLink RX0 42 yX0_signals, .instanceMethod yX0_signals, .selects RX0 yX0_signals yX0_signals, .initialized RX0, .code yX0_signals cX0_signals 1 (some .int), .fieldLink RX0 28 "GateSums$Circuit" "inputs" "I"] ++ wsX00)
def wsX0_addOutput : List Cond := .code yX0_addOutput cX0_addOutput 2 none :: ([.fieldLink RX0 35 "GateSums$Circuit" "outputs" "I", .fieldLink RX0 21 "GateSums$Circuit" "places" "[I", .static yX6_put, .initialized RX6, .code yX6_put cX6_put 3 none] ++ wsX00)
def wsX0_end : List Cond := .code yX0_end cX0_end 4 none :: ([.fieldLink RX0 46 "GateSums$Circuit" "task" "I", .fieldLink RX0 49 "GateSums$Circuit" "p" "I", .fieldLink RX0 52 "GateSums$Circuit" "q" "I", .fieldLink RX0 24 "GateSums$Circuit" "there" "Z"] ++ wsX00)
def wsX6_at : List Cond := .code yX6_at cX6_at 2 (some .int) :: ([])
def wsX0_kindOf : List Cond := .code yX0_kindOf cX0_kindOf 2 (some .int) :: ([.fieldLink RX0 9 "GateSums$Circuit" "kinds" "[I", .static yX6_at, .initialized RX6, .code yX6_at cX6_at 2 (some .int)] ++ wsX00)
def wsX0_xOf : List Cond := .code yX0_xOf cX0_xOf 2 (some .int) :: ([.fieldLink RX0 15 "GateSums$Circuit" "xs" "[I", .static yX6_at, .initialized RX6, .code yX6_at cX6_at 2 (some .int)] ++ wsX00)
def wsX0_yOf : List Cond := .code yX0_yOf cX0_yOf 2 (some .int) :: ([.fieldLink RX0 18 "GateSums$Circuit" "ys" "[I", .static yX6_at, .initialized RX6, .code yX6_at cX6_at 2 (some .int)] ++ wsX00)
def wsX0_outputAt : List Cond := .code yX0_outputAt cX0_outputAt 2 (some .int) :: ([.fieldLink RX0 21 "GateSums$Circuit" "places" "[I", .static yX6_at, .initialized RX6, .code yX6_at cX6_at 2 (some .int)] ++ wsX00)
def wsX0_become_r1 : List Cond := [Cond.fieldLink RX0 28 "GateSums$Circuit" "inputs" "I", Cond.fieldLink RX0 32 "GateSums$Circuit" "gates" "I", Cond.fieldLink RX0 35 "GateSums$Circuit" "outputs" "I", Cond.fieldLink RX0 46 "GateSums$Circuit" "task" "I", Cond.fieldLink RX0 49 "GateSums$Circuit" "p" "I", Cond.fieldLink RX0 52 "GateSums$Circuit" "q" "I", Cond.methodLink RX0 55 yX0_begin, Cond.instanceMethod yX0_begin, Cond.selects RX0 yX0_begin yX0_begin, Cond.initialized RX0, Cond.code yX0_begin cX0_begin 2 none, Cond.fieldLink RX0 24 "GateSums$Circuit" "there" "Z", Cond.methodLink RX0 59 yX0_kindOf, Cond.instanceMethod yX0_kindOf, Cond.selects RX0 yX0_kindOf yX0_kindOf, Cond.code yX0_kindOf cX0_kindOf 2 (some .int), Cond.fieldLink RX0 9 "GateSums$Circuit" "kinds" "[I", Cond.static yX6_at, Cond.initialized RX6, Cond.code yX6_at cX6_at 2 (some .int), Cond.methodLink RX0 63 yX0_xOf, Cond.instanceMethod yX0_xOf, Cond.selects RX0 yX0_xOf yX0_xOf, Cond.code yX0_xOf cX0_xOf 2 (some .int)]
def wsX0_become_r2 : List Cond := [Cond.fieldLink RX0 15 "GateSums$Circuit" "xs" "[I", Cond.methodLink RX0 66 yX0_yOf, Cond.instanceMethod yX0_yOf, Cond.selects RX0 yX0_yOf yX0_yOf, Cond.code yX0_yOf cX0_yOf 2 (some .int), Cond.fieldLink RX0 18 "GateSums$Circuit" "ys" "[I", Cond.methodLink RX0 69 yX0_addGate, Cond.instanceMethod yX0_addGate, Cond.selects RX0 yX0_addGate yX0_addGate, Cond.code yX0_addGate cX0_addGate 4 (some .int), Cond.static yX6_put, Cond.code yX6_put cX6_put 3 none, Cond.methodLink RX0 42 yX0_signals, Cond.instanceMethod yX0_signals, Cond.selects RX0 yX0_signals yX0_signals, Cond.code yX0_signals cX0_signals 1 (some .int), Cond.methodLink RX0 73 yX0_outputAt, Cond.instanceMethod yX0_outputAt, Cond.selects RX0 yX0_outputAt yX0_outputAt, Cond.code yX0_outputAt cX0_outputAt 2 (some .int), Cond.fieldLink RX0 21 "GateSums$Circuit" "places" "[I", Cond.methodLink RX0 76 yX0_addOutput, Cond.instanceMethod yX0_addOutput, Cond.selects RX0 yX0_addOutput yX0_addOutput]
def wsX0_become_r3 : List Cond := [Cond.code yX0_addOutput cX0_addOutput 2 none, Cond.methodLink RX0 79 yX0_end, Cond.instanceMethod yX0_end, Cond.selects RX0 yX0_end yX0_end, Cond.code yX0_end cX0_end 4 none]
def wsX0_become : List Cond := .code yX0_become cX0_become 3 none :: ((wsX0_become_r1 ++ (wsX0_become_r2 ++ wsX0_become_r3)) ++ wsX00)
def wsX0_mayPut : List Cond := .code yX0_mayPut cX0_mayPut 3 (some .boolean) :: ([.fieldLink RX0 24 "GateSums$Circuit" "there" "Z", .methodLink RX0 59 yX0_kindOf, .instanceMethod yX0_kindOf, .selects RX0 yX0_kindOf yX0_kindOf, .initialized RX0, .code yX0_kindOf cX0_kindOf 2 (some .int), .fieldLink RX0 9 "GateSums$Circuit" "kinds" "[I", .static yX6_at, .initialized RX6, .code yX6_at cX6_at 2 (some .int)] ++ wsX00)
def wsX0_usesOf : List Cond := .code yX0_usesOf cX0_usesOf 4 (some .int) :: ([.fieldLink RX0 32 "GateSums$Circuit" "gates" "I", .fieldLink RX0 35 "GateSums$Circuit" "outputs" "I", .methodLink RX0 63 yX0_xOf, .instanceMethod yX0_xOf, .selects RX0 yX0_xOf yX0_xOf, .initialized RX0, .code yX0_xOf cX0_xOf 2 (some .int), .fieldLink RX0 15 "GateSums$Circuit" "xs" "[I", .static yX6_at, .initialized RX6, .code yX6_at cX6_at 2 (some .int), .methodLink RX0 66 yX0_yOf, .instanceMethod yX0_yOf, .selects RX0 yX0_yOf yX0_yOf, .code yX0_yOf cX0_yOf 2 (some .int), .fieldLink RX0 18 "GateSums$Circuit" "ys" "[I", .methodLink RX0 73 yX0_outputAt, .instanceMethod yX0_outputAt, .selects RX0 yX0_outputAt yX0_outputAt, .code yX0_outputAt cX0_outputAt 2 (some .int), .fieldLink RX0 21 "GateSums$Circuit" "places" "[I"] ++ wsX00)
def wsX0_taskFor : List Cond := .code yX0_taskFor cX0_taskFor 4 (some .int) :: ([.fieldLink RX0 49 "GateSums$Circuit" "p" "I", .fieldLink RX0 52 "GateSums$Circuit" "q" "I", .fieldLink RX0 46 "GateSums$Circuit" "task" "I"] ++ wsX00)
def wsX1_init : List Cond := .code yX1_init cX1_init 1 none :: ([.methodLink RX1 3 objectInit, .instanceMethod objectInit, .code objectInit ⟨#[0xb1]⟩ 1 none, .arrayClass .long, .fieldLink RX1 9 "GateSums$Columns" "rows" "[J"] ++ wsX10)
def wsX1_row : List Cond := .code yX1_row cX1_row 2 (some .long) :: ([.fieldLink RX1 9 "GateSums$Columns" "rows" "[J"] ++ wsX10)
def wsX1_column : List Cond := .code yX1_column cX1_column 8 (some .long) :: ([.constantLong RX1 45 (-1), .methodLink RX1 35 yX0_xOf, .instanceMethod yX0_xOf, .selects RX0 yX0_xOf yX0_xOf, .initialized RX0, .code yX0_xOf cX0_xOf 2 (some .int), .fieldLink RX0 15 "GateSums$Circuit" "xs" "[I", .static yX6_at, .initialized RX6, .code yX6_at cX6_at 2 (some .int), .methodLink RX1 38 yX1_row, .instanceMethod yX1_row, .selects RX1 yX1_row yX1_row, .initialized RX1, .code yX1_row cX1_row 2 (some .long), .fieldLink RX1 9 "GateSums$Columns" "rows" "[J", .methodLink RX1 42 yX0_yOf, .instanceMethod yX0_yOf, .selects RX0 yX0_yOf yX0_yOf, .code yX0_yOf cX0_yOf 2 (some .int), .fieldLink RX0 18 "GateSums$Circuit" "ys" "[I"] ++ wsX00 ++ wsX10)
def wsX1_fill_r1 : List Cond := [Cond.fieldLink RX1 15 "GateSums$Circuit" "inputs" "I", Cond.fieldLink RX1 21 "GateSums$Columns" "INPUT_COLUMNS" "[J", Cond.fieldLink RX1 9 "GateSums$Columns" "rows" "[J", Cond.fieldLink RX1 24 "GateSums$Circuit" "gates" "I", Cond.methodLink RX1 27 yX0_kindOf, Cond.instanceMethod yX0_kindOf, Cond.selects RX0 yX0_kindOf yX0_kindOf, Cond.initialized RX0, Cond.code yX0_kindOf cX0_kindOf 2 (some .int), Cond.fieldLink RX0 9 "GateSums$Circuit" "kinds" "[I", Cond.static yX6_at, Cond.initialized RX6, Cond.code yX6_at cX6_at 2 (some .int), Cond.methodLink RX1 31 yX1_column, Cond.instanceMethod yX1_column, Cond.selects RX1 yX1_column yX1_column, Cond.initialized RX1, Cond.code yX1_column cX1_column 8 (some .long), Cond.constantLong RX1 45 (-1), Cond.methodLink RX1 35 yX0_xOf, Cond.instanceMethod yX0_xOf, Cond.selects RX0 yX0_xOf yX0_xOf, Cond.code yX0_xOf cX0_xOf 2 (some .int), Cond.fieldLink RX0 15 "GateSums$Circuit" "xs" "[I"]
def wsX1_fill_r2 : List Cond := [Cond.methodLink RX1 38 yX1_row, Cond.instanceMethod yX1_row, Cond.selects RX1 yX1_row yX1_row, Cond.code yX1_row cX1_row 2 (some .long), Cond.methodLink RX1 42 yX0_yOf, Cond.instanceMethod yX0_yOf, Cond.selects RX0 yX0_yOf yX0_yOf, Cond.code yX0_yOf cX0_yOf 2 (some .int), Cond.fieldLink RX0 18 "GateSums$Circuit" "ys" "[I"]
def wsX1_fill : List Cond := .code yX1_fill cX1_fill 6 none :: ((wsX1_fill_r1 ++ wsX1_fill_r2) ++ wsX00 ++ wsX10)
def wsX1_bit : List Cond := .code yX1_bit cX1_bit 3 (some .int) :: ([.methodLink RX1 38 yX1_row, .instanceMethod yX1_row, .selects RX1 yX1_row yX1_row, .initialized RX1, .code yX1_row cX1_row 2 (some .long), .fieldLink RX1 9 "GateSums$Columns" "rows" "[J"] ++ wsX10)
def wsX1_outputsFor : List Cond := .code yX1_outputsFor cX1_outputsFor 5 (some .int) :: ([.fieldLink RX1 47 "GateSums$Circuit" "outputs" "I", .methodLink RX1 50 yX0_outputAt, .instanceMethod yX0_outputAt, .selects RX0 yX0_outputAt yX0_outputAt, .initialized RX0, .code yX0_outputAt cX0_outputAt 2 (some .int), .fieldLink RX0 21 "GateSums$Circuit" "places" "[I", .static yX6_at, .initialized RX6, .code yX6_at cX6_at 2 (some .int), .methodLink RX1 53 yX1_bit, .instanceMethod yX1_bit, .selects RX1 yX1_bit yX1_bit, .initialized RX1, .code yX1_bit cX1_bit 3 (some .int), .methodLink RX1 38 yX1_row, .instanceMethod yX1_row, .selects RX1 yX1_row yX1_row, .code yX1_row cX1_row 2 (some .long), .fieldLink RX1 9 "GateSums$Columns" "rows" "[J"] ++ wsX00 ++ wsX10)
def wsX1_trueSignals : List Cond := .code yX1_trueSignals cX1_trueSignals 5 (some .int) :: ([.methodLink RX1 57 yX0_signals, .instanceMethod yX0_signals, .selects RX0 yX0_signals yX0_signals, .initialized RX0, .code yX0_signals cX0_signals 1 (some .int), .fieldLink RX0 28 "GateSums$Circuit" "inputs" "I", .fieldLink RX0 32 "GateSums$Circuit" "gates" "I", .methodLink RX1 53 yX1_bit, .instanceMethod yX1_bit, .selects RX1 yX1_bit yX1_bit, .initialized RX1, .code yX1_bit cX1_bit 3 (some .int), .methodLink RX1 38 yX1_row, .instanceMethod yX1_row, .selects RX1 yX1_row yX1_row, .code yX1_row cX1_row 2 (some .long), .fieldLink RX1 9 "GateSums$Columns" "rows" "[J"] ++ wsX00 ++ wsX10)
def wsX1_isWrong_r1 : List Cond := [Cond.methodLink RX1 61 yX1_outputsFor, Cond.instanceMethod yX1_outputsFor, Cond.selects RX1 yX1_outputsFor yX1_outputsFor, Cond.initialized RX1, Cond.code yX1_outputsFor cX1_outputsFor 5 (some .int), Cond.fieldLink RX1 47 "GateSums$Circuit" "outputs" "I", Cond.methodLink RX1 50 yX0_outputAt, Cond.instanceMethod yX0_outputAt, Cond.selects RX0 yX0_outputAt yX0_outputAt, Cond.initialized RX0, Cond.code yX0_outputAt cX0_outputAt 2 (some .int), Cond.fieldLink RX0 21 "GateSums$Circuit" "places" "[I", Cond.static yX6_at, Cond.initialized RX6, Cond.code yX6_at cX6_at 2 (some .int), Cond.methodLink RX1 53 yX1_bit, Cond.instanceMethod yX1_bit, Cond.selects RX1 yX1_bit yX1_bit, Cond.code yX1_bit cX1_bit 3 (some .int), Cond.methodLink RX1 38 yX1_row, Cond.instanceMethod yX1_row, Cond.selects RX1 yX1_row yX1_row, Cond.code yX1_row cX1_row 2 (some .long), Cond.fieldLink RX1 9 "GateSums$Columns" "rows" "[J"]
def wsX1_isWrong_r2 : List Cond := [Cond.methodLink RX1 65 yX0_taskFor, Cond.instanceMethod yX0_taskFor, Cond.selects RX0 yX0_taskFor yX0_taskFor, Cond.code yX0_taskFor cX0_taskFor 4 (some .int), Cond.fieldLink RX0 49 "GateSums$Circuit" "p" "I", Cond.fieldLink RX0 52 "GateSums$Circuit" "q" "I", Cond.fieldLink RX0 46 "GateSums$Circuit" "task" "I"]
def wsX1_isWrong : List Cond := .code yX1_isWrong cX1_isWrong 3 (some .boolean) :: ((wsX1_isWrong_r1 ++ wsX1_isWrong_r2) ++ wsX00 ++ wsX10)
def wsX1_firstWrong_r1 : List Cond := [Cond.fieldLink RX1 15 "GateSums$Circuit" "inputs" "I", Cond.methodLink RX1 68 yX1_isWrong, Cond.instanceMethod yX1_isWrong, Cond.selects RX1 yX1_isWrong yX1_isWrong, Cond.initialized RX1, Cond.code yX1_isWrong cX1_isWrong 3 (some .boolean), Cond.methodLink RX1 61 yX1_outputsFor, Cond.instanceMethod yX1_outputsFor, Cond.selects RX1 yX1_outputsFor yX1_outputsFor, Cond.code yX1_outputsFor cX1_outputsFor 5 (some .int), Cond.fieldLink RX1 47 "GateSums$Circuit" "outputs" "I", Cond.methodLink RX1 50 yX0_outputAt, Cond.instanceMethod yX0_outputAt, Cond.selects RX0 yX0_outputAt yX0_outputAt, Cond.initialized RX0, Cond.code yX0_outputAt cX0_outputAt 2 (some .int), Cond.fieldLink RX0 21 "GateSums$Circuit" "places" "[I", Cond.static yX6_at, Cond.initialized RX6, Cond.code yX6_at cX6_at 2 (some .int), Cond.methodLink RX1 53 yX1_bit, Cond.instanceMethod yX1_bit, Cond.selects RX1 yX1_bit yX1_bit, Cond.code yX1_bit cX1_bit 3 (some .int)]
def wsX1_firstWrong_r2 : List Cond := [Cond.methodLink RX1 38 yX1_row, Cond.instanceMethod yX1_row, Cond.selects RX1 yX1_row yX1_row, Cond.code yX1_row cX1_row 2 (some .long), Cond.fieldLink RX1 9 "GateSums$Columns" "rows" "[J", Cond.methodLink RX1 65 yX0_taskFor, Cond.instanceMethod yX0_taskFor, Cond.selects RX0 yX0_taskFor yX0_taskFor, Cond.code yX0_taskFor cX0_taskFor 4 (some .int), Cond.fieldLink RX0 49 "GateSums$Circuit" "p" "I", Cond.fieldLink RX0 52 "GateSums$Circuit" "q" "I", Cond.fieldLink RX0 46 "GateSums$Circuit" "task" "I"]
def wsX1_firstWrong : List Cond := .code yX1_firstWrong cX1_firstWrong 4 (some .int) :: ((wsX1_firstWrong_r1 ++ wsX1_firstWrong_r2) ++ wsX00 ++ wsX10)
def wsX1_countWrong_r1 : List Cond := [Cond.fieldLink RX1 15 "GateSums$Circuit" "inputs" "I", Cond.methodLink RX1 68 yX1_isWrong, Cond.instanceMethod yX1_isWrong, Cond.selects RX1 yX1_isWrong yX1_isWrong, Cond.initialized RX1, Cond.code yX1_isWrong cX1_isWrong 3 (some .boolean), Cond.methodLink RX1 61 yX1_outputsFor, Cond.instanceMethod yX1_outputsFor, Cond.selects RX1 yX1_outputsFor yX1_outputsFor, Cond.code yX1_outputsFor cX1_outputsFor 5 (some .int), Cond.fieldLink RX1 47 "GateSums$Circuit" "outputs" "I", Cond.methodLink RX1 50 yX0_outputAt, Cond.instanceMethod yX0_outputAt, Cond.selects RX0 yX0_outputAt yX0_outputAt, Cond.initialized RX0, Cond.code yX0_outputAt cX0_outputAt 2 (some .int), Cond.fieldLink RX0 21 "GateSums$Circuit" "places" "[I", Cond.static yX6_at, Cond.initialized RX6, Cond.code yX6_at cX6_at 2 (some .int), Cond.methodLink RX1 53 yX1_bit, Cond.instanceMethod yX1_bit, Cond.selects RX1 yX1_bit yX1_bit, Cond.code yX1_bit cX1_bit 3 (some .int)]
def wsX1_countWrong_r2 : List Cond := [Cond.methodLink RX1 38 yX1_row, Cond.instanceMethod yX1_row, Cond.selects RX1 yX1_row yX1_row, Cond.code yX1_row cX1_row 2 (some .long), Cond.fieldLink RX1 9 "GateSums$Columns" "rows" "[J", Cond.methodLink RX1 65 yX0_taskFor, Cond.instanceMethod yX0_taskFor, Cond.selects RX0 yX0_taskFor yX0_taskFor, Cond.code yX0_taskFor cX0_taskFor 4 (some .int), Cond.fieldLink RX0 49 "GateSums$Circuit" "p" "I", Cond.fieldLink RX0 52 "GateSums$Circuit" "q" "I", Cond.fieldLink RX0 46 "GateSums$Circuit" "task" "I"]
def wsX1_countWrong : List Cond := .code yX1_countWrong cX1_countWrong 5 (some .int) :: ((wsX1_countWrong_r1 ++ wsX1_countWrong_r2) ++ wsX00 ++ wsX10)
def wsX2_init : List Cond := .code yX2_init cX2_init 1 none :: ([.methodLink RX2 3 objectInit, .instanceMethod objectInit, .code objectInit ⟨#[0xb1]⟩ 1 none, .arrayClass .int, .fieldLink RX2 11 "GateSums$Polynomial" "sets" "[I", .fieldLink RX2 15 "GateSums$Polynomial" "coefficients" "[I"] ++ wsX20)
def wsX2_placeOf : List Cond := .code yX2_placeOf cX2_placeOf 6 (some .int) :: ([.fieldLink RX2 22 "GateSums$Polynomial" "size" "I", .fieldLink RX2 11 "GateSums$Polynomial" "sets" "[I", .static yX6_at, .initialized RX6, .code yX6_at cX6_at 2 (some .int)] ++ wsX20)
def wsX2_insert : List Cond := .code yX2_insert cX2_insert 4 none :: ([.fieldLink RX2 22 "GateSums$Polynomial" "size" "I", .fieldLink RX2 11 "GateSums$Polynomial" "sets" "[I", .methodLink RX2 42 arraycopyName, .native arraycopyName, .static arraycopyName, .initialized "java/lang/System", .fieldLink RX2 15 "GateSums$Polynomial" "coefficients" "[I", .static yX6_put, .initialized RX6, .code yX6_put cX6_put 3 none] ++ wsX20)
def wsX2_remove : List Cond := .code yX2_remove cX2_remove 3 none :: ([.fieldLink RX2 22 "GateSums$Polynomial" "size" "I", .fieldLink RX2 11 "GateSums$Polynomial" "sets" "[I", .methodLink RX2 42 arraycopyName, .native arraycopyName, .static arraycopyName, .initialized "java/lang/System", .fieldLink RX2 15 "GateSums$Polynomial" "coefficients" "[I"] ++ wsX20)
def wsX2_add_r1 : List Cond := [Cond.fieldLink RX2 22 "GateSums$Polynomial" "size" "I", Cond.fieldLink RX2 11 "GateSums$Polynomial" "sets" "[I", Cond.fieldLink RX2 15 "GateSums$Polynomial" "coefficients" "[I", Cond.methodLink RX2 18 yX2_placeOf, Cond.instanceMethod yX2_placeOf, Cond.selects RX2 yX2_placeOf yX2_placeOf, Cond.initialized RX2, Cond.code yX2_placeOf cX2_placeOf 6 (some .int), Cond.static yX6_at, Cond.initialized RX6, Cond.code yX6_at cX6_at 2 (some .int), Cond.methodLink RX2 30 yX2_insert, Cond.instanceMethod yX2_insert, Cond.selects RX2 yX2_insert yX2_insert, Cond.code yX2_insert cX2_insert 4 none, Cond.methodLink RX2 42 arraycopyName, Cond.native arraycopyName, Cond.static arraycopyName, Cond.initialized "java/lang/System", Cond.static yX6_put, Cond.code yX6_put cX6_put 3 none, Cond.methodLink RX2 34 yX2_remove, Cond.instanceMethod yX2_remove, Cond.selects RX2 yX2_remove yX2_remove]
def wsX2_add_r2 : List Cond := [Cond.code yX2_remove cX2_remove 3 none]
def wsX2_add : List Cond := .code yX2_add cX2_add 5 none :: ((wsX2_add_r1 ++ wsX2_add_r2) ++ wsX20)
def wsX5_init : List Cond := .code yX5_init cX5_init 1 none :: ([.methodLink RX5 3 objectInit, .instanceMethod objectInit, .code objectInit ⟨#[0xb1]⟩ 1 none, .arrayClass .byte, .fieldLink RX5 9 "GateSums$Text" "bytes" "[B"] ++ wsX50)
def wsX3_init : List Cond := .code yX3_init cX3_init 1 none :: ([.methodLink RX3 3 objectInit, .instanceMethod objectInit, .code objectInit ⟨#[0xb1]⟩ 1 none, .classLink RX3 9 RX5, .instantiable RX5 2, .initialized RX5, .fieldLink RX3 12 "GateSums$Reader" "text" "LGateSums$Text;", .instanceMethod yX5_init, .code yX5_init cX5_init 1 none, .methodLink RX5 3 objectInit, .arrayClass .byte, .fieldLink RX5 9 "GateSums$Text" "bytes" "[B"] ++ wsX50 ++ wsX30)
def wsX5_byteAt : List Cond := .code yX5_byteAt cX5_byteAt 2 (some .int) :: ([.fieldLink RX5 15 "GateSums$Text" "length" "I", .fieldLink RX5 9 "GateSums$Text" "bytes" "[B"] ++ wsX50)
def wsX3_sortOf : List Cond := .code yX3_sortOf cX3_sortOf 2 (some .int) :: ([])
def wsX3_advance : List Cond := .code yX3_advance cX3_advance 2 none :: ([.fieldLink RX3 18 "GateSums$Reader" "to" "I", .fieldLink RX3 41 "GateSums$Reader" "from" "I", .fieldLink RX3 12 "GateSums$Reader" "text" "LGateSums$Text;", .fieldLink RX3 144 "GateSums$Text" "length" "I", .fieldLink RX3 38 "GateSums$Reader" "sort" "I", .methodLink RX3 136 yX5_byteAt, .instanceMethod yX5_byteAt, .selects RX5 yX5_byteAt yX5_byteAt, .initialized RX5, .code yX5_byteAt cX5_byteAt 2 (some .int), .fieldLink RX5 15 "GateSums$Text" "length" "I", .fieldLink RX5 9 "GateSums$Text" "bytes" "[B", .methodLink RX3 146 yX3_sortOf, .static yX3_sortOf, .initialized RX3, .code yX3_sortOf cX3_sortOf 2 (some .int)] ++ wsX30 ++ wsX50)
def wsJ0_coder_7d493 : List Cond := .code yJ0_coder_7d493 cJ0_coder_7d493 1 (some .byte) :: ([.fieldLink RJ0 38 "java/lang/String" "COMPACT_STRINGS" "Z", .fieldLink RJ0 15 "java/lang/String" "coder" "B"])
def wsJ0_length_8abf5 : List Cond := .code yJ0_length_8abf5 cJ0_length_8abf5 1 (some .int) :: ([.fieldLink RJ0 9 "java/lang/String" "value" "[B", .methodLink RJ0 335 yJ0_coder_7d493, .instanceMethod yJ0_coder_7d493, .selects RJ0 yJ0_coder_7d493 yJ0_coder_7d493, .initialized RJ0, .code yJ0_coder_7d493 cJ0_coder_7d493 1 (some .byte), .fieldLink RJ0 38 "java/lang/String" "COMPACT_STRINGS" "Z", .fieldLink RJ0 15 "java/lang/String" "coder" "B"])
def wsJ0_isLatin1_aae02 : List Cond := .code yJ0_isLatin1_aae02 cJ0_isLatin1_aae02 1 (some .boolean) :: ([.fieldLink RJ0 38 "java/lang/String" "COMPACT_STRINGS" "Z", .fieldLink RJ0 15 "java/lang/String" "coder" "B"])
def wsJ3_checkIndex_8e157 : List Cond := .code yJ3_checkIndex_8e157 cJ3_checkIndex_8e157 3 (some .int) :: ([])
def wsJ0_checkIndex_df160 : List Cond := .code yJ0_checkIndex_df160 cJ0_checkIndex_df160 2 none :: ([.fieldLink RJ0 1053 "jdk/internal/util/Preconditions" "SIOOBE_FORMATTER" "Ljava/util/function/BiFunction;", .methodLink RJ0 1059 yJ3_checkIndex_8e157, .static yJ3_checkIndex_8e157, .initialized RJ3, .code yJ3_checkIndex_8e157 cJ3_checkIndex_8e157 3 (some .int)])
def wsJ1_charAt_3b067 : List Cond := .code yJ1_charAt_3b067 cJ1_charAt_3b067 2 (some .char) :: ([.methodLink RJ1 9 yJ0_checkIndex_df160, .static yJ0_checkIndex_df160, .initialized RJ0, .code yJ0_checkIndex_df160 cJ0_checkIndex_df160 2 none, .fieldLink RJ0 1053 "jdk/internal/util/Preconditions" "SIOOBE_FORMATTER" "Ljava/util/function/BiFunction;", .methodLink RJ0 1059 yJ3_checkIndex_8e157, .static yJ3_checkIndex_8e157, .initialized RJ3, .code yJ3_checkIndex_8e157 cJ3_checkIndex_8e157 3 (some .int)])
def wsJ2_length_9d52b : List Cond := .code yJ2_length_9d52b cJ2_length_9d52b 1 (some .int) :: ([])
def wsJ2_checkIndex_2214a : List Cond := .code yJ2_checkIndex_2214a cJ2_checkIndex_2214a 2 none :: ([.methodLink RJ2 48 yJ2_length_9d52b, .static yJ2_length_9d52b, .initialized RJ2, .code yJ2_length_9d52b cJ2_length_9d52b 1 (some .int), .methodLink RJ2 414 yJ0_checkIndex_df160, .static yJ0_checkIndex_df160, .initialized RJ0, .code yJ0_checkIndex_df160 cJ0_checkIndex_df160 2 none, .fieldLink RJ0 1053 "jdk/internal/util/Preconditions" "SIOOBE_FORMATTER" "Ljava/util/function/BiFunction;", .methodLink RJ0 1059 yJ3_checkIndex_8e157, .static yJ3_checkIndex_8e157, .initialized RJ3, .code yJ3_checkIndex_8e157 cJ3_checkIndex_8e157 3 (some .int)])
def wsJ2_getChar_3b067 : List Cond := .code yJ2_getChar_3b067 cJ2_getChar_3b067 2 (some .char) :: ([.fieldLink RJ2 44 "java/lang/StringUTF16" "$assertionsDisabled" "Z", .fieldLink RJ2 59 "java/lang/StringUTF16" "HI_BYTE_SHIFT" "I", .fieldLink RJ2 63 "java/lang/StringUTF16" "LO_BYTE_SHIFT" "I", .methodLink RJ2 48 yJ2_length_9d52b, .static yJ2_length_9d52b, .initialized RJ2, .code yJ2_length_9d52b cJ2_length_9d52b 1 (some .int)])
def wsJ2_charAt_3b067 : List Cond := .code yJ2_charAt_3b067 cJ2_charAt_3b067 2 (some .char) :: ([.methodLink RJ2 67 yJ2_checkIndex_2214a, .static yJ2_checkIndex_2214a, .initialized RJ2, .code yJ2_checkIndex_2214a cJ2_checkIndex_2214a 2 none, .methodLink RJ2 48 yJ2_length_9d52b, .static yJ2_length_9d52b, .code yJ2_length_9d52b cJ2_length_9d52b 1 (some .int), .methodLink RJ2 414 yJ0_checkIndex_df160, .static yJ0_checkIndex_df160, .initialized RJ0, .code yJ0_checkIndex_df160 cJ0_checkIndex_df160 2 none, .fieldLink RJ0 1053 "jdk/internal/util/Preconditions" "SIOOBE_FORMATTER" "Ljava/util/function/BiFunction;", .methodLink RJ0 1059 yJ3_checkIndex_8e157, .static yJ3_checkIndex_8e157, .initialized RJ3, .code yJ3_checkIndex_8e157 cJ3_checkIndex_8e157 3 (some .int), .methodLink RJ2 71 yJ2_getChar_3b067, .static yJ2_getChar_3b067, .code yJ2_getChar_3b067 cJ2_getChar_3b067 2 (some .char), .fieldLink RJ2 44 "java/lang/StringUTF16" "$assertionsDisabled" "Z", .fieldLink RJ2 59 "java/lang/StringUTF16" "HI_BYTE_SHIFT" "I", .fieldLink RJ2 63 "java/lang/StringUTF16" "LO_BYTE_SHIFT" "I"])
def wsJ0_charAt_5068e_r1 : List Cond := [Cond.fieldLink RJ0 9 "java/lang/String" "value" "[B", Cond.methodLink RJ0 492 yJ0_isLatin1_aae02, Cond.instanceMethod yJ0_isLatin1_aae02, Cond.selects RJ0 yJ0_isLatin1_aae02 yJ0_isLatin1_aae02, Cond.initialized RJ0, Cond.code yJ0_isLatin1_aae02 cJ0_isLatin1_aae02 1 (some .boolean), Cond.fieldLink RJ0 38 "java/lang/String" "COMPACT_STRINGS" "Z", Cond.fieldLink RJ0 15 "java/lang/String" "coder" "B", Cond.methodLink RJ0 495 yJ1_charAt_3b067, Cond.static yJ1_charAt_3b067, Cond.initialized RJ1, Cond.code yJ1_charAt_3b067 cJ1_charAt_3b067 2 (some .char), Cond.methodLink RJ1 9 yJ0_checkIndex_df160, Cond.static yJ0_checkIndex_df160, Cond.code yJ0_checkIndex_df160 cJ0_checkIndex_df160 2 none, Cond.fieldLink RJ0 1053 "jdk/internal/util/Preconditions" "SIOOBE_FORMATTER" "Ljava/util/function/BiFunction;", Cond.methodLink RJ0 1059 yJ3_checkIndex_8e157, Cond.static yJ3_checkIndex_8e157, Cond.initialized RJ3, Cond.code yJ3_checkIndex_8e157 cJ3_checkIndex_8e157 3 (some .int), Cond.methodLink RJ0 498 yJ2_charAt_3b067, Cond.static yJ2_charAt_3b067, Cond.initialized RJ2, Cond.code yJ2_charAt_3b067 cJ2_charAt_3b067 2 (some .char)]
def wsJ0_charAt_5068e_r2 : List Cond := [Cond.methodLink RJ2 67 yJ2_checkIndex_2214a, Cond.static yJ2_checkIndex_2214a, Cond.code yJ2_checkIndex_2214a cJ2_checkIndex_2214a 2 none, Cond.methodLink RJ2 48 yJ2_length_9d52b, Cond.static yJ2_length_9d52b, Cond.code yJ2_length_9d52b cJ2_length_9d52b 1 (some .int), Cond.methodLink RJ2 414 yJ0_checkIndex_df160, Cond.methodLink RJ2 71 yJ2_getChar_3b067, Cond.static yJ2_getChar_3b067, Cond.code yJ2_getChar_3b067 cJ2_getChar_3b067 2 (some .char), Cond.fieldLink RJ2 44 "java/lang/StringUTF16" "$assertionsDisabled" "Z", Cond.fieldLink RJ2 59 "java/lang/StringUTF16" "HI_BYTE_SHIFT" "I", Cond.fieldLink RJ2 63 "java/lang/StringUTF16" "LO_BYTE_SHIFT" "I"]
def wsJ0_charAt_5068e : List Cond := .code yJ0_charAt_5068e cJ0_charAt_5068e 2 (some .char) :: ((wsJ0_charAt_5068e_r1 ++ wsJ0_charAt_5068e_r2))
def wsX3_isWord_r1 : List Cond := [Cond.fieldLink RX3 38 "GateSums$Reader" "sort" "I", Cond.fieldLink RX3 18 "GateSums$Reader" "to" "I", Cond.fieldLink RX3 41 "GateSums$Reader" "from" "I", Cond.fieldLink RX3 12 "GateSums$Reader" "text" "LGateSums$Text;", Cond.methodLink RX3 131 yJ0_length_8abf5, Cond.instanceMethod yJ0_length_8abf5, Cond.selects RJ0 yJ0_length_8abf5 yJ0_length_8abf5, Cond.initialized RJ0, Cond.code yJ0_length_8abf5 cJ0_length_8abf5 1 (some .int), Cond.fieldLink RJ0 9 "java/lang/String" "value" "[B", Cond.methodLink RJ0 335 yJ0_coder_7d493, Cond.instanceMethod yJ0_coder_7d493, Cond.selects RJ0 yJ0_coder_7d493 yJ0_coder_7d493, Cond.code yJ0_coder_7d493 cJ0_coder_7d493 1 (some .byte), Cond.fieldLink RJ0 38 "java/lang/String" "COMPACT_STRINGS" "Z", Cond.fieldLink RJ0 15 "java/lang/String" "coder" "B", Cond.methodLink RX3 136 yX5_byteAt, Cond.instanceMethod yX5_byteAt, Cond.selects RX5 yX5_byteAt yX5_byteAt, Cond.initialized RX5, Cond.code yX5_byteAt cX5_byteAt 2 (some .int), Cond.fieldLink RX5 15 "GateSums$Text" "length" "I", Cond.fieldLink RX5 9 "GateSums$Text" "bytes" "[B", Cond.methodLink RX3 140 yJ0_charAt_5068e]
def wsX3_isWord_r2 : List Cond := [Cond.instanceMethod yJ0_charAt_5068e, Cond.selects RJ0 yJ0_charAt_5068e yJ0_charAt_5068e, Cond.code yJ0_charAt_5068e cJ0_charAt_5068e 2 (some .char), Cond.methodLink RJ0 492 yJ0_isLatin1_aae02, Cond.instanceMethod yJ0_isLatin1_aae02, Cond.selects RJ0 yJ0_isLatin1_aae02 yJ0_isLatin1_aae02, Cond.code yJ0_isLatin1_aae02 cJ0_isLatin1_aae02 1 (some .boolean), Cond.methodLink RJ0 495 yJ1_charAt_3b067, Cond.static yJ1_charAt_3b067, Cond.initialized RJ1, Cond.code yJ1_charAt_3b067 cJ1_charAt_3b067 2 (some .char), Cond.methodLink RJ1 9 yJ0_checkIndex_df160, Cond.static yJ0_checkIndex_df160, Cond.code yJ0_checkIndex_df160 cJ0_checkIndex_df160 2 none, Cond.fieldLink RJ0 1053 "jdk/internal/util/Preconditions" "SIOOBE_FORMATTER" "Ljava/util/function/BiFunction;", Cond.methodLink RJ0 1059 yJ3_checkIndex_8e157, Cond.static yJ3_checkIndex_8e157, Cond.initialized RJ3, Cond.code yJ3_checkIndex_8e157 cJ3_checkIndex_8e157 3 (some .int), Cond.methodLink RJ0 498 yJ2_charAt_3b067, Cond.static yJ2_charAt_3b067, Cond.initialized RJ2, Cond.code yJ2_charAt_3b067 cJ2_charAt_3b067 2 (some .char), Cond.methodLink RJ2 67 yJ2_checkIndex_2214a]
def wsX3_isWord_r3 : List Cond := [Cond.static yJ2_checkIndex_2214a, Cond.code yJ2_checkIndex_2214a cJ2_checkIndex_2214a 2 none, Cond.methodLink RJ2 48 yJ2_length_9d52b, Cond.static yJ2_length_9d52b, Cond.code yJ2_length_9d52b cJ2_length_9d52b 1 (some .int), Cond.methodLink RJ2 414 yJ0_checkIndex_df160, Cond.methodLink RJ2 71 yJ2_getChar_3b067, Cond.static yJ2_getChar_3b067, Cond.code yJ2_getChar_3b067 cJ2_getChar_3b067 2 (some .char), Cond.fieldLink RJ2 44 "java/lang/StringUTF16" "$assertionsDisabled" "Z", Cond.fieldLink RJ2 59 "java/lang/StringUTF16" "HI_BYTE_SHIFT" "I", Cond.fieldLink RJ2 63 "java/lang/StringUTF16" "LO_BYTE_SHIFT" "I"]
def wsX3_isWord : List Cond := .code yX3_isWord cX3_isWord 3 (some .boolean) :: ((wsX3_isWord_r1 ++ (wsX3_isWord_r2 ++ wsX3_isWord_r3)) ++ wsX30 ++ wsX50)
def wsX3_takeWord_r1 : List Cond := [Cond.methodLink RX3 101 yX3_isWord, Cond.instanceMethod yX3_isWord, Cond.selects RX3 yX3_isWord yX3_isWord, Cond.initialized RX3, Cond.code yX3_isWord cX3_isWord 3 (some .boolean), Cond.fieldLink RX3 38 "GateSums$Reader" "sort" "I", Cond.fieldLink RX3 18 "GateSums$Reader" "to" "I", Cond.fieldLink RX3 41 "GateSums$Reader" "from" "I", Cond.fieldLink RX3 12 "GateSums$Reader" "text" "LGateSums$Text;", Cond.methodLink RX3 131 yJ0_length_8abf5, Cond.instanceMethod yJ0_length_8abf5, Cond.selects RJ0 yJ0_length_8abf5 yJ0_length_8abf5, Cond.initialized RJ0, Cond.code yJ0_length_8abf5 cJ0_length_8abf5 1 (some .int), Cond.fieldLink RJ0 9 "java/lang/String" "value" "[B", Cond.methodLink RJ0 335 yJ0_coder_7d493, Cond.instanceMethod yJ0_coder_7d493, Cond.selects RJ0 yJ0_coder_7d493 yJ0_coder_7d493, Cond.code yJ0_coder_7d493 cJ0_coder_7d493 1 (some .byte), Cond.fieldLink RJ0 38 "java/lang/String" "COMPACT_STRINGS" "Z", Cond.fieldLink RJ0 15 "java/lang/String" "coder" "B", Cond.methodLink RX3 136 yX5_byteAt, Cond.instanceMethod yX5_byteAt, Cond.selects RX5 yX5_byteAt yX5_byteAt]
def wsX3_takeWord_r2 : List Cond := [Cond.initialized RX5, Cond.code yX5_byteAt cX5_byteAt 2 (some .int), Cond.fieldLink RX5 15 "GateSums$Text" "length" "I", Cond.fieldLink RX5 9 "GateSums$Text" "bytes" "[B", Cond.methodLink RX3 140 yJ0_charAt_5068e, Cond.instanceMethod yJ0_charAt_5068e, Cond.selects RJ0 yJ0_charAt_5068e yJ0_charAt_5068e, Cond.code yJ0_charAt_5068e cJ0_charAt_5068e 2 (some .char), Cond.methodLink RJ0 492 yJ0_isLatin1_aae02, Cond.instanceMethod yJ0_isLatin1_aae02, Cond.selects RJ0 yJ0_isLatin1_aae02 yJ0_isLatin1_aae02, Cond.code yJ0_isLatin1_aae02 cJ0_isLatin1_aae02 1 (some .boolean), Cond.methodLink RJ0 495 yJ1_charAt_3b067, Cond.static yJ1_charAt_3b067, Cond.initialized RJ1, Cond.code yJ1_charAt_3b067 cJ1_charAt_3b067 2 (some .char), Cond.methodLink RJ1 9 yJ0_checkIndex_df160, Cond.static yJ0_checkIndex_df160, Cond.code yJ0_checkIndex_df160 cJ0_checkIndex_df160 2 none, Cond.fieldLink RJ0 1053 "jdk/internal/util/Preconditions" "SIOOBE_FORMATTER" "Ljava/util/function/BiFunction;", Cond.methodLink RJ0 1059 yJ3_checkIndex_8e157, Cond.static yJ3_checkIndex_8e157, Cond.initialized RJ3, Cond.code yJ3_checkIndex_8e157 cJ3_checkIndex_8e157 3 (some .int)]
def wsX3_takeWord_r3 : List Cond := [Cond.methodLink RJ0 498 yJ2_charAt_3b067, Cond.static yJ2_charAt_3b067, Cond.initialized RJ2, Cond.code yJ2_charAt_3b067 cJ2_charAt_3b067 2 (some .char), Cond.methodLink RJ2 67 yJ2_checkIndex_2214a, Cond.static yJ2_checkIndex_2214a, Cond.code yJ2_checkIndex_2214a cJ2_checkIndex_2214a 2 none, Cond.methodLink RJ2 48 yJ2_length_9d52b, Cond.static yJ2_length_9d52b, Cond.code yJ2_length_9d52b cJ2_length_9d52b 1 (some .int), Cond.methodLink RJ2 414 yJ0_checkIndex_df160, Cond.methodLink RJ2 71 yJ2_getChar_3b067, Cond.static yJ2_getChar_3b067, Cond.code yJ2_getChar_3b067 cJ2_getChar_3b067 2 (some .char), Cond.fieldLink RJ2 44 "java/lang/StringUTF16" "$assertionsDisabled" "Z", Cond.fieldLink RJ2 59 "java/lang/StringUTF16" "HI_BYTE_SHIFT" "I", Cond.fieldLink RJ2 63 "java/lang/StringUTF16" "LO_BYTE_SHIFT" "I", Cond.methodLink RX3 22 yX3_advance, Cond.instanceMethod yX3_advance, Cond.selects RX3 yX3_advance yX3_advance, Cond.code yX3_advance cX3_advance 2 none, Cond.fieldLink RX3 144 "GateSums$Text" "length" "I", Cond.methodLink RX3 146 yX3_sortOf, Cond.static yX3_sortOf]
def wsX3_takeWord_r4 : List Cond := [Cond.code yX3_sortOf cX3_sortOf 2 (some .int)]
def wsX3_takeWord : List Cond := .code yX3_takeWord cX3_takeWord 2 (some .boolean) :: ((wsX3_takeWord_r1 ++ (wsX3_takeWord_r2 ++ (wsX3_takeWord_r3 ++ wsX3_takeWord_r4))) ++ wsX30 ++ wsX50)
def wsX3_takeNumber : List Cond := .code yX3_takeNumber cX3_takeNumber 5 (some .int) :: ([.fieldLink RX3 38 "GateSums$Reader" "sort" "I", .fieldLink RX3 18 "GateSums$Reader" "to" "I", .fieldLink RX3 41 "GateSums$Reader" "from" "I", .fieldLink RX3 12 "GateSums$Reader" "text" "LGateSums$Text;", .methodLink RX3 136 yX5_byteAt, .instanceMethod yX5_byteAt, .selects RX5 yX5_byteAt yX5_byteAt, .initialized RX5, .code yX5_byteAt cX5_byteAt 2 (some .int), .fieldLink RX5 15 "GateSums$Text" "length" "I", .fieldLink RX5 9 "GateSums$Text" "bytes" "[B", .methodLink RX3 22 yX3_advance, .instanceMethod yX3_advance, .selects RX3 yX3_advance yX3_advance, .initialized RX3, .code yX3_advance cX3_advance 2 none, .fieldLink RX3 144 "GateSums$Text" "length" "I", .methodLink RX3 146 yX3_sortOf, .static yX3_sortOf, .code yX3_sortOf cX3_sortOf 2 (some .int)] ++ wsX30 ++ wsX50)
def wsX3_takeSemicolon : List Cond := .code yX3_takeSemicolon cX3_takeSemicolon 1 (some .boolean) :: ([.fieldLink RX3 38 "GateSums$Reader" "sort" "I", .fieldLink RX3 12 "GateSums$Reader" "text" "LGateSums$Text;", .fieldLink RX3 41 "GateSums$Reader" "from" "I", .methodLink RX3 136 yX5_byteAt, .instanceMethod yX5_byteAt, .selects RX5 yX5_byteAt yX5_byteAt, .initialized RX5, .code yX5_byteAt cX5_byteAt 2 (some .int), .fieldLink RX5 15 "GateSums$Text" "length" "I", .fieldLink RX5 9 "GateSums$Text" "bytes" "[B", .methodLink RX3 22 yX3_advance, .instanceMethod yX3_advance, .selects RX3 yX3_advance yX3_advance, .initialized RX3, .code yX3_advance cX3_advance 2 none, .fieldLink RX3 18 "GateSums$Reader" "to" "I", .fieldLink RX3 144 "GateSums$Text" "length" "I", .methodLink RX3 146 yX3_sortOf, .static yX3_sortOf, .code yX3_sortOf cX3_sortOf 2 (some .int)] ++ wsX30 ++ wsX50)
def wsX3_readInputs_r1 : List Cond := [Cond.methodLink RX3 46 yX3_takeWord, Cond.instanceMethod yX3_takeWord, Cond.selects RX3 yX3_takeWord yX3_takeWord, Cond.initialized RX3, Cond.code yX3_takeWord cX3_takeWord 2 (some .boolean), Cond.methodLink RX3 101 yX3_isWord, Cond.instanceMethod yX3_isWord, Cond.selects RX3 yX3_isWord yX3_isWord, Cond.code yX3_isWord cX3_isWord 3 (some .boolean), Cond.fieldLink RX3 38 "GateSums$Reader" "sort" "I", Cond.fieldLink RX3 18 "GateSums$Reader" "to" "I", Cond.fieldLink RX3 41 "GateSums$Reader" "from" "I", Cond.fieldLink RX3 12 "GateSums$Reader" "text" "LGateSums$Text;", Cond.methodLink RX3 131 yJ0_length_8abf5, Cond.instanceMethod yJ0_length_8abf5, Cond.selects RJ0 yJ0_length_8abf5 yJ0_length_8abf5, Cond.initialized RJ0, Cond.code yJ0_length_8abf5 cJ0_length_8abf5 1 (some .int), Cond.fieldLink RJ0 9 "java/lang/String" "value" "[B", Cond.methodLink RJ0 335 yJ0_coder_7d493, Cond.instanceMethod yJ0_coder_7d493, Cond.selects RJ0 yJ0_coder_7d493 yJ0_coder_7d493, Cond.code yJ0_coder_7d493 cJ0_coder_7d493 1 (some .byte), Cond.fieldLink RJ0 38 "java/lang/String" "COMPACT_STRINGS" "Z"]
def wsX3_readInputs_r2 : List Cond := [Cond.fieldLink RJ0 15 "java/lang/String" "coder" "B", Cond.methodLink RX3 136 yX5_byteAt, Cond.instanceMethod yX5_byteAt, Cond.selects RX5 yX5_byteAt yX5_byteAt, Cond.initialized RX5, Cond.code yX5_byteAt cX5_byteAt 2 (some .int), Cond.fieldLink RX5 15 "GateSums$Text" "length" "I", Cond.fieldLink RX5 9 "GateSums$Text" "bytes" "[B", Cond.methodLink RX3 140 yJ0_charAt_5068e, Cond.instanceMethod yJ0_charAt_5068e, Cond.selects RJ0 yJ0_charAt_5068e yJ0_charAt_5068e, Cond.code yJ0_charAt_5068e cJ0_charAt_5068e 2 (some .char), Cond.methodLink RJ0 492 yJ0_isLatin1_aae02, Cond.instanceMethod yJ0_isLatin1_aae02, Cond.selects RJ0 yJ0_isLatin1_aae02 yJ0_isLatin1_aae02, Cond.code yJ0_isLatin1_aae02 cJ0_isLatin1_aae02 1 (some .boolean), Cond.methodLink RJ0 495 yJ1_charAt_3b067, Cond.static yJ1_charAt_3b067, Cond.initialized RJ1, Cond.code yJ1_charAt_3b067 cJ1_charAt_3b067 2 (some .char), Cond.methodLink RJ1 9 yJ0_checkIndex_df160, Cond.static yJ0_checkIndex_df160, Cond.code yJ0_checkIndex_df160 cJ0_checkIndex_df160 2 none, Cond.fieldLink RJ0 1053 "jdk/internal/util/Preconditions" "SIOOBE_FORMATTER" "Ljava/util/function/BiFunction;"]
def wsX3_readInputs_r3 : List Cond := [Cond.methodLink RJ0 1059 yJ3_checkIndex_8e157, Cond.static yJ3_checkIndex_8e157, Cond.initialized RJ3, Cond.code yJ3_checkIndex_8e157 cJ3_checkIndex_8e157 3 (some .int), Cond.methodLink RJ0 498 yJ2_charAt_3b067, Cond.static yJ2_charAt_3b067, Cond.initialized RJ2, Cond.code yJ2_charAt_3b067 cJ2_charAt_3b067 2 (some .char), Cond.methodLink RJ2 67 yJ2_checkIndex_2214a, Cond.static yJ2_checkIndex_2214a, Cond.code yJ2_checkIndex_2214a cJ2_checkIndex_2214a 2 none, Cond.methodLink RJ2 48 yJ2_length_9d52b, Cond.static yJ2_length_9d52b, Cond.code yJ2_length_9d52b cJ2_length_9d52b 1 (some .int), Cond.methodLink RJ2 414 yJ0_checkIndex_df160, Cond.methodLink RJ2 71 yJ2_getChar_3b067, Cond.static yJ2_getChar_3b067, Cond.code yJ2_getChar_3b067 cJ2_getChar_3b067 2 (some .char), Cond.fieldLink RJ2 44 "java/lang/StringUTF16" "$assertionsDisabled" "Z", Cond.fieldLink RJ2 59 "java/lang/StringUTF16" "HI_BYTE_SHIFT" "I", Cond.fieldLink RJ2 63 "java/lang/StringUTF16" "LO_BYTE_SHIFT" "I", Cond.methodLink RX3 22 yX3_advance, Cond.instanceMethod yX3_advance, Cond.selects RX3 yX3_advance yX3_advance]
def wsX3_readInputs_r4 : List Cond := [Cond.code yX3_advance cX3_advance 2 none, Cond.fieldLink RX3 144 "GateSums$Text" "length" "I", Cond.methodLink RX3 146 yX3_sortOf, Cond.static yX3_sortOf, Cond.code yX3_sortOf cX3_sortOf 2 (some .int), Cond.methodLink RX3 50 yX3_takeNumber, Cond.instanceMethod yX3_takeNumber, Cond.selects RX3 yX3_takeNumber yX3_takeNumber, Cond.code yX3_takeNumber cX3_takeNumber 5 (some .int), Cond.methodLink RX3 54 yX0_begin, Cond.instanceMethod yX0_begin, Cond.selects RX0 yX0_begin yX0_begin, Cond.initialized RX0, Cond.code yX0_begin cX0_begin 2 none, Cond.fieldLink RX0 24 "GateSums$Circuit" "there" "Z", Cond.fieldLink RX0 28 "GateSums$Circuit" "inputs" "I", Cond.fieldLink RX0 32 "GateSums$Circuit" "gates" "I", Cond.fieldLink RX0 35 "GateSums$Circuit" "outputs" "I", Cond.methodLink RX3 60 yX3_takeSemicolon, Cond.instanceMethod yX3_takeSemicolon, Cond.selects RX3 yX3_takeSemicolon yX3_takeSemicolon, Cond.code yX3_takeSemicolon cX3_takeSemicolon 1 (some .boolean)]
def wsX3_readInputs : List Cond := .code yX3_readInputs cX3_readInputs 3 (some .boolean) :: ((wsX3_readInputs_r1 ++ (wsX3_readInputs_r2 ++ (wsX3_readInputs_r3 ++ wsX3_readInputs_r4))) ++ wsX30 ++ wsX50 ++ wsX00)
def wsX3_gateWord : List Cond := .code yX3_gateWord cX3_gateWord 1 (some (.object "java/lang/String")) :: ([])
def wsX3_gateKind_r1 : List Cond := [Cond.methodLink RX3 97 yX3_gateWord, Cond.static yX3_gateWord, Cond.initialized RX3, Cond.code yX3_gateWord cX3_gateWord 1 (some (.object "java/lang/String")), Cond.methodLink RX3 101 yX3_isWord, Cond.instanceMethod yX3_isWord, Cond.selects RX3 yX3_isWord yX3_isWord, Cond.code yX3_isWord cX3_isWord 3 (some .boolean), Cond.fieldLink RX3 38 "GateSums$Reader" "sort" "I", Cond.fieldLink RX3 18 "GateSums$Reader" "to" "I", Cond.fieldLink RX3 41 "GateSums$Reader" "from" "I", Cond.fieldLink RX3 12 "GateSums$Reader" "text" "LGateSums$Text;", Cond.methodLink RX3 131 yJ0_length_8abf5, Cond.instanceMethod yJ0_length_8abf5, Cond.selects RJ0 yJ0_length_8abf5 yJ0_length_8abf5, Cond.initialized RJ0, Cond.code yJ0_length_8abf5 cJ0_length_8abf5 1 (some .int), Cond.fieldLink RJ0 9 "java/lang/String" "value" "[B", Cond.methodLink RJ0 335 yJ0_coder_7d493, Cond.instanceMethod yJ0_coder_7d493, Cond.selects RJ0 yJ0_coder_7d493 yJ0_coder_7d493, Cond.code yJ0_coder_7d493 cJ0_coder_7d493 1 (some .byte), Cond.fieldLink RJ0 38 "java/lang/String" "COMPACT_STRINGS" "Z", Cond.fieldLink RJ0 15 "java/lang/String" "coder" "B"]
def wsX3_gateKind_r2 : List Cond := [Cond.methodLink RX3 136 yX5_byteAt, Cond.instanceMethod yX5_byteAt, Cond.selects RX5 yX5_byteAt yX5_byteAt, Cond.initialized RX5, Cond.code yX5_byteAt cX5_byteAt 2 (some .int), Cond.fieldLink RX5 15 "GateSums$Text" "length" "I", Cond.fieldLink RX5 9 "GateSums$Text" "bytes" "[B", Cond.methodLink RX3 140 yJ0_charAt_5068e, Cond.instanceMethod yJ0_charAt_5068e, Cond.selects RJ0 yJ0_charAt_5068e yJ0_charAt_5068e, Cond.code yJ0_charAt_5068e cJ0_charAt_5068e 2 (some .char), Cond.methodLink RJ0 492 yJ0_isLatin1_aae02, Cond.instanceMethod yJ0_isLatin1_aae02, Cond.selects RJ0 yJ0_isLatin1_aae02 yJ0_isLatin1_aae02, Cond.code yJ0_isLatin1_aae02 cJ0_isLatin1_aae02 1 (some .boolean), Cond.methodLink RJ0 495 yJ1_charAt_3b067, Cond.static yJ1_charAt_3b067, Cond.initialized RJ1, Cond.code yJ1_charAt_3b067 cJ1_charAt_3b067 2 (some .char), Cond.methodLink RJ1 9 yJ0_checkIndex_df160, Cond.static yJ0_checkIndex_df160, Cond.code yJ0_checkIndex_df160 cJ0_checkIndex_df160 2 none, Cond.fieldLink RJ0 1053 "jdk/internal/util/Preconditions" "SIOOBE_FORMATTER" "Ljava/util/function/BiFunction;", Cond.methodLink RJ0 1059 yJ3_checkIndex_8e157]
def wsX3_gateKind_r3 : List Cond := [Cond.static yJ3_checkIndex_8e157, Cond.initialized RJ3, Cond.code yJ3_checkIndex_8e157 cJ3_checkIndex_8e157 3 (some .int), Cond.methodLink RJ0 498 yJ2_charAt_3b067, Cond.static yJ2_charAt_3b067, Cond.initialized RJ2, Cond.code yJ2_charAt_3b067 cJ2_charAt_3b067 2 (some .char), Cond.methodLink RJ2 67 yJ2_checkIndex_2214a, Cond.static yJ2_checkIndex_2214a, Cond.code yJ2_checkIndex_2214a cJ2_checkIndex_2214a 2 none, Cond.methodLink RJ2 48 yJ2_length_9d52b, Cond.static yJ2_length_9d52b, Cond.code yJ2_length_9d52b cJ2_length_9d52b 1 (some .int), Cond.methodLink RJ2 414 yJ0_checkIndex_df160, Cond.methodLink RJ2 71 yJ2_getChar_3b067, Cond.static yJ2_getChar_3b067, Cond.code yJ2_getChar_3b067 cJ2_getChar_3b067 2 (some .char), Cond.fieldLink RJ2 44 "java/lang/StringUTF16" "$assertionsDisabled" "Z", Cond.fieldLink RJ2 59 "java/lang/StringUTF16" "HI_BYTE_SHIFT" "I", Cond.fieldLink RJ2 63 "java/lang/StringUTF16" "LO_BYTE_SHIFT" "I"]
def wsX3_gateKind : List Cond := .code yX3_gateKind cX3_gateKind 2 (some .int) :: ((wsX3_gateKind_r1 ++ (wsX3_gateKind_r2 ++ wsX3_gateKind_r3)) ++ wsX30 ++ wsX50)
def wsX3_readGate_r1 : List Cond := [Cond.methodLink RX3 69 yX3_gateKind, Cond.instanceMethod yX3_gateKind, Cond.selects RX3 yX3_gateKind yX3_gateKind, Cond.initialized RX3, Cond.code yX3_gateKind cX3_gateKind 2 (some .int), Cond.methodLink RX3 97 yX3_gateWord, Cond.static yX3_gateWord, Cond.code yX3_gateWord cX3_gateWord 1 (some (.object "java/lang/String")), Cond.methodLink RX3 101 yX3_isWord, Cond.instanceMethod yX3_isWord, Cond.selects RX3 yX3_isWord yX3_isWord, Cond.code yX3_isWord cX3_isWord 3 (some .boolean), Cond.fieldLink RX3 38 "GateSums$Reader" "sort" "I", Cond.fieldLink RX3 18 "GateSums$Reader" "to" "I", Cond.fieldLink RX3 41 "GateSums$Reader" "from" "I", Cond.fieldLink RX3 12 "GateSums$Reader" "text" "LGateSums$Text;", Cond.methodLink RX3 131 yJ0_length_8abf5, Cond.instanceMethod yJ0_length_8abf5, Cond.selects RJ0 yJ0_length_8abf5 yJ0_length_8abf5, Cond.initialized RJ0, Cond.code yJ0_length_8abf5 cJ0_length_8abf5 1 (some .int), Cond.fieldLink RJ0 9 "java/lang/String" "value" "[B", Cond.methodLink RJ0 335 yJ0_coder_7d493, Cond.instanceMethod yJ0_coder_7d493]
def wsX3_readGate_r2 : List Cond := [Cond.selects RJ0 yJ0_coder_7d493 yJ0_coder_7d493, Cond.code yJ0_coder_7d493 cJ0_coder_7d493 1 (some .byte), Cond.fieldLink RJ0 38 "java/lang/String" "COMPACT_STRINGS" "Z", Cond.fieldLink RJ0 15 "java/lang/String" "coder" "B", Cond.methodLink RX3 136 yX5_byteAt, Cond.instanceMethod yX5_byteAt, Cond.selects RX5 yX5_byteAt yX5_byteAt, Cond.initialized RX5, Cond.code yX5_byteAt cX5_byteAt 2 (some .int), Cond.fieldLink RX5 15 "GateSums$Text" "length" "I", Cond.fieldLink RX5 9 "GateSums$Text" "bytes" "[B", Cond.methodLink RX3 140 yJ0_charAt_5068e, Cond.instanceMethod yJ0_charAt_5068e, Cond.selects RJ0 yJ0_charAt_5068e yJ0_charAt_5068e, Cond.code yJ0_charAt_5068e cJ0_charAt_5068e 2 (some .char), Cond.methodLink RJ0 492 yJ0_isLatin1_aae02, Cond.instanceMethod yJ0_isLatin1_aae02, Cond.selects RJ0 yJ0_isLatin1_aae02 yJ0_isLatin1_aae02, Cond.code yJ0_isLatin1_aae02 cJ0_isLatin1_aae02 1 (some .boolean), Cond.methodLink RJ0 495 yJ1_charAt_3b067, Cond.static yJ1_charAt_3b067, Cond.initialized RJ1, Cond.code yJ1_charAt_3b067 cJ1_charAt_3b067 2 (some .char), Cond.methodLink RJ1 9 yJ0_checkIndex_df160]
def wsX3_readGate_r3 : List Cond := [Cond.static yJ0_checkIndex_df160, Cond.code yJ0_checkIndex_df160 cJ0_checkIndex_df160 2 none, Cond.fieldLink RJ0 1053 "jdk/internal/util/Preconditions" "SIOOBE_FORMATTER" "Ljava/util/function/BiFunction;", Cond.methodLink RJ0 1059 yJ3_checkIndex_8e157, Cond.static yJ3_checkIndex_8e157, Cond.initialized RJ3, Cond.code yJ3_checkIndex_8e157 cJ3_checkIndex_8e157 3 (some .int), Cond.methodLink RJ0 498 yJ2_charAt_3b067, Cond.static yJ2_charAt_3b067, Cond.initialized RJ2, Cond.code yJ2_charAt_3b067 cJ2_charAt_3b067 2 (some .char), Cond.methodLink RJ2 67 yJ2_checkIndex_2214a, Cond.static yJ2_checkIndex_2214a, Cond.code yJ2_checkIndex_2214a cJ2_checkIndex_2214a 2 none, Cond.methodLink RJ2 48 yJ2_length_9d52b, Cond.static yJ2_length_9d52b, Cond.code yJ2_length_9d52b cJ2_length_9d52b 1 (some .int), Cond.methodLink RJ2 414 yJ0_checkIndex_df160, Cond.methodLink RJ2 71 yJ2_getChar_3b067, Cond.static yJ2_getChar_3b067, Cond.code yJ2_getChar_3b067 cJ2_getChar_3b067 2 (some .char), Cond.fieldLink RJ2 44 "java/lang/StringUTF16" "$assertionsDisabled" "Z", Cond.fieldLink RJ2 59 "java/lang/StringUTF16" "HI_BYTE_SHIFT" "I", Cond.fieldLink RJ2 63 "java/lang/StringUTF16" "LO_BYTE_SHIFT" "I"]
def wsX3_readGate_r4 : List Cond := [Cond.methodLink RX3 22 yX3_advance, Cond.instanceMethod yX3_advance, Cond.selects RX3 yX3_advance yX3_advance, Cond.code yX3_advance cX3_advance 2 none, Cond.fieldLink RX3 144 "GateSums$Text" "length" "I", Cond.methodLink RX3 146 yX3_sortOf, Cond.static yX3_sortOf, Cond.code yX3_sortOf cX3_sortOf 2 (some .int), Cond.methodLink RX3 73 yX0_signals, Cond.instanceMethod yX0_signals, Cond.selects RX0 yX0_signals yX0_signals, Cond.initialized RX0, Cond.code yX0_signals cX0_signals 1 (some .int), Cond.fieldLink RX0 28 "GateSums$Circuit" "inputs" "I", Cond.fieldLink RX0 32 "GateSums$Circuit" "gates" "I", Cond.methodLink RX3 50 yX3_takeNumber, Cond.instanceMethod yX3_takeNumber, Cond.selects RX3 yX3_takeNumber yX3_takeNumber, Cond.code yX3_takeNumber cX3_takeNumber 5 (some .int), Cond.methodLink RX3 76 yX0_addGate, Cond.instanceMethod yX0_addGate, Cond.selects RX0 yX0_addGate yX0_addGate, Cond.code yX0_addGate cX0_addGate 4 (some .int), Cond.fieldLink RX0 9 "GateSums$Circuit" "kinds" "[I"]
def wsX3_readGate_r5 : List Cond := [Cond.fieldLink RX0 15 "GateSums$Circuit" "xs" "[I", Cond.fieldLink RX0 18 "GateSums$Circuit" "ys" "[I", Cond.static yX6_put, Cond.initialized RX6, Cond.code yX6_put cX6_put 3 none, Cond.methodLink RX0 42 yX0_signals, Cond.methodLink RX3 60 yX3_takeSemicolon, Cond.instanceMethod yX3_takeSemicolon, Cond.selects RX3 yX3_takeSemicolon yX3_takeSemicolon, Cond.code yX3_takeSemicolon cX3_takeSemicolon 1 (some .boolean)]
def wsX3_readGate : List Cond := .code yX3_readGate cX3_readGate 6 (some .boolean) :: ((wsX3_readGate_r1 ++ (wsX3_readGate_r2 ++ (wsX3_readGate_r3 ++ (wsX3_readGate_r4 ++ wsX3_readGate_r5)))) ++ wsX30 ++ wsX50 ++ wsX00)
def wsX3_readGates_r1 : List Cond := [Cond.methodLink RX3 46 yX3_takeWord, Cond.instanceMethod yX3_takeWord, Cond.selects RX3 yX3_takeWord yX3_takeWord, Cond.initialized RX3, Cond.code yX3_takeWord cX3_takeWord 2 (some .boolean), Cond.methodLink RX3 101 yX3_isWord, Cond.instanceMethod yX3_isWord, Cond.selects RX3 yX3_isWord yX3_isWord, Cond.code yX3_isWord cX3_isWord 3 (some .boolean), Cond.fieldLink RX3 38 "GateSums$Reader" "sort" "I", Cond.fieldLink RX3 18 "GateSums$Reader" "to" "I", Cond.fieldLink RX3 41 "GateSums$Reader" "from" "I", Cond.fieldLink RX3 12 "GateSums$Reader" "text" "LGateSums$Text;", Cond.methodLink RX3 131 yJ0_length_8abf5, Cond.instanceMethod yJ0_length_8abf5, Cond.selects RJ0 yJ0_length_8abf5 yJ0_length_8abf5, Cond.initialized RJ0, Cond.code yJ0_length_8abf5 cJ0_length_8abf5 1 (some .int), Cond.fieldLink RJ0 9 "java/lang/String" "value" "[B", Cond.methodLink RJ0 335 yJ0_coder_7d493, Cond.instanceMethod yJ0_coder_7d493, Cond.selects RJ0 yJ0_coder_7d493 yJ0_coder_7d493, Cond.code yJ0_coder_7d493 cJ0_coder_7d493 1 (some .byte), Cond.fieldLink RJ0 38 "java/lang/String" "COMPACT_STRINGS" "Z"]
def wsX3_readGates_r2 : List Cond := [Cond.fieldLink RJ0 15 "java/lang/String" "coder" "B", Cond.methodLink RX3 136 yX5_byteAt, Cond.instanceMethod yX5_byteAt, Cond.selects RX5 yX5_byteAt yX5_byteAt, Cond.initialized RX5, Cond.code yX5_byteAt cX5_byteAt 2 (some .int), Cond.fieldLink RX5 15 "GateSums$Text" "length" "I", Cond.fieldLink RX5 9 "GateSums$Text" "bytes" "[B", Cond.methodLink RX3 140 yJ0_charAt_5068e, Cond.instanceMethod yJ0_charAt_5068e, Cond.selects RJ0 yJ0_charAt_5068e yJ0_charAt_5068e, Cond.code yJ0_charAt_5068e cJ0_charAt_5068e 2 (some .char), Cond.methodLink RJ0 492 yJ0_isLatin1_aae02, Cond.instanceMethod yJ0_isLatin1_aae02, Cond.selects RJ0 yJ0_isLatin1_aae02 yJ0_isLatin1_aae02, Cond.code yJ0_isLatin1_aae02 cJ0_isLatin1_aae02 1 (some .boolean), Cond.methodLink RJ0 495 yJ1_charAt_3b067, Cond.static yJ1_charAt_3b067, Cond.initialized RJ1, Cond.code yJ1_charAt_3b067 cJ1_charAt_3b067 2 (some .char), Cond.methodLink RJ1 9 yJ0_checkIndex_df160, Cond.static yJ0_checkIndex_df160, Cond.code yJ0_checkIndex_df160 cJ0_checkIndex_df160 2 none, Cond.fieldLink RJ0 1053 "jdk/internal/util/Preconditions" "SIOOBE_FORMATTER" "Ljava/util/function/BiFunction;"]
def wsX3_readGates_r3 : List Cond := [Cond.methodLink RJ0 1059 yJ3_checkIndex_8e157, Cond.static yJ3_checkIndex_8e157, Cond.initialized RJ3, Cond.code yJ3_checkIndex_8e157 cJ3_checkIndex_8e157 3 (some .int), Cond.methodLink RJ0 498 yJ2_charAt_3b067, Cond.static yJ2_charAt_3b067, Cond.initialized RJ2, Cond.code yJ2_charAt_3b067 cJ2_charAt_3b067 2 (some .char), Cond.methodLink RJ2 67 yJ2_checkIndex_2214a, Cond.static yJ2_checkIndex_2214a, Cond.code yJ2_checkIndex_2214a cJ2_checkIndex_2214a 2 none, Cond.methodLink RJ2 48 yJ2_length_9d52b, Cond.static yJ2_length_9d52b, Cond.code yJ2_length_9d52b cJ2_length_9d52b 1 (some .int), Cond.methodLink RJ2 414 yJ0_checkIndex_df160, Cond.methodLink RJ2 71 yJ2_getChar_3b067, Cond.static yJ2_getChar_3b067, Cond.code yJ2_getChar_3b067 cJ2_getChar_3b067 2 (some .char), Cond.fieldLink RJ2 44 "java/lang/StringUTF16" "$assertionsDisabled" "Z", Cond.fieldLink RJ2 59 "java/lang/StringUTF16" "HI_BYTE_SHIFT" "I", Cond.fieldLink RJ2 63 "java/lang/StringUTF16" "LO_BYTE_SHIFT" "I", Cond.methodLink RX3 22 yX3_advance, Cond.instanceMethod yX3_advance, Cond.selects RX3 yX3_advance yX3_advance]
def wsX3_readGates_r4 : List Cond := [Cond.code yX3_advance cX3_advance 2 none, Cond.fieldLink RX3 144 "GateSums$Text" "length" "I", Cond.methodLink RX3 146 yX3_sortOf, Cond.static yX3_sortOf, Cond.code yX3_sortOf cX3_sortOf 2 (some .int), Cond.methodLink RX3 66 yX3_readGate, Cond.instanceMethod yX3_readGate, Cond.selects RX3 yX3_readGate yX3_readGate, Cond.code yX3_readGate cX3_readGate 6 (some .boolean), Cond.methodLink RX3 69 yX3_gateKind, Cond.instanceMethod yX3_gateKind, Cond.selects RX3 yX3_gateKind yX3_gateKind, Cond.code yX3_gateKind cX3_gateKind 2 (some .int), Cond.methodLink RX3 97 yX3_gateWord, Cond.static yX3_gateWord, Cond.code yX3_gateWord cX3_gateWord 1 (some (.object "java/lang/String")), Cond.methodLink RX3 73 yX0_signals, Cond.instanceMethod yX0_signals, Cond.selects RX0 yX0_signals yX0_signals, Cond.initialized RX0, Cond.code yX0_signals cX0_signals 1 (some .int), Cond.fieldLink RX0 28 "GateSums$Circuit" "inputs" "I", Cond.fieldLink RX0 32 "GateSums$Circuit" "gates" "I", Cond.methodLink RX3 50 yX3_takeNumber]
def wsX3_readGates_r5 : List Cond := [Cond.instanceMethod yX3_takeNumber, Cond.selects RX3 yX3_takeNumber yX3_takeNumber, Cond.code yX3_takeNumber cX3_takeNumber 5 (some .int), Cond.methodLink RX3 76 yX0_addGate, Cond.instanceMethod yX0_addGate, Cond.selects RX0 yX0_addGate yX0_addGate, Cond.code yX0_addGate cX0_addGate 4 (some .int), Cond.fieldLink RX0 9 "GateSums$Circuit" "kinds" "[I", Cond.fieldLink RX0 15 "GateSums$Circuit" "xs" "[I", Cond.fieldLink RX0 18 "GateSums$Circuit" "ys" "[I", Cond.static yX6_put, Cond.initialized RX6, Cond.code yX6_put cX6_put 3 none, Cond.methodLink RX0 42 yX0_signals, Cond.methodLink RX3 60 yX3_takeSemicolon, Cond.instanceMethod yX3_takeSemicolon, Cond.selects RX3 yX3_takeSemicolon yX3_takeSemicolon, Cond.code yX3_takeSemicolon cX3_takeSemicolon 1 (some .boolean)]
def wsX3_readGates : List Cond := .code yX3_readGates cX3_readGates 3 (some .boolean) :: ((wsX3_readGates_r1 ++ (wsX3_readGates_r2 ++ (wsX3_readGates_r3 ++ (wsX3_readGates_r4 ++ wsX3_readGates_r5)))) ++ wsX30 ++ wsX50 ++ wsX00)
def wsX3_readOutputs_r1 : List Cond := [Cond.fieldLink RX3 38 "GateSums$Reader" "sort" "I", Cond.methodLink RX3 46 yX3_takeWord, Cond.instanceMethod yX3_takeWord, Cond.selects RX3 yX3_takeWord yX3_takeWord, Cond.initialized RX3, Cond.code yX3_takeWord cX3_takeWord 2 (some .boolean), Cond.methodLink RX3 101 yX3_isWord, Cond.instanceMethod yX3_isWord, Cond.selects RX3 yX3_isWord yX3_isWord, Cond.code yX3_isWord cX3_isWord 3 (some .boolean), Cond.fieldLink RX3 18 "GateSums$Reader" "to" "I", Cond.fieldLink RX3 41 "GateSums$Reader" "from" "I", Cond.fieldLink RX3 12 "GateSums$Reader" "text" "LGateSums$Text;", Cond.methodLink RX3 131 yJ0_length_8abf5, Cond.instanceMethod yJ0_length_8abf5, Cond.selects RJ0 yJ0_length_8abf5 yJ0_length_8abf5, Cond.initialized RJ0, Cond.code yJ0_length_8abf5 cJ0_length_8abf5 1 (some .int), Cond.fieldLink RJ0 9 "java/lang/String" "value" "[B", Cond.methodLink RJ0 335 yJ0_coder_7d493, Cond.instanceMethod yJ0_coder_7d493, Cond.selects RJ0 yJ0_coder_7d493 yJ0_coder_7d493, Cond.code yJ0_coder_7d493 cJ0_coder_7d493 1 (some .byte), Cond.fieldLink RJ0 38 "java/lang/String" "COMPACT_STRINGS" "Z"]
def wsX3_readOutputs_r2 : List Cond := [Cond.fieldLink RJ0 15 "java/lang/String" "coder" "B", Cond.methodLink RX3 136 yX5_byteAt, Cond.instanceMethod yX5_byteAt, Cond.selects RX5 yX5_byteAt yX5_byteAt, Cond.initialized RX5, Cond.code yX5_byteAt cX5_byteAt 2 (some .int), Cond.fieldLink RX5 15 "GateSums$Text" "length" "I", Cond.fieldLink RX5 9 "GateSums$Text" "bytes" "[B", Cond.methodLink RX3 140 yJ0_charAt_5068e, Cond.instanceMethod yJ0_charAt_5068e, Cond.selects RJ0 yJ0_charAt_5068e yJ0_charAt_5068e, Cond.code yJ0_charAt_5068e cJ0_charAt_5068e 2 (some .char), Cond.methodLink RJ0 492 yJ0_isLatin1_aae02, Cond.instanceMethod yJ0_isLatin1_aae02, Cond.selects RJ0 yJ0_isLatin1_aae02 yJ0_isLatin1_aae02, Cond.code yJ0_isLatin1_aae02 cJ0_isLatin1_aae02 1 (some .boolean), Cond.methodLink RJ0 495 yJ1_charAt_3b067, Cond.static yJ1_charAt_3b067, Cond.initialized RJ1, Cond.code yJ1_charAt_3b067 cJ1_charAt_3b067 2 (some .char), Cond.methodLink RJ1 9 yJ0_checkIndex_df160, Cond.static yJ0_checkIndex_df160, Cond.code yJ0_checkIndex_df160 cJ0_checkIndex_df160 2 none, Cond.fieldLink RJ0 1053 "jdk/internal/util/Preconditions" "SIOOBE_FORMATTER" "Ljava/util/function/BiFunction;"]
def wsX3_readOutputs_r3 : List Cond := [Cond.methodLink RJ0 1059 yJ3_checkIndex_8e157, Cond.static yJ3_checkIndex_8e157, Cond.initialized RJ3, Cond.code yJ3_checkIndex_8e157 cJ3_checkIndex_8e157 3 (some .int), Cond.methodLink RJ0 498 yJ2_charAt_3b067, Cond.static yJ2_charAt_3b067, Cond.initialized RJ2, Cond.code yJ2_charAt_3b067 cJ2_charAt_3b067 2 (some .char), Cond.methodLink RJ2 67 yJ2_checkIndex_2214a, Cond.static yJ2_checkIndex_2214a, Cond.code yJ2_checkIndex_2214a cJ2_checkIndex_2214a 2 none, Cond.methodLink RJ2 48 yJ2_length_9d52b, Cond.static yJ2_length_9d52b, Cond.code yJ2_length_9d52b cJ2_length_9d52b 1 (some .int), Cond.methodLink RJ2 414 yJ0_checkIndex_df160, Cond.methodLink RJ2 71 yJ2_getChar_3b067, Cond.static yJ2_getChar_3b067, Cond.code yJ2_getChar_3b067 cJ2_getChar_3b067 2 (some .char), Cond.fieldLink RJ2 44 "java/lang/StringUTF16" "$assertionsDisabled" "Z", Cond.fieldLink RJ2 59 "java/lang/StringUTF16" "HI_BYTE_SHIFT" "I", Cond.fieldLink RJ2 63 "java/lang/StringUTF16" "LO_BYTE_SHIFT" "I", Cond.methodLink RX3 22 yX3_advance, Cond.instanceMethod yX3_advance, Cond.selects RX3 yX3_advance yX3_advance]
def wsX3_readOutputs_r4 : List Cond := [Cond.code yX3_advance cX3_advance 2 none, Cond.fieldLink RX3 144 "GateSums$Text" "length" "I", Cond.methodLink RX3 146 yX3_sortOf, Cond.static yX3_sortOf, Cond.code yX3_sortOf cX3_sortOf 2 (some .int), Cond.methodLink RX3 73 yX0_signals, Cond.instanceMethod yX0_signals, Cond.selects RX0 yX0_signals yX0_signals, Cond.initialized RX0, Cond.code yX0_signals cX0_signals 1 (some .int), Cond.fieldLink RX0 28 "GateSums$Circuit" "inputs" "I", Cond.fieldLink RX0 32 "GateSums$Circuit" "gates" "I", Cond.methodLink RX3 50 yX3_takeNumber, Cond.instanceMethod yX3_takeNumber, Cond.selects RX3 yX3_takeNumber yX3_takeNumber, Cond.code yX3_takeNumber cX3_takeNumber 5 (some .int), Cond.methodLink RX3 82 yX0_addOutput, Cond.instanceMethod yX0_addOutput, Cond.selects RX0 yX0_addOutput yX0_addOutput, Cond.code yX0_addOutput cX0_addOutput 2 none, Cond.fieldLink RX0 35 "GateSums$Circuit" "outputs" "I", Cond.fieldLink RX0 21 "GateSums$Circuit" "places" "[I", Cond.static yX6_put, Cond.initialized RX6]
def wsX3_readOutputs_r5 : List Cond := [Cond.code yX6_put cX6_put 3 none, Cond.methodLink RX3 60 yX3_takeSemicolon, Cond.instanceMethod yX3_takeSemicolon, Cond.selects RX3 yX3_takeSemicolon yX3_takeSemicolon, Cond.code yX3_takeSemicolon cX3_takeSemicolon 1 (some .boolean)]
def wsX3_readOutputs : List Cond := .code yX3_readOutputs cX3_readOutputs 5 (some .boolean) :: ((wsX3_readOutputs_r1 ++ (wsX3_readOutputs_r2 ++ (wsX3_readOutputs_r3 ++ (wsX3_readOutputs_r4 ++ wsX3_readOutputs_r5)))) ++ wsX30 ++ wsX50 ++ wsX00)
def wsX3_taskWord : List Cond := .code yX3_taskWord cX3_taskWord 1 (some (.object "java/lang/String")) :: ([])
def wsX3_taskKind_r1 : List Cond := [Cond.methodLink RX3 104 yX3_taskWord, Cond.static yX3_taskWord, Cond.initialized RX3, Cond.code yX3_taskWord cX3_taskWord 1 (some (.object "java/lang/String")), Cond.methodLink RX3 101 yX3_isWord, Cond.instanceMethod yX3_isWord, Cond.selects RX3 yX3_isWord yX3_isWord, Cond.code yX3_isWord cX3_isWord 3 (some .boolean), Cond.fieldLink RX3 38 "GateSums$Reader" "sort" "I", Cond.fieldLink RX3 18 "GateSums$Reader" "to" "I", Cond.fieldLink RX3 41 "GateSums$Reader" "from" "I", Cond.fieldLink RX3 12 "GateSums$Reader" "text" "LGateSums$Text;", Cond.methodLink RX3 131 yJ0_length_8abf5, Cond.instanceMethod yJ0_length_8abf5, Cond.selects RJ0 yJ0_length_8abf5 yJ0_length_8abf5, Cond.initialized RJ0, Cond.code yJ0_length_8abf5 cJ0_length_8abf5 1 (some .int), Cond.fieldLink RJ0 9 "java/lang/String" "value" "[B", Cond.methodLink RJ0 335 yJ0_coder_7d493, Cond.instanceMethod yJ0_coder_7d493, Cond.selects RJ0 yJ0_coder_7d493 yJ0_coder_7d493, Cond.code yJ0_coder_7d493 cJ0_coder_7d493 1 (some .byte), Cond.fieldLink RJ0 38 "java/lang/String" "COMPACT_STRINGS" "Z", Cond.fieldLink RJ0 15 "java/lang/String" "coder" "B"]
def wsX3_taskKind_r2 : List Cond := [Cond.methodLink RX3 136 yX5_byteAt, Cond.instanceMethod yX5_byteAt, Cond.selects RX5 yX5_byteAt yX5_byteAt, Cond.initialized RX5, Cond.code yX5_byteAt cX5_byteAt 2 (some .int), Cond.fieldLink RX5 15 "GateSums$Text" "length" "I", Cond.fieldLink RX5 9 "GateSums$Text" "bytes" "[B", Cond.methodLink RX3 140 yJ0_charAt_5068e, Cond.instanceMethod yJ0_charAt_5068e, Cond.selects RJ0 yJ0_charAt_5068e yJ0_charAt_5068e, Cond.code yJ0_charAt_5068e cJ0_charAt_5068e 2 (some .char), Cond.methodLink RJ0 492 yJ0_isLatin1_aae02, Cond.instanceMethod yJ0_isLatin1_aae02, Cond.selects RJ0 yJ0_isLatin1_aae02 yJ0_isLatin1_aae02, Cond.code yJ0_isLatin1_aae02 cJ0_isLatin1_aae02 1 (some .boolean), Cond.methodLink RJ0 495 yJ1_charAt_3b067, Cond.static yJ1_charAt_3b067, Cond.initialized RJ1, Cond.code yJ1_charAt_3b067 cJ1_charAt_3b067 2 (some .char), Cond.methodLink RJ1 9 yJ0_checkIndex_df160, Cond.static yJ0_checkIndex_df160, Cond.code yJ0_checkIndex_df160 cJ0_checkIndex_df160 2 none, Cond.fieldLink RJ0 1053 "jdk/internal/util/Preconditions" "SIOOBE_FORMATTER" "Ljava/util/function/BiFunction;", Cond.methodLink RJ0 1059 yJ3_checkIndex_8e157]
def wsX3_taskKind_r3 : List Cond := [Cond.static yJ3_checkIndex_8e157, Cond.initialized RJ3, Cond.code yJ3_checkIndex_8e157 cJ3_checkIndex_8e157 3 (some .int), Cond.methodLink RJ0 498 yJ2_charAt_3b067, Cond.static yJ2_charAt_3b067, Cond.initialized RJ2, Cond.code yJ2_charAt_3b067 cJ2_charAt_3b067 2 (some .char), Cond.methodLink RJ2 67 yJ2_checkIndex_2214a, Cond.static yJ2_checkIndex_2214a, Cond.code yJ2_checkIndex_2214a cJ2_checkIndex_2214a 2 none, Cond.methodLink RJ2 48 yJ2_length_9d52b, Cond.static yJ2_length_9d52b, Cond.code yJ2_length_9d52b cJ2_length_9d52b 1 (some .int), Cond.methodLink RJ2 414 yJ0_checkIndex_df160, Cond.methodLink RJ2 71 yJ2_getChar_3b067, Cond.static yJ2_getChar_3b067, Cond.code yJ2_getChar_3b067 cJ2_getChar_3b067 2 (some .char), Cond.fieldLink RJ2 44 "java/lang/StringUTF16" "$assertionsDisabled" "Z", Cond.fieldLink RJ2 59 "java/lang/StringUTF16" "HI_BYTE_SHIFT" "I", Cond.fieldLink RJ2 63 "java/lang/StringUTF16" "LO_BYTE_SHIFT" "I"]
def wsX3_taskKind : List Cond := .code yX3_taskKind cX3_taskKind 2 (some .int) :: ((wsX3_taskKind_r1 ++ (wsX3_taskKind_r2 ++ wsX3_taskKind_r3)) ++ wsX30 ++ wsX50)
def wsX3_readTask_r1 : List Cond := [Cond.fieldLink RX3 90 "GateSums$Circuit" "inputs" "I", Cond.methodLink RX3 46 yX3_takeWord, Cond.instanceMethod yX3_takeWord, Cond.selects RX3 yX3_takeWord yX3_takeWord, Cond.initialized RX3, Cond.code yX3_takeWord cX3_takeWord 2 (some .boolean), Cond.methodLink RX3 101 yX3_isWord, Cond.instanceMethod yX3_isWord, Cond.selects RX3 yX3_isWord yX3_isWord, Cond.code yX3_isWord cX3_isWord 3 (some .boolean), Cond.fieldLink RX3 38 "GateSums$Reader" "sort" "I", Cond.fieldLink RX3 18 "GateSums$Reader" "to" "I", Cond.fieldLink RX3 41 "GateSums$Reader" "from" "I", Cond.fieldLink RX3 12 "GateSums$Reader" "text" "LGateSums$Text;", Cond.methodLink RX3 131 yJ0_length_8abf5, Cond.instanceMethod yJ0_length_8abf5, Cond.selects RJ0 yJ0_length_8abf5 yJ0_length_8abf5, Cond.initialized RJ0, Cond.code yJ0_length_8abf5 cJ0_length_8abf5 1 (some .int), Cond.fieldLink RJ0 9 "java/lang/String" "value" "[B", Cond.methodLink RJ0 335 yJ0_coder_7d493, Cond.instanceMethod yJ0_coder_7d493, Cond.selects RJ0 yJ0_coder_7d493 yJ0_coder_7d493, Cond.code yJ0_coder_7d493 cJ0_coder_7d493 1 (some .byte)]
def wsX3_readTask_r2 : List Cond := [Cond.fieldLink RJ0 38 "java/lang/String" "COMPACT_STRINGS" "Z", Cond.fieldLink RJ0 15 "java/lang/String" "coder" "B", Cond.methodLink RX3 136 yX5_byteAt, Cond.instanceMethod yX5_byteAt, Cond.selects RX5 yX5_byteAt yX5_byteAt, Cond.initialized RX5, Cond.code yX5_byteAt cX5_byteAt 2 (some .int), Cond.fieldLink RX5 15 "GateSums$Text" "length" "I", Cond.fieldLink RX5 9 "GateSums$Text" "bytes" "[B", Cond.methodLink RX3 140 yJ0_charAt_5068e, Cond.instanceMethod yJ0_charAt_5068e, Cond.selects RJ0 yJ0_charAt_5068e yJ0_charAt_5068e, Cond.code yJ0_charAt_5068e cJ0_charAt_5068e 2 (some .char), Cond.methodLink RJ0 492 yJ0_isLatin1_aae02, Cond.instanceMethod yJ0_isLatin1_aae02, Cond.selects RJ0 yJ0_isLatin1_aae02 yJ0_isLatin1_aae02, Cond.code yJ0_isLatin1_aae02 cJ0_isLatin1_aae02 1 (some .boolean), Cond.methodLink RJ0 495 yJ1_charAt_3b067, Cond.static yJ1_charAt_3b067, Cond.initialized RJ1, Cond.code yJ1_charAt_3b067 cJ1_charAt_3b067 2 (some .char), Cond.methodLink RJ1 9 yJ0_checkIndex_df160, Cond.static yJ0_checkIndex_df160, Cond.code yJ0_checkIndex_df160 cJ0_checkIndex_df160 2 none]
def wsX3_readTask_r3 : List Cond := [Cond.fieldLink RJ0 1053 "jdk/internal/util/Preconditions" "SIOOBE_FORMATTER" "Ljava/util/function/BiFunction;", Cond.methodLink RJ0 1059 yJ3_checkIndex_8e157, Cond.static yJ3_checkIndex_8e157, Cond.initialized RJ3, Cond.code yJ3_checkIndex_8e157 cJ3_checkIndex_8e157 3 (some .int), Cond.methodLink RJ0 498 yJ2_charAt_3b067, Cond.static yJ2_charAt_3b067, Cond.initialized RJ2, Cond.code yJ2_charAt_3b067 cJ2_charAt_3b067 2 (some .char), Cond.methodLink RJ2 67 yJ2_checkIndex_2214a, Cond.static yJ2_checkIndex_2214a, Cond.code yJ2_checkIndex_2214a cJ2_checkIndex_2214a 2 none, Cond.methodLink RJ2 48 yJ2_length_9d52b, Cond.static yJ2_length_9d52b, Cond.code yJ2_length_9d52b cJ2_length_9d52b 1 (some .int), Cond.methodLink RJ2 414 yJ0_checkIndex_df160, Cond.methodLink RJ2 71 yJ2_getChar_3b067, Cond.static yJ2_getChar_3b067, Cond.code yJ2_getChar_3b067 cJ2_getChar_3b067 2 (some .char), Cond.fieldLink RJ2 44 "java/lang/StringUTF16" "$assertionsDisabled" "Z", Cond.fieldLink RJ2 59 "java/lang/StringUTF16" "HI_BYTE_SHIFT" "I", Cond.fieldLink RJ2 63 "java/lang/StringUTF16" "LO_BYTE_SHIFT" "I", Cond.methodLink RX3 22 yX3_advance, Cond.instanceMethod yX3_advance]
def wsX3_readTask_r4 : List Cond := [Cond.selects RX3 yX3_advance yX3_advance, Cond.code yX3_advance cX3_advance 2 none, Cond.fieldLink RX3 144 "GateSums$Text" "length" "I", Cond.methodLink RX3 146 yX3_sortOf, Cond.static yX3_sortOf, Cond.code yX3_sortOf cX3_sortOf 2 (some .int), Cond.methodLink RX3 87 yX3_taskKind, Cond.instanceMethod yX3_taskKind, Cond.selects RX3 yX3_taskKind yX3_taskKind, Cond.code yX3_taskKind cX3_taskKind 2 (some .int), Cond.methodLink RX3 104 yX3_taskWord, Cond.static yX3_taskWord, Cond.code yX3_taskWord cX3_taskWord 1 (some (.object "java/lang/String")), Cond.methodLink RX3 50 yX3_takeNumber, Cond.instanceMethod yX3_takeNumber, Cond.selects RX3 yX3_takeNumber yX3_takeNumber, Cond.code yX3_takeNumber cX3_takeNumber 5 (some .int), Cond.methodLink RX3 93 yX0_end, Cond.instanceMethod yX0_end, Cond.selects RX0 yX0_end yX0_end, Cond.initialized RX0, Cond.code yX0_end cX0_end 4 none, Cond.fieldLink RX0 46 "GateSums$Circuit" "task" "I", Cond.fieldLink RX0 49 "GateSums$Circuit" "p" "I"]
def wsX3_readTask_r5 : List Cond := [Cond.fieldLink RX0 52 "GateSums$Circuit" "q" "I", Cond.fieldLink RX0 24 "GateSums$Circuit" "there" "Z", Cond.methodLink RX3 60 yX3_takeSemicolon, Cond.instanceMethod yX3_takeSemicolon, Cond.selects RX3 yX3_takeSemicolon yX3_takeSemicolon, Cond.code yX3_takeSemicolon cX3_takeSemicolon 1 (some .boolean)]
def wsX3_readTask : List Cond := .code yX3_readTask cX3_readTask 5 (some .boolean) :: ((wsX3_readTask_r1 ++ (wsX3_readTask_r2 ++ (wsX3_readTask_r3 ++ (wsX3_readTask_r4 ++ wsX3_readTask_r5)))) ++ wsX00 ++ wsX30 ++ wsX50)
def wsX3_faultOf_r1 : List Cond := [Cond.fieldLink RX3 18 "GateSums$Reader" "to" "I", Cond.fieldLink RX3 38 "GateSums$Reader" "sort" "I", Cond.fieldLink RX3 41 "GateSums$Reader" "from" "I", Cond.methodLink RX3 22 yX3_advance, Cond.instanceMethod yX3_advance, Cond.selects RX3 yX3_advance yX3_advance, Cond.initialized RX3, Cond.code yX3_advance cX3_advance 2 none, Cond.fieldLink RX3 12 "GateSums$Reader" "text" "LGateSums$Text;", Cond.fieldLink RX3 144 "GateSums$Text" "length" "I", Cond.methodLink RX3 136 yX5_byteAt, Cond.instanceMethod yX5_byteAt, Cond.selects RX5 yX5_byteAt yX5_byteAt, Cond.initialized RX5, Cond.code yX5_byteAt cX5_byteAt 2 (some .int), Cond.fieldLink RX5 15 "GateSums$Text" "length" "I", Cond.fieldLink RX5 9 "GateSums$Text" "bytes" "[B", Cond.methodLink RX3 146 yX3_sortOf, Cond.static yX3_sortOf, Cond.code yX3_sortOf cX3_sortOf 2 (some .int), Cond.methodLink RX3 25 yX3_readInputs, Cond.instanceMethod yX3_readInputs, Cond.selects RX3 yX3_readInputs yX3_readInputs, Cond.code yX3_readInputs cX3_readInputs 3 (some .boolean)]
def wsX3_faultOf_r2 : List Cond := [Cond.methodLink RX3 46 yX3_takeWord, Cond.instanceMethod yX3_takeWord, Cond.selects RX3 yX3_takeWord yX3_takeWord, Cond.code yX3_takeWord cX3_takeWord 2 (some .boolean), Cond.methodLink RX3 101 yX3_isWord, Cond.instanceMethod yX3_isWord, Cond.selects RX3 yX3_isWord yX3_isWord, Cond.code yX3_isWord cX3_isWord 3 (some .boolean), Cond.methodLink RX3 131 yJ0_length_8abf5, Cond.instanceMethod yJ0_length_8abf5, Cond.selects RJ0 yJ0_length_8abf5 yJ0_length_8abf5, Cond.initialized RJ0, Cond.code yJ0_length_8abf5 cJ0_length_8abf5 1 (some .int), Cond.fieldLink RJ0 9 "java/lang/String" "value" "[B", Cond.methodLink RJ0 335 yJ0_coder_7d493, Cond.instanceMethod yJ0_coder_7d493, Cond.selects RJ0 yJ0_coder_7d493 yJ0_coder_7d493, Cond.code yJ0_coder_7d493 cJ0_coder_7d493 1 (some .byte), Cond.fieldLink RJ0 38 "java/lang/String" "COMPACT_STRINGS" "Z", Cond.fieldLink RJ0 15 "java/lang/String" "coder" "B", Cond.methodLink RX3 140 yJ0_charAt_5068e, Cond.instanceMethod yJ0_charAt_5068e, Cond.selects RJ0 yJ0_charAt_5068e yJ0_charAt_5068e, Cond.code yJ0_charAt_5068e cJ0_charAt_5068e 2 (some .char)]
def wsX3_faultOf_r3 : List Cond := [Cond.methodLink RJ0 492 yJ0_isLatin1_aae02, Cond.instanceMethod yJ0_isLatin1_aae02, Cond.selects RJ0 yJ0_isLatin1_aae02 yJ0_isLatin1_aae02, Cond.code yJ0_isLatin1_aae02 cJ0_isLatin1_aae02 1 (some .boolean), Cond.methodLink RJ0 495 yJ1_charAt_3b067, Cond.static yJ1_charAt_3b067, Cond.initialized RJ1, Cond.code yJ1_charAt_3b067 cJ1_charAt_3b067 2 (some .char), Cond.methodLink RJ1 9 yJ0_checkIndex_df160, Cond.static yJ0_checkIndex_df160, Cond.code yJ0_checkIndex_df160 cJ0_checkIndex_df160 2 none, Cond.fieldLink RJ0 1053 "jdk/internal/util/Preconditions" "SIOOBE_FORMATTER" "Ljava/util/function/BiFunction;", Cond.methodLink RJ0 1059 yJ3_checkIndex_8e157, Cond.static yJ3_checkIndex_8e157, Cond.initialized RJ3, Cond.code yJ3_checkIndex_8e157 cJ3_checkIndex_8e157 3 (some .int), Cond.methodLink RJ0 498 yJ2_charAt_3b067, Cond.static yJ2_charAt_3b067, Cond.initialized RJ2, Cond.code yJ2_charAt_3b067 cJ2_charAt_3b067 2 (some .char), Cond.methodLink RJ2 67 yJ2_checkIndex_2214a, Cond.static yJ2_checkIndex_2214a, Cond.code yJ2_checkIndex_2214a cJ2_checkIndex_2214a 2 none, Cond.methodLink RJ2 48 yJ2_length_9d52b]
def wsX3_faultOf_r4 : List Cond := [Cond.static yJ2_length_9d52b, Cond.code yJ2_length_9d52b cJ2_length_9d52b 1 (some .int), Cond.methodLink RJ2 414 yJ0_checkIndex_df160, Cond.methodLink RJ2 71 yJ2_getChar_3b067, Cond.static yJ2_getChar_3b067, Cond.code yJ2_getChar_3b067 cJ2_getChar_3b067 2 (some .char), Cond.fieldLink RJ2 44 "java/lang/StringUTF16" "$assertionsDisabled" "Z", Cond.fieldLink RJ2 59 "java/lang/StringUTF16" "HI_BYTE_SHIFT" "I", Cond.fieldLink RJ2 63 "java/lang/StringUTF16" "LO_BYTE_SHIFT" "I", Cond.methodLink RX3 50 yX3_takeNumber, Cond.instanceMethod yX3_takeNumber, Cond.selects RX3 yX3_takeNumber yX3_takeNumber, Cond.code yX3_takeNumber cX3_takeNumber 5 (some .int), Cond.methodLink RX3 54 yX0_begin, Cond.instanceMethod yX0_begin, Cond.selects RX0 yX0_begin yX0_begin, Cond.initialized RX0, Cond.code yX0_begin cX0_begin 2 none, Cond.fieldLink RX0 24 "GateSums$Circuit" "there" "Z", Cond.fieldLink RX0 28 "GateSums$Circuit" "inputs" "I", Cond.fieldLink RX0 32 "GateSums$Circuit" "gates" "I", Cond.fieldLink RX0 35 "GateSums$Circuit" "outputs" "I", Cond.methodLink RX3 60 yX3_takeSemicolon, Cond.instanceMethod yX3_takeSemicolon]
def wsX3_faultOf_r5 : List Cond := [Cond.selects RX3 yX3_takeSemicolon yX3_takeSemicolon, Cond.code yX3_takeSemicolon cX3_takeSemicolon 1 (some .boolean), Cond.methodLink RX3 29 yX3_readGates, Cond.instanceMethod yX3_readGates, Cond.selects RX3 yX3_readGates yX3_readGates, Cond.code yX3_readGates cX3_readGates 3 (some .boolean), Cond.methodLink RX3 66 yX3_readGate, Cond.instanceMethod yX3_readGate, Cond.selects RX3 yX3_readGate yX3_readGate, Cond.code yX3_readGate cX3_readGate 6 (some .boolean), Cond.methodLink RX3 69 yX3_gateKind, Cond.instanceMethod yX3_gateKind, Cond.selects RX3 yX3_gateKind yX3_gateKind, Cond.code yX3_gateKind cX3_gateKind 2 (some .int), Cond.methodLink RX3 97 yX3_gateWord, Cond.static yX3_gateWord, Cond.code yX3_gateWord cX3_gateWord 1 (some (.object "java/lang/String")), Cond.methodLink RX3 73 yX0_signals, Cond.instanceMethod yX0_signals, Cond.selects RX0 yX0_signals yX0_signals, Cond.code yX0_signals cX0_signals 1 (some .int), Cond.methodLink RX3 76 yX0_addGate, Cond.instanceMethod yX0_addGate, Cond.selects RX0 yX0_addGate yX0_addGate]
def wsX3_faultOf_r6 : List Cond := [Cond.code yX0_addGate cX0_addGate 4 (some .int), Cond.fieldLink RX0 9 "GateSums$Circuit" "kinds" "[I", Cond.fieldLink RX0 15 "GateSums$Circuit" "xs" "[I", Cond.fieldLink RX0 18 "GateSums$Circuit" "ys" "[I", Cond.static yX6_put, Cond.initialized RX6, Cond.code yX6_put cX6_put 3 none, Cond.methodLink RX0 42 yX0_signals, Cond.methodLink RX3 32 yX3_readOutputs, Cond.instanceMethod yX3_readOutputs, Cond.selects RX3 yX3_readOutputs yX3_readOutputs, Cond.code yX3_readOutputs cX3_readOutputs 5 (some .boolean), Cond.methodLink RX3 82 yX0_addOutput, Cond.instanceMethod yX0_addOutput, Cond.selects RX0 yX0_addOutput yX0_addOutput, Cond.code yX0_addOutput cX0_addOutput 2 none, Cond.fieldLink RX0 21 "GateSums$Circuit" "places" "[I", Cond.methodLink RX3 35 yX3_readTask, Cond.instanceMethod yX3_readTask, Cond.selects RX3 yX3_readTask yX3_readTask, Cond.code yX3_readTask cX3_readTask 5 (some .boolean), Cond.fieldLink RX3 90 "GateSums$Circuit" "inputs" "I", Cond.methodLink RX3 87 yX3_taskKind, Cond.instanceMethod yX3_taskKind]
def wsX3_faultOf_r7 : List Cond := [Cond.selects RX3 yX3_taskKind yX3_taskKind, Cond.code yX3_taskKind cX3_taskKind 2 (some .int), Cond.methodLink RX3 104 yX3_taskWord, Cond.static yX3_taskWord, Cond.code yX3_taskWord cX3_taskWord 1 (some (.object "java/lang/String")), Cond.methodLink RX3 93 yX0_end, Cond.instanceMethod yX0_end, Cond.selects RX0 yX0_end yX0_end, Cond.code yX0_end cX0_end 4 none, Cond.fieldLink RX0 46 "GateSums$Circuit" "task" "I", Cond.fieldLink RX0 49 "GateSums$Circuit" "p" "I", Cond.fieldLink RX0 52 "GateSums$Circuit" "q" "I"]
def wsX3_faultOf : List Cond := .code yX3_faultOf cX3_faultOf 3 (some .int) :: ((wsX3_faultOf_r1 ++ (wsX3_faultOf_r2 ++ (wsX3_faultOf_r3 ++ (wsX3_faultOf_r4 ++ (wsX3_faultOf_r5 ++ (wsX3_faultOf_r6 ++ wsX3_faultOf_r7)))))) ++ wsX30 ++ wsX50 ++ wsX00)
def wsX4_init : List Cond := .code yX4_init cX4_init 1 none :: ([.methodLink RX4 3 objectInit, .instanceMethod objectInit, .code objectInit ⟨#[0xb1]⟩ 1 none, .arrayClass .int, .fieldLink RX4 9 "GateSums$Stages" "sizes" "[I", .fieldLink RX4 15 "GateSums$Stages" "sets" "[I", .fieldLink RX4 18 "GateSums$Stages" "coefficients" "[I", .classLink RX4 21 RX2, .instantiable RX2 3, .initialized RX2, .fieldLink RX4 24 "GateSums$Stages" "work" "LGateSums$Polynomial;", .instanceMethod yX2_init, .code yX2_init cX2_init 1 none, .methodLink RX2 3 objectInit, .fieldLink RX2 11 "GateSums$Polynomial" "sets" "[I", .fieldLink RX2 15 "GateSums$Polynomial" "coefficients" "[I"] ++ wsX40 ++ wsX20)
def wsX4_forget : List Cond := .code yX4_forget cX4_forget 1 none :: ([.fieldLink RX4 28 "GateSums$Stages" "known" "I", .fieldLink RX4 32 "GateSums$Stages" "burst" "Z"] ++ wsX40)
def wsX6_setOf : List Cond := .code yX6_setOf cX6_setOf 1 (some .int) :: ([])
def wsX4_addOutputs_r1 : List Cond := [Cond.fieldLink RX4 69 "GateSums$Circuit" "outputs" "I", Cond.fieldLink RX4 24 "GateSums$Stages" "work" "LGateSums$Polynomial;", Cond.methodLink RX4 72 yX0_outputAt, Cond.instanceMethod yX0_outputAt, Cond.selects RX0 yX0_outputAt yX0_outputAt, Cond.initialized RX0, Cond.code yX0_outputAt cX0_outputAt 2 (some .int), Cond.fieldLink RX0 21 "GateSums$Circuit" "places" "[I", Cond.static yX6_at, Cond.initialized RX6, Cond.code yX6_at cX6_at 2 (some .int), Cond.static yX6_setOf, Cond.code yX6_setOf cX6_setOf 1 (some .int), Cond.methodLink RX4 79 yX2_add, Cond.instanceMethod yX2_add, Cond.selects RX2 yX2_add yX2_add, Cond.initialized RX2, Cond.code yX2_add cX2_add 5 none, Cond.fieldLink RX2 22 "GateSums$Polynomial" "size" "I", Cond.fieldLink RX2 11 "GateSums$Polynomial" "sets" "[I", Cond.fieldLink RX2 15 "GateSums$Polynomial" "coefficients" "[I", Cond.methodLink RX2 18 yX2_placeOf, Cond.instanceMethod yX2_placeOf, Cond.selects RX2 yX2_placeOf yX2_placeOf]
def wsX4_addOutputs_r2 : List Cond := [Cond.code yX2_placeOf cX2_placeOf 6 (some .int), Cond.methodLink RX2 30 yX2_insert, Cond.instanceMethod yX2_insert, Cond.selects RX2 yX2_insert yX2_insert, Cond.code yX2_insert cX2_insert 4 none, Cond.methodLink RX2 42 arraycopyName, Cond.native arraycopyName, Cond.static arraycopyName, Cond.initialized "java/lang/System", Cond.static yX6_put, Cond.code yX6_put cX6_put 3 none, Cond.methodLink RX2 34 yX2_remove, Cond.instanceMethod yX2_remove, Cond.selects RX2 yX2_remove yX2_remove, Cond.code yX2_remove cX2_remove 3 none]
def wsX4_addOutputs : List Cond := .code yX4_addOutputs cX4_addOutputs 3 none :: ((wsX4_addOutputs_r1 ++ wsX4_addOutputs_r2) ++ wsX00 ++ wsX40 ++ wsX20)
def wsX4_takeTask_r1 : List Cond := [Cond.fieldLink RX4 83 "GateSums$Circuit" "p" "I", Cond.fieldLink RX4 86 "GateSums$Circuit" "task" "I", Cond.fieldLink RX4 89 "GateSums$Circuit" "q" "I", Cond.fieldLink RX4 24 "GateSums$Stages" "work" "LGateSums$Polynomial;", Cond.fieldLink RX4 92 "GateSums$Stages" "TASK_OF_A" "[I", Cond.fieldLink RX4 95 "GateSums$Stages" "TASK_OF_B" "[I", Cond.static yX6_setOf, Cond.initialized RX6, Cond.code yX6_setOf cX6_setOf 1 (some .int), Cond.static yX6_at, Cond.code yX6_at cX6_at 2 (some .int), Cond.methodLink RX4 79 yX2_add, Cond.instanceMethod yX2_add, Cond.selects RX2 yX2_add yX2_add, Cond.initialized RX2, Cond.code yX2_add cX2_add 5 none, Cond.fieldLink RX2 22 "GateSums$Polynomial" "size" "I", Cond.fieldLink RX2 11 "GateSums$Polynomial" "sets" "[I", Cond.fieldLink RX2 15 "GateSums$Polynomial" "coefficients" "[I", Cond.methodLink RX2 18 yX2_placeOf, Cond.instanceMethod yX2_placeOf, Cond.selects RX2 yX2_placeOf yX2_placeOf, Cond.code yX2_placeOf cX2_placeOf 6 (some .int), Cond.methodLink RX2 30 yX2_insert]
def wsX4_takeTask_r2 : List Cond := [Cond.instanceMethod yX2_insert, Cond.selects RX2 yX2_insert yX2_insert, Cond.code yX2_insert cX2_insert 4 none, Cond.methodLink RX2 42 arraycopyName, Cond.native arraycopyName, Cond.static arraycopyName, Cond.initialized "java/lang/System", Cond.static yX6_put, Cond.code yX6_put cX6_put 3 none, Cond.methodLink RX2 34 yX2_remove, Cond.instanceMethod yX2_remove, Cond.selects RX2 yX2_remove yX2_remove, Cond.code yX2_remove cX2_remove 3 none]
def wsX4_takeTask : List Cond := .code yX4_takeTask cX4_takeTask 7 none :: ((wsX4_takeTask_r1 ++ wsX4_takeTask_r2) ++ wsX00 ++ wsX40 ++ wsX20)
def wsX4_sizeOf : List Cond := .code yX4_sizeOf cX4_sizeOf 2 (some .int) :: ([.fieldLink RX4 28 "GateSums$Stages" "known" "I", .fieldLink RX4 9 "GateSums$Stages" "sizes" "[I", .static yX6_at, .initialized RX6, .code yX6_at cX6_at 2 (some .int)] ++ wsX40)
def wsX4_setAt : List Cond := .code yX4_setAt cX4_setAt 3 (some .int) :: ([.fieldLink RX4 15 "GateSums$Stages" "sets" "[I", .static yX6_at, .initialized RX6, .code yX6_at cX6_at 2 (some .int)] ++ wsX40)
def wsX4_coefficientAt : List Cond := .code yX4_coefficientAt cX4_coefficientAt 3 (some .int) :: ([.fieldLink RX4 18 "GateSums$Stages" "coefficients" "[I", .static yX6_at, .initialized RX6, .code yX6_at cX6_at 2 (some .int)] ++ wsX40)
def wsX4_replaceGate_r1 : List Cond := [Cond.fieldLink RX4 98 "GateSums$Circuit" "inputs" "I", Cond.fieldLink RX4 24 "GateSums$Stages" "work" "LGateSums$Polynomial;", Cond.fieldLink RX4 120 "GateSums$Stages" "OF_ONE" "[I", Cond.fieldLink RX4 123 "GateSums$Stages" "OF_X" "[I", Cond.fieldLink RX4 126 "GateSums$Stages" "OF_Y" "[I", Cond.fieldLink RX4 129 "GateSums$Stages" "OF_BOTH" "[I", Cond.static yX6_setOf, Cond.initialized RX6, Cond.code yX6_setOf cX6_setOf 1 (some .int), Cond.methodLink RX4 101 yX0_xOf, Cond.instanceMethod yX0_xOf, Cond.selects RX0 yX0_xOf yX0_xOf, Cond.initialized RX0, Cond.code yX0_xOf cX0_xOf 2 (some .int), Cond.fieldLink RX0 15 "GateSums$Circuit" "xs" "[I", Cond.static yX6_at, Cond.code yX6_at cX6_at 2 (some .int), Cond.methodLink RX4 104 yX0_yOf, Cond.instanceMethod yX0_yOf, Cond.selects RX0 yX0_yOf yX0_yOf, Cond.code yX0_yOf cX0_yOf 2 (some .int), Cond.fieldLink RX0 18 "GateSums$Circuit" "ys" "[I", Cond.methodLink RX4 107 yX0_kindOf, Cond.instanceMethod yX0_kindOf]
def wsX4_replaceGate_r2 : List Cond := [Cond.selects RX0 yX0_kindOf yX0_kindOf, Cond.code yX0_kindOf cX0_kindOf 2 (some .int), Cond.fieldLink RX0 9 "GateSums$Circuit" "kinds" "[I", Cond.methodLink RX4 110 yX4_sizeOf, Cond.instanceMethod yX4_sizeOf, Cond.selects RX4 yX4_sizeOf yX4_sizeOf, Cond.initialized RX4, Cond.code yX4_sizeOf cX4_sizeOf 2 (some .int), Cond.fieldLink RX4 28 "GateSums$Stages" "known" "I", Cond.fieldLink RX4 9 "GateSums$Stages" "sizes" "[I", Cond.methodLink RX4 113 yX4_setAt, Cond.instanceMethod yX4_setAt, Cond.selects RX4 yX4_setAt yX4_setAt, Cond.code yX4_setAt cX4_setAt 3 (some .int), Cond.fieldLink RX4 15 "GateSums$Stages" "sets" "[I", Cond.methodLink RX4 117 yX4_coefficientAt, Cond.instanceMethod yX4_coefficientAt, Cond.selects RX4 yX4_coefficientAt yX4_coefficientAt, Cond.code yX4_coefficientAt cX4_coefficientAt 3 (some .int), Cond.fieldLink RX4 18 "GateSums$Stages" "coefficients" "[I", Cond.methodLink RX4 79 yX2_add, Cond.instanceMethod yX2_add, Cond.selects RX2 yX2_add yX2_add, Cond.initialized RX2]
def wsX4_replaceGate_r3 : List Cond := [Cond.code yX2_add cX2_add 5 none, Cond.fieldLink RX2 22 "GateSums$Polynomial" "size" "I", Cond.fieldLink RX2 11 "GateSums$Polynomial" "sets" "[I", Cond.fieldLink RX2 15 "GateSums$Polynomial" "coefficients" "[I", Cond.methodLink RX2 18 yX2_placeOf, Cond.instanceMethod yX2_placeOf, Cond.selects RX2 yX2_placeOf yX2_placeOf, Cond.code yX2_placeOf cX2_placeOf 6 (some .int), Cond.methodLink RX2 30 yX2_insert, Cond.instanceMethod yX2_insert, Cond.selects RX2 yX2_insert yX2_insert, Cond.code yX2_insert cX2_insert 4 none, Cond.methodLink RX2 42 arraycopyName, Cond.native arraycopyName, Cond.static arraycopyName, Cond.initialized "java/lang/System", Cond.static yX6_put, Cond.code yX6_put cX6_put 3 none, Cond.methodLink RX2 34 yX2_remove, Cond.instanceMethod yX2_remove, Cond.selects RX2 yX2_remove yX2_remove, Cond.code yX2_remove cX2_remove 3 none]
def wsX4_replaceGate : List Cond := .code yX4_replaceGate cX4_replaceGate 12 none :: ((wsX4_replaceGate_r1 ++ (wsX4_replaceGate_r2 ++ wsX4_replaceGate_r3)) ++ wsX00 ++ wsX40 ++ wsX20)
def wsX4_keep : List Cond := .code yX4_keep cX4_keep 3 none :: ([.fieldLink RX4 24 "GateSums$Stages" "work" "LGateSums$Polynomial;", .fieldLink RX4 36 "GateSums$Polynomial" "size" "I", .fieldLink RX4 32 "GateSums$Stages" "burst" "Z", .fieldLink RX4 9 "GateSums$Stages" "sizes" "[I", .fieldLink RX4 15 "GateSums$Stages" "sets" "[I", .fieldLink RX4 63 "GateSums$Polynomial" "sets" "[I", .fieldLink RX4 18 "GateSums$Stages" "coefficients" "[I", .fieldLink RX4 68 "GateSums$Polynomial" "coefficients" "[I", .fieldLink RX4 28 "GateSums$Stages" "known" "I", .static yX6_put, .initialized RX6, .code yX6_put cX6_put 3 none, .static yX6_at, .code yX6_at cX6_at 2 (some .int)] ++ wsX40 ++ wsX20)
def wsX4_reach_r1 : List Cond := [Cond.fieldLink RX4 28 "GateSums$Stages" "known" "I", Cond.fieldLink RX4 9 "GateSums$Stages" "sizes" "[I", Cond.fieldLink RX4 32 "GateSums$Stages" "burst" "Z", Cond.fieldLink RX4 24 "GateSums$Stages" "work" "LGateSums$Polynomial;", Cond.fieldLink RX4 36 "GateSums$Polynomial" "size" "I", Cond.fieldLink RX4 46 "GateSums$Circuit" "gates" "I", Cond.methodLink RX4 39 yX4_addOutputs, Cond.instanceMethod yX4_addOutputs, Cond.selects RX4 yX4_addOutputs yX4_addOutputs, Cond.initialized RX4, Cond.code yX4_addOutputs cX4_addOutputs 3 none, Cond.fieldLink RX4 69 "GateSums$Circuit" "outputs" "I", Cond.methodLink RX4 72 yX0_outputAt, Cond.instanceMethod yX0_outputAt, Cond.selects RX0 yX0_outputAt yX0_outputAt, Cond.initialized RX0, Cond.code yX0_outputAt cX0_outputAt 2 (some .int), Cond.fieldLink RX0 21 "GateSums$Circuit" "places" "[I", Cond.static yX6_at, Cond.initialized RX6, Cond.code yX6_at cX6_at 2 (some .int), Cond.static yX6_setOf, Cond.code yX6_setOf cX6_setOf 1 (some .int), Cond.methodLink RX4 79 yX2_add]
def wsX4_reach_r2 : List Cond := [Cond.instanceMethod yX2_add, Cond.selects RX2 yX2_add yX2_add, Cond.initialized RX2, Cond.code yX2_add cX2_add 5 none, Cond.fieldLink RX2 22 "GateSums$Polynomial" "size" "I", Cond.fieldLink RX2 11 "GateSums$Polynomial" "sets" "[I", Cond.fieldLink RX2 15 "GateSums$Polynomial" "coefficients" "[I", Cond.methodLink RX2 18 yX2_placeOf, Cond.instanceMethod yX2_placeOf, Cond.selects RX2 yX2_placeOf yX2_placeOf, Cond.code yX2_placeOf cX2_placeOf 6 (some .int), Cond.methodLink RX2 30 yX2_insert, Cond.instanceMethod yX2_insert, Cond.selects RX2 yX2_insert yX2_insert, Cond.code yX2_insert cX2_insert 4 none, Cond.methodLink RX2 42 arraycopyName, Cond.native arraycopyName, Cond.static arraycopyName, Cond.initialized "java/lang/System", Cond.static yX6_put, Cond.code yX6_put cX6_put 3 none, Cond.methodLink RX2 34 yX2_remove, Cond.instanceMethod yX2_remove, Cond.selects RX2 yX2_remove yX2_remove]
def wsX4_reach_r3 : List Cond := [Cond.code yX2_remove cX2_remove 3 none, Cond.methodLink RX4 43 yX4_takeTask, Cond.instanceMethod yX4_takeTask, Cond.selects RX4 yX4_takeTask yX4_takeTask, Cond.code yX4_takeTask cX4_takeTask 7 none, Cond.fieldLink RX4 83 "GateSums$Circuit" "p" "I", Cond.fieldLink RX4 86 "GateSums$Circuit" "task" "I", Cond.fieldLink RX4 89 "GateSums$Circuit" "q" "I", Cond.fieldLink RX4 92 "GateSums$Stages" "TASK_OF_A" "[I", Cond.fieldLink RX4 95 "GateSums$Stages" "TASK_OF_B" "[I", Cond.methodLink RX4 51 yX4_replaceGate, Cond.instanceMethod yX4_replaceGate, Cond.selects RX4 yX4_replaceGate yX4_replaceGate, Cond.code yX4_replaceGate cX4_replaceGate 12 none, Cond.fieldLink RX4 98 "GateSums$Circuit" "inputs" "I", Cond.fieldLink RX4 120 "GateSums$Stages" "OF_ONE" "[I", Cond.fieldLink RX4 123 "GateSums$Stages" "OF_X" "[I", Cond.fieldLink RX4 126 "GateSums$Stages" "OF_Y" "[I", Cond.fieldLink RX4 129 "GateSums$Stages" "OF_BOTH" "[I", Cond.methodLink RX4 101 yX0_xOf, Cond.instanceMethod yX0_xOf, Cond.selects RX0 yX0_xOf yX0_xOf, Cond.code yX0_xOf cX0_xOf 2 (some .int), Cond.fieldLink RX0 15 "GateSums$Circuit" "xs" "[I"]
def wsX4_reach_r4 : List Cond := [Cond.methodLink RX4 104 yX0_yOf, Cond.instanceMethod yX0_yOf, Cond.selects RX0 yX0_yOf yX0_yOf, Cond.code yX0_yOf cX0_yOf 2 (some .int), Cond.fieldLink RX0 18 "GateSums$Circuit" "ys" "[I", Cond.methodLink RX4 107 yX0_kindOf, Cond.instanceMethod yX0_kindOf, Cond.selects RX0 yX0_kindOf yX0_kindOf, Cond.code yX0_kindOf cX0_kindOf 2 (some .int), Cond.fieldLink RX0 9 "GateSums$Circuit" "kinds" "[I", Cond.methodLink RX4 110 yX4_sizeOf, Cond.instanceMethod yX4_sizeOf, Cond.selects RX4 yX4_sizeOf yX4_sizeOf, Cond.code yX4_sizeOf cX4_sizeOf 2 (some .int), Cond.methodLink RX4 113 yX4_setAt, Cond.instanceMethod yX4_setAt, Cond.selects RX4 yX4_setAt yX4_setAt, Cond.code yX4_setAt cX4_setAt 3 (some .int), Cond.fieldLink RX4 15 "GateSums$Stages" "sets" "[I", Cond.methodLink RX4 117 yX4_coefficientAt, Cond.instanceMethod yX4_coefficientAt, Cond.selects RX4 yX4_coefficientAt yX4_coefficientAt, Cond.code yX4_coefficientAt cX4_coefficientAt 3 (some .int), Cond.fieldLink RX4 18 "GateSums$Stages" "coefficients" "[I"]
def wsX4_reach_r5 : List Cond := [Cond.methodLink RX4 55 yX4_keep, Cond.instanceMethod yX4_keep, Cond.selects RX4 yX4_keep yX4_keep, Cond.code yX4_keep cX4_keep 3 none, Cond.fieldLink RX4 63 "GateSums$Polynomial" "sets" "[I", Cond.fieldLink RX4 68 "GateSums$Polynomial" "coefficients" "[I"]
def wsX4_reach : List Cond := .code yX4_reach cX4_reach 4 (some .boolean) :: ((wsX4_reach_r1 ++ (wsX4_reach_r2 ++ (wsX4_reach_r3 ++ (wsX4_reach_r4 ++ wsX4_reach_r5)))) ++ wsX40 ++ wsX20 ++ wsX00)
def wsX4_greatestSize : List Cond := .code yX4_greatestSize cX4_greatestSize 4 (some .int) :: ([.fieldLink RX4 9 "GateSums$Stages" "sizes" "[I", .methodLink RX4 132 Lib.Math.max.name, .static Lib.Math.max.name, .initialized "java/lang/Math", .code Lib.Math.max.name Lib.Math.max.code 2 (some .int), .methodLink RX4 110 yX4_sizeOf, .instanceMethod yX4_sizeOf, .selects RX4 yX4_sizeOf yX4_sizeOf, .initialized RX4, .code yX4_sizeOf cX4_sizeOf 2 (some .int), .fieldLink RX4 28 "GateSums$Stages" "known" "I", .static yX6_at, .initialized RX6, .code yX6_at cX6_at 2 (some .int)] ++ wsX40)
def wsJ6_bitCount_0f7a4 : List Cond := .code yJ6_bitCount_0f7a4 cJ6_bitCount_0f7a4 1 (some .int) :: ([.constant RJ6 265 (1431655765), .constant RJ6 266 (858993459), .constant RJ6 267 (252645135)])
def wsX4_widestOf_r1 : List Cond := [Cond.methodLink RX4 132 Lib.Math.max.name, Cond.static Lib.Math.max.name, Cond.initialized "java/lang/Math", Cond.code Lib.Math.max.name Lib.Math.max.code 2 (some .int), Cond.methodLink RX4 110 yX4_sizeOf, Cond.instanceMethod yX4_sizeOf, Cond.selects RX4 yX4_sizeOf yX4_sizeOf, Cond.initialized RX4, Cond.code yX4_sizeOf cX4_sizeOf 2 (some .int), Cond.fieldLink RX4 28 "GateSums$Stages" "known" "I", Cond.fieldLink RX4 9 "GateSums$Stages" "sizes" "[I", Cond.static yX6_at, Cond.initialized RX6, Cond.code yX6_at cX6_at 2 (some .int), Cond.methodLink RX4 113 yX4_setAt, Cond.instanceMethod yX4_setAt, Cond.selects RX4 yX4_setAt yX4_setAt, Cond.code yX4_setAt cX4_setAt 3 (some .int), Cond.fieldLink RX4 15 "GateSums$Stages" "sets" "[I", Cond.methodLink RX4 137 yJ6_bitCount_0f7a4, Cond.static yJ6_bitCount_0f7a4, Cond.initialized RJ6, Cond.code yJ6_bitCount_0f7a4 cJ6_bitCount_0f7a4 1 (some .int), Cond.constant RJ6 265 (1431655765)]
def wsX4_widestOf_r2 : List Cond := [Cond.constant RJ6 266 (858993459), Cond.constant RJ6 267 (252645135)]
def wsX4_widestOf : List Cond := .code yX4_widestOf cX4_widestOf 4 (some .int) :: ((wsX4_widestOf_r1 ++ wsX4_widestOf_r2) ++ wsX40)
def wsX4_narrowestOf : List Cond := .code yX4_narrowestOf cX4_narrowestOf 6 (some .int) :: ([.methodLink RX4 110 yX4_sizeOf, .instanceMethod yX4_sizeOf, .selects RX4 yX4_sizeOf yX4_sizeOf, .initialized RX4, .code yX4_sizeOf cX4_sizeOf 2 (some .int), .fieldLink RX4 28 "GateSums$Stages" "known" "I", .fieldLink RX4 9 "GateSums$Stages" "sizes" "[I", .static yX6_at, .initialized RX6, .code yX6_at cX6_at 2 (some .int), .methodLink RX4 113 yX4_setAt, .instanceMethod yX4_setAt, .selects RX4 yX4_setAt yX4_setAt, .code yX4_setAt cX4_setAt 3 (some .int), .fieldLink RX4 15 "GateSums$Stages" "sets" "[I", .methodLink RX4 137 yJ6_bitCount_0f7a4, .static yJ6_bitCount_0f7a4, .initialized RJ6, .code yJ6_bitCount_0f7a4 cJ6_bitCount_0f7a4 1 (some .int), .constant RJ6 265 (1431655765), .constant RJ6 266 (858993459), .constant RJ6 267 (252645135)] ++ wsX40)
def wsX4_unionOf : List Cond := .code yX4_unionOf cX4_unionOf 4 (some .int) :: ([.methodLink RX4 110 yX4_sizeOf, .instanceMethod yX4_sizeOf, .selects RX4 yX4_sizeOf yX4_sizeOf, .initialized RX4, .code yX4_sizeOf cX4_sizeOf 2 (some .int), .fieldLink RX4 28 "GateSums$Stages" "known" "I", .fieldLink RX4 9 "GateSums$Stages" "sizes" "[I", .static yX6_at, .initialized RX6, .code yX6_at cX6_at 2 (some .int), .methodLink RX4 113 yX4_setAt, .instanceMethod yX4_setAt, .selects RX4 yX4_setAt yX4_setAt, .code yX4_setAt cX4_setAt 3 (some .int), .fieldLink RX4 15 "GateSums$Stages" "sets" "[I"] ++ wsX40)
def wsX4_sumWhere : List Cond := .code yX4_sumWhere cX4_sumWhere 6 (some .int) :: ([.methodLink RX4 110 yX4_sizeOf, .instanceMethod yX4_sizeOf, .selects RX4 yX4_sizeOf yX4_sizeOf, .initialized RX4, .code yX4_sizeOf cX4_sizeOf 2 (some .int), .fieldLink RX4 28 "GateSums$Stages" "known" "I", .fieldLink RX4 9 "GateSums$Stages" "sizes" "[I", .static yX6_at, .initialized RX6, .code yX6_at cX6_at 2 (some .int), .methodLink RX4 113 yX4_setAt, .instanceMethod yX4_setAt, .selects RX4 yX4_setAt yX4_setAt, .code yX4_setAt cX4_setAt 3 (some .int), .fieldLink RX4 15 "GateSums$Stages" "sets" "[I", .methodLink RX4 117 yX4_coefficientAt, .instanceMethod yX4_coefficientAt, .selects RX4 yX4_coefficientAt yX4_coefficientAt, .code yX4_coefficientAt cX4_coefficientAt 3 (some .int), .fieldLink RX4 18 "GateSums$Stages" "coefficients" "[I"] ++ wsX40)
def wsX4_dearerThan : List Cond := .code yX4_dearerThan cX4_dearerThan 7 (some .int) :: ([.methodLink RX4 145 Lib.Math.abs.name, .static Lib.Math.abs.name, .initialized "java/lang/Math", .code Lib.Math.abs.name Lib.Math.abs.code 1 (some .int), .methodLink RX4 117 yX4_coefficientAt, .instanceMethod yX4_coefficientAt, .selects RX4 yX4_coefficientAt yX4_coefficientAt, .initialized RX4, .code yX4_coefficientAt cX4_coefficientAt 3 (some .int), .fieldLink RX4 18 "GateSums$Stages" "coefficients" "[I", .static yX6_at, .initialized RX6, .code yX6_at cX6_at 2 (some .int), .methodLink RX4 110 yX4_sizeOf, .instanceMethod yX4_sizeOf, .selects RX4 yX4_sizeOf yX4_sizeOf, .code yX4_sizeOf cX4_sizeOf 2 (some .int), .fieldLink RX4 28 "GateSums$Stages" "known" "I", .fieldLink RX4 9 "GateSums$Stages" "sizes" "[I"] ++ wsX40)
def wsX4_dearestOf_r1 : List Cond := [Cond.methodLink RX4 110 yX4_sizeOf, Cond.instanceMethod yX4_sizeOf, Cond.selects RX4 yX4_sizeOf yX4_sizeOf, Cond.initialized RX4, Cond.code yX4_sizeOf cX4_sizeOf 2 (some .int), Cond.fieldLink RX4 28 "GateSums$Stages" "known" "I", Cond.fieldLink RX4 9 "GateSums$Stages" "sizes" "[I", Cond.static yX6_at, Cond.initialized RX6, Cond.code yX6_at cX6_at 2 (some .int), Cond.methodLink RX4 142 yX4_dearerThan, Cond.instanceMethod yX4_dearerThan, Cond.selects RX4 yX4_dearerThan yX4_dearerThan, Cond.code yX4_dearerThan cX4_dearerThan 7 (some .int), Cond.methodLink RX4 145 Lib.Math.abs.name, Cond.static Lib.Math.abs.name, Cond.initialized "java/lang/Math", Cond.code Lib.Math.abs.name Lib.Math.abs.code 1 (some .int), Cond.methodLink RX4 117 yX4_coefficientAt, Cond.instanceMethod yX4_coefficientAt, Cond.selects RX4 yX4_coefficientAt yX4_coefficientAt, Cond.code yX4_coefficientAt cX4_coefficientAt 3 (some .int), Cond.fieldLink RX4 18 "GateSums$Stages" "coefficients" "[I", Cond.methodLink RX4 113 yX4_setAt]
def wsX4_dearestOf_r2 : List Cond := [Cond.instanceMethod yX4_setAt, Cond.selects RX4 yX4_setAt yX4_setAt, Cond.code yX4_setAt cX4_setAt 3 (some .int), Cond.fieldLink RX4 15 "GateSums$Stages" "sets" "[I"]
def wsX4_dearestOf : List Cond := .code yX4_dearestOf cX4_dearestOf 4 (some .int) :: ((wsX4_dearestOf_r1 ++ wsX4_dearestOf_r2) ++ wsX40)
def wsX5_append : List Cond := .code yX5_append cX5_append 2 (some .boolean) :: ([.fieldLink RX5 15 "GateSums$Text" "length" "I", .fieldLink RX5 9 "GateSums$Text" "bytes" "[B"] ++ wsX50)
def wsX6_init_r1 : List Cond := [Cond.methodLink RX6 3 objectInit, Cond.instanceMethod objectInit, Cond.code objectInit ⟨#[0xb1]⟩ 1 none, Cond.classLink RX6 9 RX3, Cond.instantiable RX3 4, Cond.initialized RX3, Cond.fieldLink RX6 12 "GateSums" "reader" "LGateSums$Reader;", Cond.classLink RX6 16 RX0, Cond.instantiable RX0 11, Cond.initialized RX0, Cond.fieldLink RX6 19 "GateSums" "circuit" "LGateSums$Circuit;", Cond.fieldLink RX6 23 "GateSums" "draft" "LGateSums$Circuit;", Cond.classLink RX6 26 RX1, Cond.instantiable RX1 1, Cond.initialized RX1, Cond.fieldLink RX6 29 "GateSums" "columns" "LGateSums$Columns;", Cond.fieldLink RX6 33 "GateSums" "trial" "LGateSums$Columns;", Cond.classLink RX6 36 RX4, Cond.instantiable RX4 6, Cond.initialized RX4, Cond.fieldLink RX6 39 "GateSums" "stages" "LGateSums$Stages;", Cond.instanceMethod yX3_init, Cond.code yX3_init cX3_init 1 none, Cond.methodLink RX3 3 objectInit]
def wsX6_init_r2 : List Cond := [Cond.classLink RX3 9 RX5, Cond.instantiable RX5 2, Cond.initialized RX5, Cond.fieldLink RX3 12 "GateSums$Reader" "text" "LGateSums$Text;", Cond.instanceMethod yX5_init, Cond.code yX5_init cX5_init 1 none, Cond.methodLink RX5 3 objectInit, Cond.arrayClass .byte, Cond.fieldLink RX5 9 "GateSums$Text" "bytes" "[B", Cond.instanceMethod yX0_init, Cond.code yX0_init cX0_init 1 none, Cond.methodLink RX0 3 objectInit, Cond.arrayClass .int, Cond.fieldLink RX0 9 "GateSums$Circuit" "kinds" "[I", Cond.fieldLink RX0 15 "GateSums$Circuit" "xs" "[I", Cond.fieldLink RX0 18 "GateSums$Circuit" "ys" "[I", Cond.fieldLink RX0 21 "GateSums$Circuit" "places" "[I", Cond.instanceMethod yX1_init, Cond.code yX1_init cX1_init 1 none, Cond.methodLink RX1 3 objectInit, Cond.arrayClass .long, Cond.fieldLink RX1 9 "GateSums$Columns" "rows" "[J", Cond.instanceMethod yX4_init, Cond.code yX4_init cX4_init 1 none]
def wsX6_init_r3 : List Cond := [Cond.methodLink RX4 3 objectInit, Cond.fieldLink RX4 9 "GateSums$Stages" "sizes" "[I", Cond.fieldLink RX4 15 "GateSums$Stages" "sets" "[I", Cond.fieldLink RX4 18 "GateSums$Stages" "coefficients" "[I", Cond.classLink RX4 21 RX2, Cond.instantiable RX2 3, Cond.initialized RX2, Cond.fieldLink RX4 24 "GateSums$Stages" "work" "LGateSums$Polynomial;", Cond.instanceMethod yX2_init, Cond.code yX2_init cX2_init 1 none, Cond.methodLink RX2 3 objectInit, Cond.fieldLink RX2 11 "GateSums$Polynomial" "sets" "[I", Cond.fieldLink RX2 15 "GateSums$Polynomial" "coefficients" "[I"]
def wsX6_init : List Cond := .code yX6_init cX6_init 1 none :: ((wsX6_init_r1 ++ (wsX6_init_r2 ++ wsX6_init_r3)) ++ wsX30 ++ wsX60 ++ wsX00 ++ wsX10 ++ wsX40 ++ wsX50 ++ wsX20)
def wsX6_refused : List Cond := .code yX6_refused cX6_refused 2 (some .int) :: ([.fieldLink RX6 237 "GateSums" "bads" "I", .fieldLink RX6 240 "GateSums" "noes" "I", .fieldLink RX6 243 "GateSums" "fulls" "I"] ++ wsX60)
def wsX6_type : List Cond := .code yX6_type cX6_type 2 (some .int) :: ([.fieldLink RX6 12 "GateSums" "reader" "LGateSums$Reader;", .fieldLink RX6 47 "GateSums$Reader" "text" "LGateSums$Text;", .fieldLink RX6 57 "GateSums$Text" "length" "I", .methodLink RX6 43 yX6_refused, .instanceMethod yX6_refused, .selects RX6 yX6_refused yX6_refused, .initialized RX6, .code yX6_refused cX6_refused 2 (some .int), .fieldLink RX6 237 "GateSums" "bads" "I", .fieldLink RX6 240 "GateSums" "noes" "I", .fieldLink RX6 243 "GateSums" "fulls" "I", .methodLink RX6 51 yX5_append, .instanceMethod yX5_append, .selects RX5 yX5_append yX5_append, .initialized RX5, .code yX5_append cX5_append 2 (some .boolean), .fieldLink RX5 15 "GateSums$Text" "length" "I", .fieldLink RX5 9 "GateSums$Text" "bytes" "[B"] ++ wsX60 ++ wsX30 ++ wsX50)
def wsX6_clear : List Cond := .code yX6_clear cX6_clear 2 (some .int) :: ([.fieldLink RX6 12 "GateSums" "reader" "LGateSums$Reader;", .fieldLink RX6 47 "GateSums$Reader" "text" "LGateSums$Text;", .fieldLink RX6 57 "GateSums$Text" "length" "I"] ++ wsX60 ++ wsX30 ++ wsX50)
def wsX6_changed_r1 : List Cond := [Cond.fieldLink RX6 29 "GateSums" "columns" "LGateSums$Columns;", Cond.fieldLink RX6 19 "GateSums" "circuit" "LGateSums$Circuit;", Cond.fieldLink RX6 39 "GateSums" "stages" "LGateSums$Stages;", Cond.fieldLink RX6 197 "GateSums$Circuit" "gates" "I", Cond.methodLink RX6 193 yX1_fill, Cond.instanceMethod yX1_fill, Cond.selects RX1 yX1_fill yX1_fill, Cond.initialized RX1, Cond.code yX1_fill cX1_fill 6 none, Cond.fieldLink RX1 15 "GateSums$Circuit" "inputs" "I", Cond.fieldLink RX1 21 "GateSums$Columns" "INPUT_COLUMNS" "[J", Cond.fieldLink RX1 9 "GateSums$Columns" "rows" "[J", Cond.fieldLink RX1 24 "GateSums$Circuit" "gates" "I", Cond.methodLink RX1 27 yX0_kindOf, Cond.instanceMethod yX0_kindOf, Cond.selects RX0 yX0_kindOf yX0_kindOf, Cond.initialized RX0, Cond.code yX0_kindOf cX0_kindOf 2 (some .int), Cond.fieldLink RX0 9 "GateSums$Circuit" "kinds" "[I", Cond.static yX6_at, Cond.initialized RX6, Cond.code yX6_at cX6_at 2 (some .int), Cond.methodLink RX1 31 yX1_column, Cond.instanceMethod yX1_column]
def wsX6_changed_r2 : List Cond := [Cond.selects RX1 yX1_column yX1_column, Cond.code yX1_column cX1_column 8 (some .long), Cond.constantLong RX1 45 (-1), Cond.methodLink RX1 35 yX0_xOf, Cond.instanceMethod yX0_xOf, Cond.selects RX0 yX0_xOf yX0_xOf, Cond.code yX0_xOf cX0_xOf 2 (some .int), Cond.fieldLink RX0 15 "GateSums$Circuit" "xs" "[I", Cond.methodLink RX1 38 yX1_row, Cond.instanceMethod yX1_row, Cond.selects RX1 yX1_row yX1_row, Cond.code yX1_row cX1_row 2 (some .long), Cond.methodLink RX1 42 yX0_yOf, Cond.instanceMethod yX0_yOf, Cond.selects RX0 yX0_yOf yX0_yOf, Cond.code yX0_yOf cX0_yOf 2 (some .int), Cond.fieldLink RX0 18 "GateSums$Circuit" "ys" "[I", Cond.methodLink RX6 267 yX4_forget, Cond.instanceMethod yX4_forget, Cond.selects RX4 yX4_forget yX4_forget, Cond.initialized RX4, Cond.code yX4_forget cX4_forget 1 none, Cond.fieldLink RX4 28 "GateSums$Stages" "known" "I", Cond.fieldLink RX4 32 "GateSums$Stages" "burst" "Z"]
def wsX6_changed : List Cond := .code yX6_changed cX6_changed 1 (some .int) :: ((wsX6_changed_r1 ++ wsX6_changed_r2) ++ wsX60 ++ wsX00 ++ wsX10 ++ wsX40)
def wsX6_reads_r1 : List Cond := [Cond.fieldLink RX6 12 "GateSums" "reader" "LGateSums$Reader;", Cond.fieldLink RX6 23 "GateSums" "draft" "LGateSums$Circuit;", Cond.fieldLink RX6 19 "GateSums" "circuit" "LGateSums$Circuit;", Cond.methodLink RX6 61 yX3_faultOf, Cond.instanceMethod yX3_faultOf, Cond.selects RX3 yX3_faultOf yX3_faultOf, Cond.initialized RX3, Cond.code yX3_faultOf cX3_faultOf 3 (some .int), Cond.fieldLink RX3 18 "GateSums$Reader" "to" "I", Cond.fieldLink RX3 38 "GateSums$Reader" "sort" "I", Cond.fieldLink RX3 41 "GateSums$Reader" "from" "I", Cond.methodLink RX3 22 yX3_advance, Cond.instanceMethod yX3_advance, Cond.selects RX3 yX3_advance yX3_advance, Cond.code yX3_advance cX3_advance 2 none, Cond.fieldLink RX3 12 "GateSums$Reader" "text" "LGateSums$Text;", Cond.fieldLink RX3 144 "GateSums$Text" "length" "I", Cond.methodLink RX3 136 yX5_byteAt, Cond.instanceMethod yX5_byteAt, Cond.selects RX5 yX5_byteAt yX5_byteAt, Cond.initialized RX5, Cond.code yX5_byteAt cX5_byteAt 2 (some .int), Cond.fieldLink RX5 15 "GateSums$Text" "length" "I", Cond.fieldLink RX5 9 "GateSums$Text" "bytes" "[B"]
def wsX6_reads_r2 : List Cond := [Cond.methodLink RX3 146 yX3_sortOf, Cond.static yX3_sortOf, Cond.code yX3_sortOf cX3_sortOf 2 (some .int), Cond.methodLink RX3 25 yX3_readInputs, Cond.instanceMethod yX3_readInputs, Cond.selects RX3 yX3_readInputs yX3_readInputs, Cond.code yX3_readInputs cX3_readInputs 3 (some .boolean), Cond.methodLink RX3 46 yX3_takeWord, Cond.instanceMethod yX3_takeWord, Cond.selects RX3 yX3_takeWord yX3_takeWord, Cond.code yX3_takeWord cX3_takeWord 2 (some .boolean), Cond.methodLink RX3 101 yX3_isWord, Cond.instanceMethod yX3_isWord, Cond.selects RX3 yX3_isWord yX3_isWord, Cond.code yX3_isWord cX3_isWord 3 (some .boolean), Cond.methodLink RX3 131 yJ0_length_8abf5, Cond.instanceMethod yJ0_length_8abf5, Cond.selects RJ0 yJ0_length_8abf5 yJ0_length_8abf5, Cond.initialized RJ0, Cond.code yJ0_length_8abf5 cJ0_length_8abf5 1 (some .int), Cond.fieldLink RJ0 9 "java/lang/String" "value" "[B", Cond.methodLink RJ0 335 yJ0_coder_7d493, Cond.instanceMethod yJ0_coder_7d493, Cond.selects RJ0 yJ0_coder_7d493 yJ0_coder_7d493]
def wsX6_reads_r3 : List Cond := [Cond.code yJ0_coder_7d493 cJ0_coder_7d493 1 (some .byte), Cond.fieldLink RJ0 38 "java/lang/String" "COMPACT_STRINGS" "Z", Cond.fieldLink RJ0 15 "java/lang/String" "coder" "B", Cond.methodLink RX3 140 yJ0_charAt_5068e, Cond.instanceMethod yJ0_charAt_5068e, Cond.selects RJ0 yJ0_charAt_5068e yJ0_charAt_5068e, Cond.code yJ0_charAt_5068e cJ0_charAt_5068e 2 (some .char), Cond.methodLink RJ0 492 yJ0_isLatin1_aae02, Cond.instanceMethod yJ0_isLatin1_aae02, Cond.selects RJ0 yJ0_isLatin1_aae02 yJ0_isLatin1_aae02, Cond.code yJ0_isLatin1_aae02 cJ0_isLatin1_aae02 1 (some .boolean), Cond.methodLink RJ0 495 yJ1_charAt_3b067, Cond.static yJ1_charAt_3b067, Cond.initialized RJ1, Cond.code yJ1_charAt_3b067 cJ1_charAt_3b067 2 (some .char), Cond.methodLink RJ1 9 yJ0_checkIndex_df160, Cond.static yJ0_checkIndex_df160, Cond.code yJ0_checkIndex_df160 cJ0_checkIndex_df160 2 none, Cond.fieldLink RJ0 1053 "jdk/internal/util/Preconditions" "SIOOBE_FORMATTER" "Ljava/util/function/BiFunction;", Cond.methodLink RJ0 1059 yJ3_checkIndex_8e157, Cond.static yJ3_checkIndex_8e157, Cond.initialized RJ3, Cond.code yJ3_checkIndex_8e157 cJ3_checkIndex_8e157 3 (some .int), Cond.methodLink RJ0 498 yJ2_charAt_3b067]
def wsX6_reads_r4 : List Cond := [Cond.static yJ2_charAt_3b067, Cond.initialized RJ2, Cond.code yJ2_charAt_3b067 cJ2_charAt_3b067 2 (some .char), Cond.methodLink RJ2 67 yJ2_checkIndex_2214a, Cond.static yJ2_checkIndex_2214a, Cond.code yJ2_checkIndex_2214a cJ2_checkIndex_2214a 2 none, Cond.methodLink RJ2 48 yJ2_length_9d52b, Cond.static yJ2_length_9d52b, Cond.code yJ2_length_9d52b cJ2_length_9d52b 1 (some .int), Cond.methodLink RJ2 414 yJ0_checkIndex_df160, Cond.methodLink RJ2 71 yJ2_getChar_3b067, Cond.static yJ2_getChar_3b067, Cond.code yJ2_getChar_3b067 cJ2_getChar_3b067 2 (some .char), Cond.fieldLink RJ2 44 "java/lang/StringUTF16" "$assertionsDisabled" "Z", Cond.fieldLink RJ2 59 "java/lang/StringUTF16" "HI_BYTE_SHIFT" "I", Cond.fieldLink RJ2 63 "java/lang/StringUTF16" "LO_BYTE_SHIFT" "I", Cond.methodLink RX3 50 yX3_takeNumber, Cond.instanceMethod yX3_takeNumber, Cond.selects RX3 yX3_takeNumber yX3_takeNumber, Cond.code yX3_takeNumber cX3_takeNumber 5 (some .int), Cond.methodLink RX3 54 yX0_begin, Cond.instanceMethod yX0_begin, Cond.selects RX0 yX0_begin yX0_begin, Cond.initialized RX0]
def wsX6_reads_r5 : List Cond := [Cond.code yX0_begin cX0_begin 2 none, Cond.fieldLink RX0 24 "GateSums$Circuit" "there" "Z", Cond.fieldLink RX0 28 "GateSums$Circuit" "inputs" "I", Cond.fieldLink RX0 32 "GateSums$Circuit" "gates" "I", Cond.fieldLink RX0 35 "GateSums$Circuit" "outputs" "I", Cond.methodLink RX3 60 yX3_takeSemicolon, Cond.instanceMethod yX3_takeSemicolon, Cond.selects RX3 yX3_takeSemicolon yX3_takeSemicolon, Cond.code yX3_takeSemicolon cX3_takeSemicolon 1 (some .boolean), Cond.methodLink RX3 29 yX3_readGates, Cond.instanceMethod yX3_readGates, Cond.selects RX3 yX3_readGates yX3_readGates, Cond.code yX3_readGates cX3_readGates 3 (some .boolean), Cond.methodLink RX3 66 yX3_readGate, Cond.instanceMethod yX3_readGate, Cond.selects RX3 yX3_readGate yX3_readGate, Cond.code yX3_readGate cX3_readGate 6 (some .boolean), Cond.methodLink RX3 69 yX3_gateKind, Cond.instanceMethod yX3_gateKind, Cond.selects RX3 yX3_gateKind yX3_gateKind, Cond.code yX3_gateKind cX3_gateKind 2 (some .int), Cond.methodLink RX3 97 yX3_gateWord, Cond.static yX3_gateWord, Cond.code yX3_gateWord cX3_gateWord 1 (some (.object "java/lang/String"))]
def wsX6_reads_r6 : List Cond := [Cond.methodLink RX3 73 yX0_signals, Cond.instanceMethod yX0_signals, Cond.selects RX0 yX0_signals yX0_signals, Cond.code yX0_signals cX0_signals 1 (some .int), Cond.methodLink RX3 76 yX0_addGate, Cond.instanceMethod yX0_addGate, Cond.selects RX0 yX0_addGate yX0_addGate, Cond.code yX0_addGate cX0_addGate 4 (some .int), Cond.fieldLink RX0 9 "GateSums$Circuit" "kinds" "[I", Cond.fieldLink RX0 15 "GateSums$Circuit" "xs" "[I", Cond.fieldLink RX0 18 "GateSums$Circuit" "ys" "[I", Cond.static yX6_put, Cond.initialized RX6, Cond.code yX6_put cX6_put 3 none, Cond.methodLink RX0 42 yX0_signals, Cond.methodLink RX3 32 yX3_readOutputs, Cond.instanceMethod yX3_readOutputs, Cond.selects RX3 yX3_readOutputs yX3_readOutputs, Cond.code yX3_readOutputs cX3_readOutputs 5 (some .boolean), Cond.methodLink RX3 82 yX0_addOutput, Cond.instanceMethod yX0_addOutput, Cond.selects RX0 yX0_addOutput yX0_addOutput, Cond.code yX0_addOutput cX0_addOutput 2 none, Cond.fieldLink RX0 21 "GateSums$Circuit" "places" "[I"]
def wsX6_reads_r7 : List Cond := [Cond.methodLink RX3 35 yX3_readTask, Cond.instanceMethod yX3_readTask, Cond.selects RX3 yX3_readTask yX3_readTask, Cond.code yX3_readTask cX3_readTask 5 (some .boolean), Cond.fieldLink RX3 90 "GateSums$Circuit" "inputs" "I", Cond.methodLink RX3 87 yX3_taskKind, Cond.instanceMethod yX3_taskKind, Cond.selects RX3 yX3_taskKind yX3_taskKind, Cond.code yX3_taskKind cX3_taskKind 2 (some .int), Cond.methodLink RX3 104 yX3_taskWord, Cond.static yX3_taskWord, Cond.code yX3_taskWord cX3_taskWord 1 (some (.object "java/lang/String")), Cond.methodLink RX3 93 yX0_end, Cond.instanceMethod yX0_end, Cond.selects RX0 yX0_end yX0_end, Cond.code yX0_end cX0_end 4 none, Cond.fieldLink RX0 46 "GateSums$Circuit" "task" "I", Cond.fieldLink RX0 49 "GateSums$Circuit" "p" "I", Cond.fieldLink RX0 52 "GateSums$Circuit" "q" "I", Cond.methodLink RX6 65 yX0_become, Cond.instanceMethod yX0_become, Cond.selects RX0 yX0_become yX0_become, Cond.code yX0_become cX0_become 3 none, Cond.methodLink RX0 55 yX0_begin]
def wsX6_reads_r8 : List Cond := [Cond.methodLink RX0 59 yX0_kindOf, Cond.instanceMethod yX0_kindOf, Cond.selects RX0 yX0_kindOf yX0_kindOf, Cond.code yX0_kindOf cX0_kindOf 2 (some .int), Cond.static yX6_at, Cond.code yX6_at cX6_at 2 (some .int), Cond.methodLink RX0 63 yX0_xOf, Cond.instanceMethod yX0_xOf, Cond.selects RX0 yX0_xOf yX0_xOf, Cond.code yX0_xOf cX0_xOf 2 (some .int), Cond.methodLink RX0 66 yX0_yOf, Cond.instanceMethod yX0_yOf, Cond.selects RX0 yX0_yOf yX0_yOf, Cond.code yX0_yOf cX0_yOf 2 (some .int), Cond.methodLink RX0 69 yX0_addGate, Cond.methodLink RX0 73 yX0_outputAt, Cond.instanceMethod yX0_outputAt, Cond.selects RX0 yX0_outputAt yX0_outputAt, Cond.code yX0_outputAt cX0_outputAt 2 (some .int), Cond.methodLink RX0 76 yX0_addOutput, Cond.methodLink RX0 79 yX0_end, Cond.methodLink RX6 69 yX6_changed, Cond.instanceMethod yX6_changed, Cond.selects RX6 yX6_changed yX6_changed]
def wsX6_reads_r9 : List Cond := [Cond.code yX6_changed cX6_changed 1 (some .int), Cond.fieldLink RX6 29 "GateSums" "columns" "LGateSums$Columns;", Cond.fieldLink RX6 39 "GateSums" "stages" "LGateSums$Stages;", Cond.fieldLink RX6 197 "GateSums$Circuit" "gates" "I", Cond.methodLink RX6 193 yX1_fill, Cond.instanceMethod yX1_fill, Cond.selects RX1 yX1_fill yX1_fill, Cond.initialized RX1, Cond.code yX1_fill cX1_fill 6 none, Cond.fieldLink RX1 15 "GateSums$Circuit" "inputs" "I", Cond.fieldLink RX1 21 "GateSums$Columns" "INPUT_COLUMNS" "[J", Cond.fieldLink RX1 9 "GateSums$Columns" "rows" "[J", Cond.fieldLink RX1 24 "GateSums$Circuit" "gates" "I", Cond.methodLink RX1 27 yX0_kindOf, Cond.methodLink RX1 31 yX1_column, Cond.instanceMethod yX1_column, Cond.selects RX1 yX1_column yX1_column, Cond.code yX1_column cX1_column 8 (some .long), Cond.constantLong RX1 45 (-1), Cond.methodLink RX1 35 yX0_xOf, Cond.methodLink RX1 38 yX1_row, Cond.instanceMethod yX1_row, Cond.selects RX1 yX1_row yX1_row, Cond.code yX1_row cX1_row 2 (some .long)]
def wsX6_reads_r10 : List Cond := [Cond.methodLink RX1 42 yX0_yOf, Cond.methodLink RX6 267 yX4_forget, Cond.instanceMethod yX4_forget, Cond.selects RX4 yX4_forget yX4_forget, Cond.initialized RX4, Cond.code yX4_forget cX4_forget 1 none, Cond.fieldLink RX4 28 "GateSums$Stages" "known" "I", Cond.fieldLink RX4 32 "GateSums$Stages" "burst" "Z"]
def wsX6_reads : List Cond := .code yX6_reads cX6_reads 2 (some .int) :: ((wsX6_reads_r1 ++ (wsX6_reads_r2 ++ (wsX6_reads_r3 ++ (wsX6_reads_r4 ++ (wsX6_reads_r5 ++ (wsX6_reads_r6 ++ (wsX6_reads_r7 ++ (wsX6_reads_r8 ++ (wsX6_reads_r9 ++ wsX6_reads_r10))))))))) ++ wsX60 ++ wsX30 ++ wsX50 ++ wsX00 ++ wsX10 ++ wsX40)
def wsX6_isGate : List Cond := .code yX6_isGate cX6_isGate 2 (some .boolean) :: ([.fieldLink RX6 19 "GateSums" "circuit" "LGateSums$Circuit;", .fieldLink RX6 256 "GateSums$Circuit" "there" "Z", .fieldLink RX6 197 "GateSums$Circuit" "gates" "I"] ++ wsX60 ++ wsX00)
def wsX6_refusal : List Cond := .code yX6_refusal cX6_refusal 2 (some .int) :: ([.fieldLink RX6 19 "GateSums" "circuit" "LGateSums$Circuit;", .fieldLink RX6 256 "GateSums$Circuit" "there" "Z", .methodLink RX6 43 yX6_refused, .instanceMethod yX6_refused, .selects RX6 yX6_refused yX6_refused, .initialized RX6, .code yX6_refused cX6_refused 2 (some .int), .fieldLink RX6 237 "GateSums" "bads" "I", .fieldLink RX6 240 "GateSums" "noes" "I", .fieldLink RX6 243 "GateSums" "fulls" "I"] ++ wsX60 ++ wsX00)
def wsX6_kind_r1 : List Cond := [Cond.fieldLink RX6 19 "GateSums" "circuit" "LGateSums$Circuit;", Cond.fieldLink RX6 87 "GateSums$Circuit" "kinds" "[I", Cond.methodLink RX6 73 yX6_isGate, Cond.instanceMethod yX6_isGate, Cond.selects RX6 yX6_isGate yX6_isGate, Cond.initialized RX6, Cond.code yX6_isGate cX6_isGate 2 (some .boolean), Cond.fieldLink RX6 256 "GateSums$Circuit" "there" "Z", Cond.fieldLink RX6 197 "GateSums$Circuit" "gates" "I", Cond.methodLink RX6 76 yX0_mayPut, Cond.instanceMethod yX0_mayPut, Cond.selects RX0 yX0_mayPut yX0_mayPut, Cond.initialized RX0, Cond.code yX0_mayPut cX0_mayPut 3 (some .boolean), Cond.fieldLink RX0 24 "GateSums$Circuit" "there" "Z", Cond.methodLink RX0 59 yX0_kindOf, Cond.instanceMethod yX0_kindOf, Cond.selects RX0 yX0_kindOf yX0_kindOf, Cond.code yX0_kindOf cX0_kindOf 2 (some .int), Cond.fieldLink RX0 9 "GateSums$Circuit" "kinds" "[I", Cond.static yX6_at, Cond.code yX6_at cX6_at 2 (some .int), Cond.methodLink RX6 80 yX6_refusal, Cond.instanceMethod yX6_refusal]
def wsX6_kind_r2 : List Cond := [Cond.selects RX6 yX6_refusal yX6_refusal, Cond.code yX6_refusal cX6_refusal 2 (some .int), Cond.methodLink RX6 43 yX6_refused, Cond.instanceMethod yX6_refused, Cond.selects RX6 yX6_refused yX6_refused, Cond.code yX6_refused cX6_refused 2 (some .int), Cond.fieldLink RX6 237 "GateSums" "bads" "I", Cond.fieldLink RX6 240 "GateSums" "noes" "I", Cond.fieldLink RX6 243 "GateSums" "fulls" "I", Cond.methodLink RX6 84 yX0_kindOf, Cond.methodLink RX6 91 yX6_put, Cond.static yX6_put, Cond.code yX6_put cX6_put 3 none, Cond.methodLink RX6 69 yX6_changed, Cond.instanceMethod yX6_changed, Cond.selects RX6 yX6_changed yX6_changed, Cond.code yX6_changed cX6_changed 1 (some .int), Cond.fieldLink RX6 29 "GateSums" "columns" "LGateSums$Columns;", Cond.fieldLink RX6 39 "GateSums" "stages" "LGateSums$Stages;", Cond.methodLink RX6 193 yX1_fill, Cond.instanceMethod yX1_fill, Cond.selects RX1 yX1_fill yX1_fill, Cond.initialized RX1, Cond.code yX1_fill cX1_fill 6 none]
def wsX6_kind_r3 : List Cond := [Cond.fieldLink RX1 15 "GateSums$Circuit" "inputs" "I", Cond.fieldLink RX1 21 "GateSums$Columns" "INPUT_COLUMNS" "[J", Cond.fieldLink RX1 9 "GateSums$Columns" "rows" "[J", Cond.fieldLink RX1 24 "GateSums$Circuit" "gates" "I", Cond.methodLink RX1 27 yX0_kindOf, Cond.methodLink RX1 31 yX1_column, Cond.instanceMethod yX1_column, Cond.selects RX1 yX1_column yX1_column, Cond.code yX1_column cX1_column 8 (some .long), Cond.constantLong RX1 45 (-1), Cond.methodLink RX1 35 yX0_xOf, Cond.instanceMethod yX0_xOf, Cond.selects RX0 yX0_xOf yX0_xOf, Cond.code yX0_xOf cX0_xOf 2 (some .int), Cond.fieldLink RX0 15 "GateSums$Circuit" "xs" "[I", Cond.methodLink RX1 38 yX1_row, Cond.instanceMethod yX1_row, Cond.selects RX1 yX1_row yX1_row, Cond.code yX1_row cX1_row 2 (some .long), Cond.methodLink RX1 42 yX0_yOf, Cond.instanceMethod yX0_yOf, Cond.selects RX0 yX0_yOf yX0_yOf, Cond.code yX0_yOf cX0_yOf 2 (some .int), Cond.fieldLink RX0 18 "GateSums$Circuit" "ys" "[I"]
def wsX6_kind_r4 : List Cond := [Cond.methodLink RX6 267 yX4_forget, Cond.instanceMethod yX4_forget, Cond.selects RX4 yX4_forget yX4_forget, Cond.initialized RX4, Cond.code yX4_forget cX4_forget 1 none, Cond.fieldLink RX4 28 "GateSums$Stages" "known" "I", Cond.fieldLink RX4 32 "GateSums$Stages" "burst" "Z"]
def wsX6_kind : List Cond := .code yX6_kind cX6_kind 5 (some .int) :: ((wsX6_kind_r1 ++ (wsX6_kind_r2 ++ (wsX6_kind_r3 ++ wsX6_kind_r4))) ++ wsX60 ++ wsX00 ++ wsX10 ++ wsX40)
def wsX6_isWay : List Cond := .code yX6_isWay cX6_isWay 3 (some .boolean) :: ([.fieldLink RX6 19 "GateSums" "circuit" "LGateSums$Circuit;", .fieldLink RX6 256 "GateSums$Circuit" "there" "Z", .methodLink RX6 84 yX0_kindOf, .instanceMethod yX0_kindOf, .selects RX0 yX0_kindOf yX0_kindOf, .initialized RX0, .code yX0_kindOf cX0_kindOf 2 (some .int), .fieldLink RX0 9 "GateSums$Circuit" "kinds" "[I", .static yX6_at, .initialized RX6, .code yX6_at cX6_at 2 (some .int)] ++ wsX60 ++ wsX00)
def wsX6_isAhead : List Cond := .code yX6_isAhead cX6_isAhead 3 (some .boolean) :: ([.fieldLink RX6 19 "GateSums" "circuit" "LGateSums$Circuit;", .fieldLink RX6 256 "GateSums$Circuit" "there" "Z", .fieldLink RX6 117 "GateSums$Circuit" "inputs" "I"] ++ wsX60 ++ wsX00)
def wsX6_wire_r1 : List Cond := [Cond.fieldLink RX6 19 "GateSums" "circuit" "LGateSums$Circuit;", Cond.fieldLink RX6 101 "GateSums$Circuit" "xs" "[I", Cond.fieldLink RX6 104 "GateSums$Circuit" "ys" "[I", Cond.methodLink RX6 73 yX6_isGate, Cond.instanceMethod yX6_isGate, Cond.selects RX6 yX6_isGate yX6_isGate, Cond.initialized RX6, Cond.code yX6_isGate cX6_isGate 2 (some .boolean), Cond.fieldLink RX6 256 "GateSums$Circuit" "there" "Z", Cond.fieldLink RX6 197 "GateSums$Circuit" "gates" "I", Cond.methodLink RX6 95 yX6_isWay, Cond.instanceMethod yX6_isWay, Cond.selects RX6 yX6_isWay yX6_isWay, Cond.code yX6_isWay cX6_isWay 3 (some .boolean), Cond.methodLink RX6 84 yX0_kindOf, Cond.instanceMethod yX0_kindOf, Cond.selects RX0 yX0_kindOf yX0_kindOf, Cond.initialized RX0, Cond.code yX0_kindOf cX0_kindOf 2 (some .int), Cond.fieldLink RX0 9 "GateSums$Circuit" "kinds" "[I", Cond.static yX6_at, Cond.code yX6_at cX6_at 2 (some .int), Cond.methodLink RX6 98 yX6_isAhead, Cond.instanceMethod yX6_isAhead]
def wsX6_wire_r2 : List Cond := [Cond.selects RX6 yX6_isAhead yX6_isAhead, Cond.code yX6_isAhead cX6_isAhead 3 (some .boolean), Cond.fieldLink RX6 117 "GateSums$Circuit" "inputs" "I", Cond.methodLink RX6 80 yX6_refusal, Cond.instanceMethod yX6_refusal, Cond.selects RX6 yX6_refusal yX6_refusal, Cond.code yX6_refusal cX6_refusal 2 (some .int), Cond.methodLink RX6 43 yX6_refused, Cond.instanceMethod yX6_refused, Cond.selects RX6 yX6_refused yX6_refused, Cond.code yX6_refused cX6_refused 2 (some .int), Cond.fieldLink RX6 237 "GateSums" "bads" "I", Cond.fieldLink RX6 240 "GateSums" "noes" "I", Cond.fieldLink RX6 243 "GateSums" "fulls" "I", Cond.methodLink RX6 107 yX6_at, Cond.methodLink RX6 91 yX6_put, Cond.static yX6_put, Cond.code yX6_put cX6_put 3 none, Cond.methodLink RX6 69 yX6_changed, Cond.instanceMethod yX6_changed, Cond.selects RX6 yX6_changed yX6_changed, Cond.code yX6_changed cX6_changed 1 (some .int), Cond.fieldLink RX6 29 "GateSums" "columns" "LGateSums$Columns;", Cond.fieldLink RX6 39 "GateSums" "stages" "LGateSums$Stages;"]
def wsX6_wire_r3 : List Cond := [Cond.methodLink RX6 193 yX1_fill, Cond.instanceMethod yX1_fill, Cond.selects RX1 yX1_fill yX1_fill, Cond.initialized RX1, Cond.code yX1_fill cX1_fill 6 none, Cond.fieldLink RX1 15 "GateSums$Circuit" "inputs" "I", Cond.fieldLink RX1 21 "GateSums$Columns" "INPUT_COLUMNS" "[J", Cond.fieldLink RX1 9 "GateSums$Columns" "rows" "[J", Cond.fieldLink RX1 24 "GateSums$Circuit" "gates" "I", Cond.methodLink RX1 27 yX0_kindOf, Cond.methodLink RX1 31 yX1_column, Cond.instanceMethod yX1_column, Cond.selects RX1 yX1_column yX1_column, Cond.code yX1_column cX1_column 8 (some .long), Cond.constantLong RX1 45 (-1), Cond.methodLink RX1 35 yX0_xOf, Cond.instanceMethod yX0_xOf, Cond.selects RX0 yX0_xOf yX0_xOf, Cond.code yX0_xOf cX0_xOf 2 (some .int), Cond.fieldLink RX0 15 "GateSums$Circuit" "xs" "[I", Cond.methodLink RX1 38 yX1_row, Cond.instanceMethod yX1_row, Cond.selects RX1 yX1_row yX1_row, Cond.code yX1_row cX1_row 2 (some .long)]
def wsX6_wire_r4 : List Cond := [Cond.methodLink RX1 42 yX0_yOf, Cond.instanceMethod yX0_yOf, Cond.selects RX0 yX0_yOf yX0_yOf, Cond.code yX0_yOf cX0_yOf 2 (some .int), Cond.fieldLink RX0 18 "GateSums$Circuit" "ys" "[I", Cond.methodLink RX6 267 yX4_forget, Cond.instanceMethod yX4_forget, Cond.selects RX4 yX4_forget yX4_forget, Cond.initialized RX4, Cond.code yX4_forget cX4_forget 1 none, Cond.fieldLink RX4 28 "GateSums$Stages" "known" "I", Cond.fieldLink RX4 32 "GateSums$Stages" "burst" "Z"]
def wsX6_wire : List Cond := .code yX6_wire cX6_wire 7 (some .int) :: ((wsX6_wire_r1 ++ (wsX6_wire_r2 ++ (wsX6_wire_r3 ++ wsX6_wire_r4))) ++ wsX60 ++ wsX00 ++ wsX10 ++ wsX40)
def wsX6_of_r1 : List Cond := [Cond.fieldLink RX6 19 "GateSums" "circuit" "LGateSums$Circuit;", Cond.fieldLink RX6 117 "GateSums$Circuit" "inputs" "I", Cond.methodLink RX6 73 yX6_isGate, Cond.instanceMethod yX6_isGate, Cond.selects RX6 yX6_isGate yX6_isGate, Cond.initialized RX6, Cond.code yX6_isGate cX6_isGate 2 (some .boolean), Cond.fieldLink RX6 256 "GateSums$Circuit" "there" "Z", Cond.fieldLink RX6 197 "GateSums$Circuit" "gates" "I", Cond.methodLink RX6 80 yX6_refusal, Cond.instanceMethod yX6_refusal, Cond.selects RX6 yX6_refusal yX6_refusal, Cond.code yX6_refusal cX6_refusal 2 (some .int), Cond.methodLink RX6 43 yX6_refused, Cond.instanceMethod yX6_refused, Cond.selects RX6 yX6_refused yX6_refused, Cond.code yX6_refused cX6_refused 2 (some .int), Cond.fieldLink RX6 237 "GateSums" "bads" "I", Cond.fieldLink RX6 240 "GateSums" "noes" "I", Cond.fieldLink RX6 243 "GateSums" "fulls" "I", Cond.methodLink RX6 84 yX0_kindOf, Cond.instanceMethod yX0_kindOf, Cond.selects RX0 yX0_kindOf yX0_kindOf, Cond.initialized RX0]
def wsX6_of_r2 : List Cond := [Cond.code yX0_kindOf cX0_kindOf 2 (some .int), Cond.fieldLink RX0 9 "GateSums$Circuit" "kinds" "[I", Cond.static yX6_at, Cond.code yX6_at cX6_at 2 (some .int), Cond.methodLink RX6 111 yX0_xOf, Cond.instanceMethod yX0_xOf, Cond.selects RX0 yX0_xOf yX0_xOf, Cond.code yX0_xOf cX0_xOf 2 (some .int), Cond.fieldLink RX0 15 "GateSums$Circuit" "xs" "[I", Cond.methodLink RX6 114 yX0_yOf, Cond.instanceMethod yX0_yOf, Cond.selects RX0 yX0_yOf yX0_yOf, Cond.code yX0_yOf cX0_yOf 2 (some .int), Cond.fieldLink RX0 18 "GateSums$Circuit" "ys" "[I", Cond.methodLink RX6 120 yX0_usesOf, Cond.instanceMethod yX0_usesOf, Cond.selects RX0 yX0_usesOf yX0_usesOf, Cond.code yX0_usesOf cX0_usesOf 4 (some .int), Cond.fieldLink RX0 32 "GateSums$Circuit" "gates" "I", Cond.fieldLink RX0 35 "GateSums$Circuit" "outputs" "I", Cond.methodLink RX0 63 yX0_xOf, Cond.methodLink RX0 66 yX0_yOf, Cond.methodLink RX0 73 yX0_outputAt, Cond.instanceMethod yX0_outputAt]
def wsX6_of_r3 : List Cond := [Cond.selects RX0 yX0_outputAt yX0_outputAt, Cond.code yX0_outputAt cX0_outputAt 2 (some .int), Cond.fieldLink RX0 21 "GateSums$Circuit" "places" "[I"]
def wsX6_of : List Cond := .code yX6_of cX6_of 4 (some .int) :: ((wsX6_of_r1 ++ (wsX6_of_r2 ++ wsX6_of_r3)) ++ wsX60 ++ wsX00)
def wsX6_isPlace : List Cond := .code yX6_isPlace cX6_isPlace 2 (some .boolean) :: ([.fieldLink RX6 19 "GateSums" "circuit" "LGateSums$Circuit;", .fieldLink RX6 256 "GateSums$Circuit" "there" "Z", .fieldLink RX6 246 "GateSums$Circuit" "outputs" "I"] ++ wsX60 ++ wsX00)
def wsX6_told_r1 : List Cond := [Cond.fieldLink RX6 19 "GateSums" "circuit" "LGateSums$Circuit;", Cond.fieldLink RX6 129 "GateSums$Circuit" "task" "I", Cond.fieldLink RX6 132 "GateSums$Circuit" "p" "I", Cond.fieldLink RX6 135 "GateSums$Circuit" "q" "I", Cond.methodLink RX6 123 yX6_isPlace, Cond.instanceMethod yX6_isPlace, Cond.selects RX6 yX6_isPlace yX6_isPlace, Cond.initialized RX6, Cond.code yX6_isPlace cX6_isPlace 2 (some .boolean), Cond.fieldLink RX6 256 "GateSums$Circuit" "there" "Z", Cond.fieldLink RX6 246 "GateSums$Circuit" "outputs" "I", Cond.methodLink RX6 80 yX6_refusal, Cond.instanceMethod yX6_refusal, Cond.selects RX6 yX6_refusal yX6_refusal, Cond.code yX6_refusal cX6_refusal 2 (some .int), Cond.methodLink RX6 43 yX6_refused, Cond.instanceMethod yX6_refused, Cond.selects RX6 yX6_refused yX6_refused, Cond.code yX6_refused cX6_refused 2 (some .int), Cond.fieldLink RX6 237 "GateSums" "bads" "I", Cond.fieldLink RX6 240 "GateSums" "noes" "I", Cond.fieldLink RX6 243 "GateSums" "fulls" "I", Cond.methodLink RX6 126 yX0_outputAt, Cond.instanceMethod yX0_outputAt]
def wsX6_told_r2 : List Cond := [Cond.selects RX0 yX0_outputAt yX0_outputAt, Cond.initialized RX0, Cond.code yX0_outputAt cX0_outputAt 2 (some .int), Cond.fieldLink RX0 21 "GateSums$Circuit" "places" "[I", Cond.static yX6_at, Cond.code yX6_at cX6_at 2 (some .int)]
def wsX6_told : List Cond := .code yX6_told cX6_told 5 (some .int) :: ((wsX6_told_r1 ++ wsX6_told_r2) ++ wsX60 ++ wsX00)
def wsX6_adder_r1 : List Cond := [Cond.fieldLink RX6 19 "GateSums" "circuit" "LGateSums$Circuit;", Cond.methodLink RX6 43 yX6_refused, Cond.instanceMethod yX6_refused, Cond.selects RX6 yX6_refused yX6_refused, Cond.initialized RX6, Cond.code yX6_refused cX6_refused 2 (some .int), Cond.fieldLink RX6 237 "GateSums" "bads" "I", Cond.fieldLink RX6 240 "GateSums" "noes" "I", Cond.fieldLink RX6 243 "GateSums" "fulls" "I", Cond.methodLink RX6 138 yX0_begin, Cond.instanceMethod yX0_begin, Cond.selects RX0 yX0_begin yX0_begin, Cond.initialized RX0, Cond.code yX0_begin cX0_begin 2 none, Cond.fieldLink RX0 24 "GateSums$Circuit" "there" "Z", Cond.fieldLink RX0 28 "GateSums$Circuit" "inputs" "I", Cond.fieldLink RX0 32 "GateSums$Circuit" "gates" "I", Cond.fieldLink RX0 35 "GateSums$Circuit" "outputs" "I", Cond.methodLink RX6 142 yX0_addGate, Cond.instanceMethod yX0_addGate, Cond.selects RX0 yX0_addGate yX0_addGate, Cond.code yX0_addGate cX0_addGate 4 (some .int), Cond.fieldLink RX0 9 "GateSums$Circuit" "kinds" "[I", Cond.fieldLink RX0 15 "GateSums$Circuit" "xs" "[I"]
def wsX6_adder_r2 : List Cond := [Cond.fieldLink RX0 18 "GateSums$Circuit" "ys" "[I", Cond.static yX6_put, Cond.code yX6_put cX6_put 3 none, Cond.methodLink RX0 42 yX0_signals, Cond.instanceMethod yX0_signals, Cond.selects RX0 yX0_signals yX0_signals, Cond.code yX0_signals cX0_signals 1 (some .int), Cond.methodLink RX6 146 yX0_addOutput, Cond.instanceMethod yX0_addOutput, Cond.selects RX0 yX0_addOutput yX0_addOutput, Cond.code yX0_addOutput cX0_addOutput 2 none, Cond.fieldLink RX0 21 "GateSums$Circuit" "places" "[I", Cond.methodLink RX6 149 yX0_end, Cond.instanceMethod yX0_end, Cond.selects RX0 yX0_end yX0_end, Cond.code yX0_end cX0_end 4 none, Cond.fieldLink RX0 46 "GateSums$Circuit" "task" "I", Cond.fieldLink RX0 49 "GateSums$Circuit" "p" "I", Cond.fieldLink RX0 52 "GateSums$Circuit" "q" "I", Cond.methodLink RX6 69 yX6_changed, Cond.instanceMethod yX6_changed, Cond.selects RX6 yX6_changed yX6_changed, Cond.code yX6_changed cX6_changed 1 (some .int), Cond.fieldLink RX6 29 "GateSums" "columns" "LGateSums$Columns;"]
def wsX6_adder_r3 : List Cond := [Cond.fieldLink RX6 39 "GateSums" "stages" "LGateSums$Stages;", Cond.fieldLink RX6 197 "GateSums$Circuit" "gates" "I", Cond.methodLink RX6 193 yX1_fill, Cond.instanceMethod yX1_fill, Cond.selects RX1 yX1_fill yX1_fill, Cond.initialized RX1, Cond.code yX1_fill cX1_fill 6 none, Cond.fieldLink RX1 15 "GateSums$Circuit" "inputs" "I", Cond.fieldLink RX1 21 "GateSums$Columns" "INPUT_COLUMNS" "[J", Cond.fieldLink RX1 9 "GateSums$Columns" "rows" "[J", Cond.fieldLink RX1 24 "GateSums$Circuit" "gates" "I", Cond.methodLink RX1 27 yX0_kindOf, Cond.instanceMethod yX0_kindOf, Cond.selects RX0 yX0_kindOf yX0_kindOf, Cond.code yX0_kindOf cX0_kindOf 2 (some .int), Cond.static yX6_at, Cond.code yX6_at cX6_at 2 (some .int), Cond.methodLink RX1 31 yX1_column, Cond.instanceMethod yX1_column, Cond.selects RX1 yX1_column yX1_column, Cond.code yX1_column cX1_column 8 (some .long), Cond.constantLong RX1 45 (-1), Cond.methodLink RX1 35 yX0_xOf, Cond.instanceMethod yX0_xOf]
def wsX6_adder_r4 : List Cond := [Cond.selects RX0 yX0_xOf yX0_xOf, Cond.code yX0_xOf cX0_xOf 2 (some .int), Cond.methodLink RX1 38 yX1_row, Cond.instanceMethod yX1_row, Cond.selects RX1 yX1_row yX1_row, Cond.code yX1_row cX1_row 2 (some .long), Cond.methodLink RX1 42 yX0_yOf, Cond.instanceMethod yX0_yOf, Cond.selects RX0 yX0_yOf yX0_yOf, Cond.code yX0_yOf cX0_yOf 2 (some .int), Cond.methodLink RX6 267 yX4_forget, Cond.instanceMethod yX4_forget, Cond.selects RX4 yX4_forget yX4_forget, Cond.initialized RX4, Cond.code yX4_forget cX4_forget 1 none, Cond.fieldLink RX4 28 "GateSums$Stages" "known" "I", Cond.fieldLink RX4 32 "GateSums$Stages" "burst" "Z"]
def wsX6_adder : List Cond := .code yX6_adder cX6_adder 7 (some .int) :: ((wsX6_adder_r1 ++ (wsX6_adder_r2 ++ (wsX6_adder_r3 ++ wsX6_adder_r4))) ++ wsX60 ++ wsX00 ++ wsX10 ++ wsX40)
def wsX6_leftOver : List Cond := .code yX6_leftOver cX6_leftOver 3 (some .int) :: ([])
def wsX6_draw_r1 : List Cond := [Cond.constant RX6 153 (999999), Cond.fieldLink RX6 19 "GateSums" "circuit" "LGateSums$Circuit;", Cond.constantLong RX6 154 (1103515245), Cond.constantLong RX6 156 (12345), Cond.constantLong RX6 158 (2147483648), Cond.constantLong RX6 160 (65536), Cond.constantLong RX6 166 (32768), Cond.constantLong RX6 168 (1024), Cond.methodLink RX6 43 yX6_refused, Cond.instanceMethod yX6_refused, Cond.selects RX6 yX6_refused yX6_refused, Cond.initialized RX6, Cond.code yX6_refused cX6_refused 2 (some .int), Cond.fieldLink RX6 237 "GateSums" "bads" "I", Cond.fieldLink RX6 240 "GateSums" "noes" "I", Cond.fieldLink RX6 243 "GateSums" "fulls" "I", Cond.methodLink RX6 138 yX0_begin, Cond.instanceMethod yX0_begin, Cond.selects RX0 yX0_begin yX0_begin, Cond.initialized RX0, Cond.code yX0_begin cX0_begin 2 none, Cond.fieldLink RX0 24 "GateSums$Circuit" "there" "Z", Cond.fieldLink RX0 28 "GateSums$Circuit" "inputs" "I", Cond.fieldLink RX0 32 "GateSums$Circuit" "gates" "I"]
def wsX6_draw_r2 : List Cond := [Cond.fieldLink RX0 35 "GateSums$Circuit" "outputs" "I", Cond.methodLink RX6 162 yX6_leftOver, Cond.static yX6_leftOver, Cond.code yX6_leftOver cX6_leftOver 3 (some .int), Cond.methodLink RX6 142 yX0_addGate, Cond.instanceMethod yX0_addGate, Cond.selects RX0 yX0_addGate yX0_addGate, Cond.code yX0_addGate cX0_addGate 4 (some .int), Cond.fieldLink RX0 9 "GateSums$Circuit" "kinds" "[I", Cond.fieldLink RX0 15 "GateSums$Circuit" "xs" "[I", Cond.fieldLink RX0 18 "GateSums$Circuit" "ys" "[I", Cond.static yX6_put, Cond.code yX6_put cX6_put 3 none, Cond.methodLink RX0 42 yX0_signals, Cond.instanceMethod yX0_signals, Cond.selects RX0 yX0_signals yX0_signals, Cond.code yX0_signals cX0_signals 1 (some .int), Cond.methodLink RX6 146 yX0_addOutput, Cond.instanceMethod yX0_addOutput, Cond.selects RX0 yX0_addOutput yX0_addOutput, Cond.code yX0_addOutput cX0_addOutput 2 none, Cond.fieldLink RX0 21 "GateSums$Circuit" "places" "[I", Cond.methodLink RX6 149 yX0_end, Cond.instanceMethod yX0_end]
def wsX6_draw_r3 : List Cond := [Cond.selects RX0 yX0_end yX0_end, Cond.code yX0_end cX0_end 4 none, Cond.fieldLink RX0 46 "GateSums$Circuit" "task" "I", Cond.fieldLink RX0 49 "GateSums$Circuit" "p" "I", Cond.fieldLink RX0 52 "GateSums$Circuit" "q" "I", Cond.methodLink RX6 69 yX6_changed, Cond.instanceMethod yX6_changed, Cond.selects RX6 yX6_changed yX6_changed, Cond.code yX6_changed cX6_changed 1 (some .int), Cond.fieldLink RX6 29 "GateSums" "columns" "LGateSums$Columns;", Cond.fieldLink RX6 39 "GateSums" "stages" "LGateSums$Stages;", Cond.fieldLink RX6 197 "GateSums$Circuit" "gates" "I", Cond.methodLink RX6 193 yX1_fill, Cond.instanceMethod yX1_fill, Cond.selects RX1 yX1_fill yX1_fill, Cond.initialized RX1, Cond.code yX1_fill cX1_fill 6 none, Cond.fieldLink RX1 15 "GateSums$Circuit" "inputs" "I", Cond.fieldLink RX1 21 "GateSums$Columns" "INPUT_COLUMNS" "[J", Cond.fieldLink RX1 9 "GateSums$Columns" "rows" "[J", Cond.fieldLink RX1 24 "GateSums$Circuit" "gates" "I", Cond.methodLink RX1 27 yX0_kindOf, Cond.instanceMethod yX0_kindOf, Cond.selects RX0 yX0_kindOf yX0_kindOf]
def wsX6_draw_r4 : List Cond := [Cond.code yX0_kindOf cX0_kindOf 2 (some .int), Cond.static yX6_at, Cond.code yX6_at cX6_at 2 (some .int), Cond.methodLink RX1 31 yX1_column, Cond.instanceMethod yX1_column, Cond.selects RX1 yX1_column yX1_column, Cond.code yX1_column cX1_column 8 (some .long), Cond.constantLong RX1 45 (-1), Cond.methodLink RX1 35 yX0_xOf, Cond.instanceMethod yX0_xOf, Cond.selects RX0 yX0_xOf yX0_xOf, Cond.code yX0_xOf cX0_xOf 2 (some .int), Cond.methodLink RX1 38 yX1_row, Cond.instanceMethod yX1_row, Cond.selects RX1 yX1_row yX1_row, Cond.code yX1_row cX1_row 2 (some .long), Cond.methodLink RX1 42 yX0_yOf, Cond.instanceMethod yX0_yOf, Cond.selects RX0 yX0_yOf yX0_yOf, Cond.code yX0_yOf cX0_yOf 2 (some .int), Cond.methodLink RX6 267 yX4_forget, Cond.instanceMethod yX4_forget, Cond.selects RX4 yX4_forget yX4_forget, Cond.initialized RX4]
def wsX6_draw_r5 : List Cond := [Cond.code yX4_forget cX4_forget 1 none, Cond.fieldLink RX4 28 "GateSums$Stages" "known" "I", Cond.fieldLink RX4 32 "GateSums$Stages" "burst" "Z"]
def wsX6_draw : List Cond := .code yX6_draw cX6_draw 10 (some .int) :: ((wsX6_draw_r1 ++ (wsX6_draw_r2 ++ (wsX6_draw_r3 ++ (wsX6_draw_r4 ++ wsX6_draw_r5)))) ++ wsX60 ++ wsX00 ++ wsX10 ++ wsX40)
def wsX6_isInputs : List Cond := .code yX6_isInputs cX6_isInputs 2 (some .boolean) :: ([.fieldLink RX6 19 "GateSums" "circuit" "LGateSums$Circuit;", .fieldLink RX6 256 "GateSums$Circuit" "there" "Z", .fieldLink RX6 117 "GateSums$Circuit" "inputs" "I"] ++ wsX60 ++ wsX00)
def wsX6_runs_r1 : List Cond := [Cond.fieldLink RX6 29 "GateSums" "columns" "LGateSums$Columns;", Cond.fieldLink RX6 19 "GateSums" "circuit" "LGateSums$Circuit;", Cond.methodLink RX6 170 yX6_isInputs, Cond.instanceMethod yX6_isInputs, Cond.selects RX6 yX6_isInputs yX6_isInputs, Cond.initialized RX6, Cond.code yX6_isInputs cX6_isInputs 2 (some .boolean), Cond.fieldLink RX6 256 "GateSums$Circuit" "there" "Z", Cond.fieldLink RX6 117 "GateSums$Circuit" "inputs" "I", Cond.methodLink RX6 80 yX6_refusal, Cond.instanceMethod yX6_refusal, Cond.selects RX6 yX6_refusal yX6_refusal, Cond.code yX6_refusal cX6_refusal 2 (some .int), Cond.methodLink RX6 43 yX6_refused, Cond.instanceMethod yX6_refused, Cond.selects RX6 yX6_refused yX6_refused, Cond.code yX6_refused cX6_refused 2 (some .int), Cond.fieldLink RX6 237 "GateSums" "bads" "I", Cond.fieldLink RX6 240 "GateSums" "noes" "I", Cond.fieldLink RX6 243 "GateSums" "fulls" "I", Cond.methodLink RX6 173 yX1_outputsFor, Cond.instanceMethod yX1_outputsFor, Cond.selects RX1 yX1_outputsFor yX1_outputsFor, Cond.initialized RX1]
def wsX6_runs_r2 : List Cond := [Cond.code yX1_outputsFor cX1_outputsFor 5 (some .int), Cond.fieldLink RX1 47 "GateSums$Circuit" "outputs" "I", Cond.methodLink RX1 50 yX0_outputAt, Cond.instanceMethod yX0_outputAt, Cond.selects RX0 yX0_outputAt yX0_outputAt, Cond.initialized RX0, Cond.code yX0_outputAt cX0_outputAt 2 (some .int), Cond.fieldLink RX0 21 "GateSums$Circuit" "places" "[I", Cond.static yX6_at, Cond.code yX6_at cX6_at 2 (some .int), Cond.methodLink RX1 53 yX1_bit, Cond.instanceMethod yX1_bit, Cond.selects RX1 yX1_bit yX1_bit, Cond.code yX1_bit cX1_bit 3 (some .int), Cond.methodLink RX1 38 yX1_row, Cond.instanceMethod yX1_row, Cond.selects RX1 yX1_row yX1_row, Cond.code yX1_row cX1_row 2 (some .long), Cond.fieldLink RX1 9 "GateSums$Columns" "rows" "[J", Cond.methodLink RX6 177 yX0_taskFor, Cond.instanceMethod yX0_taskFor, Cond.selects RX0 yX0_taskFor yX0_taskFor, Cond.code yX0_taskFor cX0_taskFor 4 (some .int), Cond.fieldLink RX0 49 "GateSums$Circuit" "p" "I"]
def wsX6_runs_r3 : List Cond := [Cond.fieldLink RX0 52 "GateSums$Circuit" "q" "I", Cond.fieldLink RX0 46 "GateSums$Circuit" "task" "I"]
def wsX6_runs : List Cond := .code yX6_runs cX6_runs 4 (some .int) :: ((wsX6_runs_r1 ++ (wsX6_runs_r2 ++ wsX6_runs_r3)) ++ wsX60 ++ wsX00 ++ wsX10)
def wsX6_isSignal : List Cond := .code yX6_isSignal cX6_isSignal 2 (some .boolean) :: ([.fieldLink RX6 19 "GateSums" "circuit" "LGateSums$Circuit;", .fieldLink RX6 256 "GateSums$Circuit" "there" "Z", .methodLink RX6 260 yX0_signals, .instanceMethod yX0_signals, .selects RX0 yX0_signals yX0_signals, .initialized RX0, .code yX0_signals cX0_signals 1 (some .int), .fieldLink RX0 28 "GateSums$Circuit" "inputs" "I", .fieldLink RX0 32 "GateSums$Circuit" "gates" "I"] ++ wsX60 ++ wsX00)
def wsX6_signal_r1 : List Cond := [Cond.fieldLink RX6 29 "GateSums" "columns" "LGateSums$Columns;", Cond.methodLink RX6 180 yX6_isSignal, Cond.instanceMethod yX6_isSignal, Cond.selects RX6 yX6_isSignal yX6_isSignal, Cond.initialized RX6, Cond.code yX6_isSignal cX6_isSignal 2 (some .boolean), Cond.fieldLink RX6 19 "GateSums" "circuit" "LGateSums$Circuit;", Cond.fieldLink RX6 256 "GateSums$Circuit" "there" "Z", Cond.methodLink RX6 260 yX0_signals, Cond.instanceMethod yX0_signals, Cond.selects RX0 yX0_signals yX0_signals, Cond.initialized RX0, Cond.code yX0_signals cX0_signals 1 (some .int), Cond.fieldLink RX0 28 "GateSums$Circuit" "inputs" "I", Cond.fieldLink RX0 32 "GateSums$Circuit" "gates" "I", Cond.methodLink RX6 170 yX6_isInputs, Cond.instanceMethod yX6_isInputs, Cond.selects RX6 yX6_isInputs yX6_isInputs, Cond.code yX6_isInputs cX6_isInputs 2 (some .boolean), Cond.fieldLink RX6 117 "GateSums$Circuit" "inputs" "I", Cond.methodLink RX6 80 yX6_refusal, Cond.instanceMethod yX6_refusal, Cond.selects RX6 yX6_refusal yX6_refusal, Cond.code yX6_refusal cX6_refusal 2 (some .int)]
def wsX6_signal_r2 : List Cond := [Cond.methodLink RX6 43 yX6_refused, Cond.instanceMethod yX6_refused, Cond.selects RX6 yX6_refused yX6_refused, Cond.code yX6_refused cX6_refused 2 (some .int), Cond.fieldLink RX6 237 "GateSums" "bads" "I", Cond.fieldLink RX6 240 "GateSums" "noes" "I", Cond.fieldLink RX6 243 "GateSums" "fulls" "I", Cond.methodLink RX6 183 yX1_bit, Cond.instanceMethod yX1_bit, Cond.selects RX1 yX1_bit yX1_bit, Cond.initialized RX1, Cond.code yX1_bit cX1_bit 3 (some .int), Cond.methodLink RX1 38 yX1_row, Cond.instanceMethod yX1_row, Cond.selects RX1 yX1_row yX1_row, Cond.code yX1_row cX1_row 2 (some .long), Cond.fieldLink RX1 9 "GateSums$Columns" "rows" "[J"]
def wsX6_signal : List Cond := .code yX6_signal cX6_signal 4 (some .int) :: ((wsX6_signal_r1 ++ wsX6_signal_r2) ++ wsX60 ++ wsX00 ++ wsX10)
def wsX6_wrong_r1 : List Cond := [Cond.fieldLink RX6 29 "GateSums" "columns" "LGateSums$Columns;", Cond.fieldLink RX6 19 "GateSums" "circuit" "LGateSums$Circuit;", Cond.methodLink RX6 80 yX6_refusal, Cond.instanceMethod yX6_refusal, Cond.selects RX6 yX6_refusal yX6_refusal, Cond.initialized RX6, Cond.code yX6_refusal cX6_refusal 2 (some .int), Cond.fieldLink RX6 256 "GateSums$Circuit" "there" "Z", Cond.methodLink RX6 43 yX6_refused, Cond.instanceMethod yX6_refused, Cond.selects RX6 yX6_refused yX6_refused, Cond.code yX6_refused cX6_refused 2 (some .int), Cond.fieldLink RX6 237 "GateSums" "bads" "I", Cond.fieldLink RX6 240 "GateSums" "noes" "I", Cond.fieldLink RX6 243 "GateSums" "fulls" "I", Cond.methodLink RX6 187 yX1_firstWrong, Cond.instanceMethod yX1_firstWrong, Cond.selects RX1 yX1_firstWrong yX1_firstWrong, Cond.initialized RX1, Cond.code yX1_firstWrong cX1_firstWrong 4 (some .int), Cond.fieldLink RX1 15 "GateSums$Circuit" "inputs" "I", Cond.methodLink RX1 68 yX1_isWrong, Cond.instanceMethod yX1_isWrong, Cond.selects RX1 yX1_isWrong yX1_isWrong]
def wsX6_wrong_r2 : List Cond := [Cond.code yX1_isWrong cX1_isWrong 3 (some .boolean), Cond.methodLink RX1 61 yX1_outputsFor, Cond.instanceMethod yX1_outputsFor, Cond.selects RX1 yX1_outputsFor yX1_outputsFor, Cond.code yX1_outputsFor cX1_outputsFor 5 (some .int), Cond.fieldLink RX1 47 "GateSums$Circuit" "outputs" "I", Cond.methodLink RX1 50 yX0_outputAt, Cond.instanceMethod yX0_outputAt, Cond.selects RX0 yX0_outputAt yX0_outputAt, Cond.initialized RX0, Cond.code yX0_outputAt cX0_outputAt 2 (some .int), Cond.fieldLink RX0 21 "GateSums$Circuit" "places" "[I", Cond.static yX6_at, Cond.code yX6_at cX6_at 2 (some .int), Cond.methodLink RX1 53 yX1_bit, Cond.instanceMethod yX1_bit, Cond.selects RX1 yX1_bit yX1_bit, Cond.code yX1_bit cX1_bit 3 (some .int), Cond.methodLink RX1 38 yX1_row, Cond.instanceMethod yX1_row, Cond.selects RX1 yX1_row yX1_row, Cond.code yX1_row cX1_row 2 (some .long), Cond.fieldLink RX1 9 "GateSums$Columns" "rows" "[J", Cond.methodLink RX1 65 yX0_taskFor]
def wsX6_wrong_r3 : List Cond := [Cond.instanceMethod yX0_taskFor, Cond.selects RX0 yX0_taskFor yX0_taskFor, Cond.code yX0_taskFor cX0_taskFor 4 (some .int), Cond.fieldLink RX0 49 "GateSums$Circuit" "p" "I", Cond.fieldLink RX0 52 "GateSums$Circuit" "q" "I", Cond.fieldLink RX0 46 "GateSums$Circuit" "task" "I", Cond.methodLink RX6 190 yX1_countWrong, Cond.instanceMethod yX1_countWrong, Cond.selects RX1 yX1_countWrong yX1_countWrong, Cond.code yX1_countWrong cX1_countWrong 5 (some .int)]
def wsX6_wrong : List Cond := .code yX6_wrong cX6_wrong 3 (some .int) :: ((wsX6_wrong_r1 ++ (wsX6_wrong_r2 ++ wsX6_wrong_r3)) ++ wsX60 ++ wsX00 ++ wsX10)
def wsX6_cures_r1 : List Cond := [Cond.fieldLink RX6 19 "GateSums" "circuit" "LGateSums$Circuit;", Cond.fieldLink RX6 33 "GateSums" "trial" "LGateSums$Columns;", Cond.methodLink RX6 73 yX6_isGate, Cond.instanceMethod yX6_isGate, Cond.selects RX6 yX6_isGate yX6_isGate, Cond.initialized RX6, Cond.code yX6_isGate cX6_isGate 2 (some .boolean), Cond.fieldLink RX6 256 "GateSums$Circuit" "there" "Z", Cond.fieldLink RX6 197 "GateSums$Circuit" "gates" "I", Cond.methodLink RX6 80 yX6_refusal, Cond.instanceMethod yX6_refusal, Cond.selects RX6 yX6_refusal yX6_refusal, Cond.code yX6_refusal cX6_refusal 2 (some .int), Cond.methodLink RX6 43 yX6_refused, Cond.instanceMethod yX6_refused, Cond.selects RX6 yX6_refused yX6_refused, Cond.code yX6_refused cX6_refused 2 (some .int), Cond.fieldLink RX6 237 "GateSums" "bads" "I", Cond.fieldLink RX6 240 "GateSums" "noes" "I", Cond.fieldLink RX6 243 "GateSums" "fulls" "I", Cond.methodLink RX6 76 yX0_mayPut, Cond.instanceMethod yX0_mayPut, Cond.selects RX0 yX0_mayPut yX0_mayPut, Cond.initialized RX0]
def wsX6_cures_r2 : List Cond := [Cond.code yX0_mayPut cX0_mayPut 3 (some .boolean), Cond.fieldLink RX0 24 "GateSums$Circuit" "there" "Z", Cond.methodLink RX0 59 yX0_kindOf, Cond.instanceMethod yX0_kindOf, Cond.selects RX0 yX0_kindOf yX0_kindOf, Cond.code yX0_kindOf cX0_kindOf 2 (some .int), Cond.fieldLink RX0 9 "GateSums$Circuit" "kinds" "[I", Cond.static yX6_at, Cond.code yX6_at cX6_at 2 (some .int), Cond.methodLink RX6 193 yX1_fill, Cond.instanceMethod yX1_fill, Cond.selects RX1 yX1_fill yX1_fill, Cond.initialized RX1, Cond.code yX1_fill cX1_fill 6 none, Cond.fieldLink RX1 15 "GateSums$Circuit" "inputs" "I", Cond.fieldLink RX1 21 "GateSums$Columns" "INPUT_COLUMNS" "[J", Cond.fieldLink RX1 9 "GateSums$Columns" "rows" "[J", Cond.fieldLink RX1 24 "GateSums$Circuit" "gates" "I", Cond.methodLink RX1 27 yX0_kindOf, Cond.methodLink RX1 31 yX1_column, Cond.instanceMethod yX1_column, Cond.selects RX1 yX1_column yX1_column, Cond.code yX1_column cX1_column 8 (some .long), Cond.constantLong RX1 45 (-1)]
def wsX6_cures_r3 : List Cond := [Cond.methodLink RX1 35 yX0_xOf, Cond.instanceMethod yX0_xOf, Cond.selects RX0 yX0_xOf yX0_xOf, Cond.code yX0_xOf cX0_xOf 2 (some .int), Cond.fieldLink RX0 15 "GateSums$Circuit" "xs" "[I", Cond.methodLink RX1 38 yX1_row, Cond.instanceMethod yX1_row, Cond.selects RX1 yX1_row yX1_row, Cond.code yX1_row cX1_row 2 (some .long), Cond.methodLink RX1 42 yX0_yOf, Cond.instanceMethod yX0_yOf, Cond.selects RX0 yX0_yOf yX0_yOf, Cond.code yX0_yOf cX0_yOf 2 (some .int), Cond.fieldLink RX0 18 "GateSums$Circuit" "ys" "[I", Cond.methodLink RX6 187 yX1_firstWrong, Cond.instanceMethod yX1_firstWrong, Cond.selects RX1 yX1_firstWrong yX1_firstWrong, Cond.code yX1_firstWrong cX1_firstWrong 4 (some .int), Cond.methodLink RX1 68 yX1_isWrong, Cond.instanceMethod yX1_isWrong, Cond.selects RX1 yX1_isWrong yX1_isWrong, Cond.code yX1_isWrong cX1_isWrong 3 (some .boolean), Cond.methodLink RX1 61 yX1_outputsFor, Cond.instanceMethod yX1_outputsFor]
def wsX6_cures_r4 : List Cond := [Cond.selects RX1 yX1_outputsFor yX1_outputsFor, Cond.code yX1_outputsFor cX1_outputsFor 5 (some .int), Cond.fieldLink RX1 47 "GateSums$Circuit" "outputs" "I", Cond.methodLink RX1 50 yX0_outputAt, Cond.instanceMethod yX0_outputAt, Cond.selects RX0 yX0_outputAt yX0_outputAt, Cond.code yX0_outputAt cX0_outputAt 2 (some .int), Cond.fieldLink RX0 21 "GateSums$Circuit" "places" "[I", Cond.methodLink RX1 53 yX1_bit, Cond.instanceMethod yX1_bit, Cond.selects RX1 yX1_bit yX1_bit, Cond.code yX1_bit cX1_bit 3 (some .int), Cond.methodLink RX1 65 yX0_taskFor, Cond.instanceMethod yX0_taskFor, Cond.selects RX0 yX0_taskFor yX0_taskFor, Cond.code yX0_taskFor cX0_taskFor 4 (some .int), Cond.fieldLink RX0 49 "GateSums$Circuit" "p" "I", Cond.fieldLink RX0 52 "GateSums$Circuit" "q" "I", Cond.fieldLink RX0 46 "GateSums$Circuit" "task" "I"]
def wsX6_cures : List Cond := .code yX6_cures cX6_cures 5 (some .int) :: ((wsX6_cures_r1 ++ (wsX6_cures_r2 ++ (wsX6_cures_r3 ++ wsX6_cures_r4))) ++ wsX60 ++ wsX00 ++ wsX10)
def wsX6_stageRefusal_r1 : List Cond := [Cond.fieldLink RX6 39 "GateSums" "stages" "LGateSums$Stages;", Cond.fieldLink RX6 19 "GateSums" "circuit" "LGateSums$Circuit;", Cond.methodLink RX6 80 yX6_refusal, Cond.instanceMethod yX6_refusal, Cond.selects RX6 yX6_refusal yX6_refusal, Cond.initialized RX6, Cond.code yX6_refusal cX6_refusal 2 (some .int), Cond.fieldLink RX6 256 "GateSums$Circuit" "there" "Z", Cond.methodLink RX6 43 yX6_refused, Cond.instanceMethod yX6_refused, Cond.selects RX6 yX6_refused yX6_refused, Cond.code yX6_refused cX6_refused 2 (some .int), Cond.fieldLink RX6 237 "GateSums" "bads" "I", Cond.fieldLink RX6 240 "GateSums" "noes" "I", Cond.fieldLink RX6 243 "GateSums" "fulls" "I", Cond.methodLink RX6 263 yX4_reach, Cond.instanceMethod yX4_reach, Cond.selects RX4 yX4_reach yX4_reach, Cond.initialized RX4, Cond.code yX4_reach cX4_reach 4 (some .boolean), Cond.fieldLink RX4 28 "GateSums$Stages" "known" "I", Cond.fieldLink RX4 9 "GateSums$Stages" "sizes" "[I", Cond.fieldLink RX4 32 "GateSums$Stages" "burst" "Z", Cond.fieldLink RX4 24 "GateSums$Stages" "work" "LGateSums$Polynomial;"]
def wsX6_stageRefusal_r2 : List Cond := [Cond.fieldLink RX4 36 "GateSums$Polynomial" "size" "I", Cond.fieldLink RX4 46 "GateSums$Circuit" "gates" "I", Cond.methodLink RX4 39 yX4_addOutputs, Cond.instanceMethod yX4_addOutputs, Cond.selects RX4 yX4_addOutputs yX4_addOutputs, Cond.code yX4_addOutputs cX4_addOutputs 3 none, Cond.fieldLink RX4 69 "GateSums$Circuit" "outputs" "I", Cond.methodLink RX4 72 yX0_outputAt, Cond.instanceMethod yX0_outputAt, Cond.selects RX0 yX0_outputAt yX0_outputAt, Cond.initialized RX0, Cond.code yX0_outputAt cX0_outputAt 2 (some .int), Cond.fieldLink RX0 21 "GateSums$Circuit" "places" "[I", Cond.static yX6_at, Cond.code yX6_at cX6_at 2 (some .int), Cond.static yX6_setOf, Cond.code yX6_setOf cX6_setOf 1 (some .int), Cond.methodLink RX4 79 yX2_add, Cond.instanceMethod yX2_add, Cond.selects RX2 yX2_add yX2_add, Cond.initialized RX2, Cond.code yX2_add cX2_add 5 none, Cond.fieldLink RX2 22 "GateSums$Polynomial" "size" "I", Cond.fieldLink RX2 11 "GateSums$Polynomial" "sets" "[I"]
def wsX6_stageRefusal_r3 : List Cond := [Cond.fieldLink RX2 15 "GateSums$Polynomial" "coefficients" "[I", Cond.methodLink RX2 18 yX2_placeOf, Cond.instanceMethod yX2_placeOf, Cond.selects RX2 yX2_placeOf yX2_placeOf, Cond.code yX2_placeOf cX2_placeOf 6 (some .int), Cond.methodLink RX2 30 yX2_insert, Cond.instanceMethod yX2_insert, Cond.selects RX2 yX2_insert yX2_insert, Cond.code yX2_insert cX2_insert 4 none, Cond.methodLink RX2 42 arraycopyName, Cond.native arraycopyName, Cond.static arraycopyName, Cond.initialized "java/lang/System", Cond.static yX6_put, Cond.code yX6_put cX6_put 3 none, Cond.methodLink RX2 34 yX2_remove, Cond.instanceMethod yX2_remove, Cond.selects RX2 yX2_remove yX2_remove, Cond.code yX2_remove cX2_remove 3 none, Cond.methodLink RX4 43 yX4_takeTask, Cond.instanceMethod yX4_takeTask, Cond.selects RX4 yX4_takeTask yX4_takeTask, Cond.code yX4_takeTask cX4_takeTask 7 none, Cond.fieldLink RX4 83 "GateSums$Circuit" "p" "I"]
def wsX6_stageRefusal_r4 : List Cond := [Cond.fieldLink RX4 86 "GateSums$Circuit" "task" "I", Cond.fieldLink RX4 89 "GateSums$Circuit" "q" "I", Cond.fieldLink RX4 92 "GateSums$Stages" "TASK_OF_A" "[I", Cond.fieldLink RX4 95 "GateSums$Stages" "TASK_OF_B" "[I", Cond.methodLink RX4 51 yX4_replaceGate, Cond.instanceMethod yX4_replaceGate, Cond.selects RX4 yX4_replaceGate yX4_replaceGate, Cond.code yX4_replaceGate cX4_replaceGate 12 none, Cond.fieldLink RX4 98 "GateSums$Circuit" "inputs" "I", Cond.fieldLink RX4 120 "GateSums$Stages" "OF_ONE" "[I", Cond.fieldLink RX4 123 "GateSums$Stages" "OF_X" "[I", Cond.fieldLink RX4 126 "GateSums$Stages" "OF_Y" "[I", Cond.fieldLink RX4 129 "GateSums$Stages" "OF_BOTH" "[I", Cond.methodLink RX4 101 yX0_xOf, Cond.instanceMethod yX0_xOf, Cond.selects RX0 yX0_xOf yX0_xOf, Cond.code yX0_xOf cX0_xOf 2 (some .int), Cond.fieldLink RX0 15 "GateSums$Circuit" "xs" "[I", Cond.methodLink RX4 104 yX0_yOf, Cond.instanceMethod yX0_yOf, Cond.selects RX0 yX0_yOf yX0_yOf, Cond.code yX0_yOf cX0_yOf 2 (some .int), Cond.fieldLink RX0 18 "GateSums$Circuit" "ys" "[I", Cond.methodLink RX4 107 yX0_kindOf]
def wsX6_stageRefusal_r5 : List Cond := [Cond.instanceMethod yX0_kindOf, Cond.selects RX0 yX0_kindOf yX0_kindOf, Cond.code yX0_kindOf cX0_kindOf 2 (some .int), Cond.fieldLink RX0 9 "GateSums$Circuit" "kinds" "[I", Cond.methodLink RX4 110 yX4_sizeOf, Cond.instanceMethod yX4_sizeOf, Cond.selects RX4 yX4_sizeOf yX4_sizeOf, Cond.code yX4_sizeOf cX4_sizeOf 2 (some .int), Cond.methodLink RX4 113 yX4_setAt, Cond.instanceMethod yX4_setAt, Cond.selects RX4 yX4_setAt yX4_setAt, Cond.code yX4_setAt cX4_setAt 3 (some .int), Cond.fieldLink RX4 15 "GateSums$Stages" "sets" "[I", Cond.methodLink RX4 117 yX4_coefficientAt, Cond.instanceMethod yX4_coefficientAt, Cond.selects RX4 yX4_coefficientAt yX4_coefficientAt, Cond.code yX4_coefficientAt cX4_coefficientAt 3 (some .int), Cond.fieldLink RX4 18 "GateSums$Stages" "coefficients" "[I", Cond.methodLink RX4 55 yX4_keep, Cond.instanceMethod yX4_keep, Cond.selects RX4 yX4_keep yX4_keep, Cond.code yX4_keep cX4_keep 3 none, Cond.fieldLink RX4 63 "GateSums$Polynomial" "sets" "[I", Cond.fieldLink RX4 68 "GateSums$Polynomial" "coefficients" "[I"]
def wsX6_stageRefusal : List Cond := .code yX6_stageRefusal cX6_stageRefusal 4 (some .int) :: ((wsX6_stageRefusal_r1 ++ (wsX6_stageRefusal_r2 ++ (wsX6_stageRefusal_r3 ++ (wsX6_stageRefusal_r4 ++ wsX6_stageRefusal_r5)))) ++ wsX60 ++ wsX00 ++ wsX40 ++ wsX20)
def wsX6_right_r1 : List Cond := [Cond.fieldLink RX6 19 "GateSums" "circuit" "LGateSums$Circuit;", Cond.fieldLink RX6 197 "GateSums$Circuit" "gates" "I", Cond.fieldLink RX6 39 "GateSums" "stages" "LGateSums$Stages;", Cond.methodLink RX6 200 yX6_stageRefusal, Cond.instanceMethod yX6_stageRefusal, Cond.selects RX6 yX6_stageRefusal yX6_stageRefusal, Cond.initialized RX6, Cond.code yX6_stageRefusal cX6_stageRefusal 4 (some .int), Cond.methodLink RX6 80 yX6_refusal, Cond.instanceMethod yX6_refusal, Cond.selects RX6 yX6_refusal yX6_refusal, Cond.code yX6_refusal cX6_refusal 2 (some .int), Cond.fieldLink RX6 256 "GateSums$Circuit" "there" "Z", Cond.methodLink RX6 43 yX6_refused, Cond.instanceMethod yX6_refused, Cond.selects RX6 yX6_refused yX6_refused, Cond.code yX6_refused cX6_refused 2 (some .int), Cond.fieldLink RX6 237 "GateSums" "bads" "I", Cond.fieldLink RX6 240 "GateSums" "noes" "I", Cond.fieldLink RX6 243 "GateSums" "fulls" "I", Cond.methodLink RX6 263 yX4_reach, Cond.instanceMethod yX4_reach, Cond.selects RX4 yX4_reach yX4_reach, Cond.initialized RX4]
def wsX6_right_r2 : List Cond := [Cond.code yX4_reach cX4_reach 4 (some .boolean), Cond.fieldLink RX4 28 "GateSums$Stages" "known" "I", Cond.fieldLink RX4 9 "GateSums$Stages" "sizes" "[I", Cond.fieldLink RX4 32 "GateSums$Stages" "burst" "Z", Cond.fieldLink RX4 24 "GateSums$Stages" "work" "LGateSums$Polynomial;", Cond.fieldLink RX4 36 "GateSums$Polynomial" "size" "I", Cond.fieldLink RX4 46 "GateSums$Circuit" "gates" "I", Cond.methodLink RX4 39 yX4_addOutputs, Cond.instanceMethod yX4_addOutputs, Cond.selects RX4 yX4_addOutputs yX4_addOutputs, Cond.code yX4_addOutputs cX4_addOutputs 3 none, Cond.fieldLink RX4 69 "GateSums$Circuit" "outputs" "I", Cond.methodLink RX4 72 yX0_outputAt, Cond.instanceMethod yX0_outputAt, Cond.selects RX0 yX0_outputAt yX0_outputAt, Cond.initialized RX0, Cond.code yX0_outputAt cX0_outputAt 2 (some .int), Cond.fieldLink RX0 21 "GateSums$Circuit" "places" "[I", Cond.static yX6_at, Cond.code yX6_at cX6_at 2 (some .int), Cond.static yX6_setOf, Cond.code yX6_setOf cX6_setOf 1 (some .int), Cond.methodLink RX4 79 yX2_add, Cond.instanceMethod yX2_add]
def wsX6_right_r3 : List Cond := [Cond.selects RX2 yX2_add yX2_add, Cond.initialized RX2, Cond.code yX2_add cX2_add 5 none, Cond.fieldLink RX2 22 "GateSums$Polynomial" "size" "I", Cond.fieldLink RX2 11 "GateSums$Polynomial" "sets" "[I", Cond.fieldLink RX2 15 "GateSums$Polynomial" "coefficients" "[I", Cond.methodLink RX2 18 yX2_placeOf, Cond.instanceMethod yX2_placeOf, Cond.selects RX2 yX2_placeOf yX2_placeOf, Cond.code yX2_placeOf cX2_placeOf 6 (some .int), Cond.methodLink RX2 30 yX2_insert, Cond.instanceMethod yX2_insert, Cond.selects RX2 yX2_insert yX2_insert, Cond.code yX2_insert cX2_insert 4 none, Cond.methodLink RX2 42 arraycopyName, Cond.native arraycopyName, Cond.static arraycopyName, Cond.initialized "java/lang/System", Cond.static yX6_put, Cond.code yX6_put cX6_put 3 none, Cond.methodLink RX2 34 yX2_remove, Cond.instanceMethod yX2_remove, Cond.selects RX2 yX2_remove yX2_remove, Cond.code yX2_remove cX2_remove 3 none]
def wsX6_right_r4 : List Cond := [Cond.methodLink RX4 43 yX4_takeTask, Cond.instanceMethod yX4_takeTask, Cond.selects RX4 yX4_takeTask yX4_takeTask, Cond.code yX4_takeTask cX4_takeTask 7 none, Cond.fieldLink RX4 83 "GateSums$Circuit" "p" "I", Cond.fieldLink RX4 86 "GateSums$Circuit" "task" "I", Cond.fieldLink RX4 89 "GateSums$Circuit" "q" "I", Cond.fieldLink RX4 92 "GateSums$Stages" "TASK_OF_A" "[I", Cond.fieldLink RX4 95 "GateSums$Stages" "TASK_OF_B" "[I", Cond.methodLink RX4 51 yX4_replaceGate, Cond.instanceMethod yX4_replaceGate, Cond.selects RX4 yX4_replaceGate yX4_replaceGate, Cond.code yX4_replaceGate cX4_replaceGate 12 none, Cond.fieldLink RX4 98 "GateSums$Circuit" "inputs" "I", Cond.fieldLink RX4 120 "GateSums$Stages" "OF_ONE" "[I", Cond.fieldLink RX4 123 "GateSums$Stages" "OF_X" "[I", Cond.fieldLink RX4 126 "GateSums$Stages" "OF_Y" "[I", Cond.fieldLink RX4 129 "GateSums$Stages" "OF_BOTH" "[I", Cond.methodLink RX4 101 yX0_xOf, Cond.instanceMethod yX0_xOf, Cond.selects RX0 yX0_xOf yX0_xOf, Cond.code yX0_xOf cX0_xOf 2 (some .int), Cond.fieldLink RX0 15 "GateSums$Circuit" "xs" "[I", Cond.methodLink RX4 104 yX0_yOf]
def wsX6_right_r5 : List Cond := [Cond.instanceMethod yX0_yOf, Cond.selects RX0 yX0_yOf yX0_yOf, Cond.code yX0_yOf cX0_yOf 2 (some .int), Cond.fieldLink RX0 18 "GateSums$Circuit" "ys" "[I", Cond.methodLink RX4 107 yX0_kindOf, Cond.instanceMethod yX0_kindOf, Cond.selects RX0 yX0_kindOf yX0_kindOf, Cond.code yX0_kindOf cX0_kindOf 2 (some .int), Cond.fieldLink RX0 9 "GateSums$Circuit" "kinds" "[I", Cond.methodLink RX4 110 yX4_sizeOf, Cond.instanceMethod yX4_sizeOf, Cond.selects RX4 yX4_sizeOf yX4_sizeOf, Cond.code yX4_sizeOf cX4_sizeOf 2 (some .int), Cond.methodLink RX4 113 yX4_setAt, Cond.instanceMethod yX4_setAt, Cond.selects RX4 yX4_setAt yX4_setAt, Cond.code yX4_setAt cX4_setAt 3 (some .int), Cond.fieldLink RX4 15 "GateSums$Stages" "sets" "[I", Cond.methodLink RX4 117 yX4_coefficientAt, Cond.instanceMethod yX4_coefficientAt, Cond.selects RX4 yX4_coefficientAt yX4_coefficientAt, Cond.code yX4_coefficientAt cX4_coefficientAt 3 (some .int), Cond.fieldLink RX4 18 "GateSums$Stages" "coefficients" "[I", Cond.methodLink RX4 55 yX4_keep]
def wsX6_right_r6 : List Cond := [Cond.instanceMethod yX4_keep, Cond.selects RX4 yX4_keep yX4_keep, Cond.code yX4_keep cX4_keep 3 none, Cond.fieldLink RX4 63 "GateSums$Polynomial" "sets" "[I", Cond.fieldLink RX4 68 "GateSums$Polynomial" "coefficients" "[I", Cond.methodLink RX6 204 yX4_sizeOf]
def wsX6_right : List Cond := .code yX6_right cX6_right 2 (some .int) :: ((wsX6_right_r1 ++ (wsX6_right_r2 ++ (wsX6_right_r3 ++ (wsX6_right_r4 ++ (wsX6_right_r5 ++ wsX6_right_r6))))) ++ wsX60 ++ wsX00 ++ wsX40 ++ wsX20)
def wsX6_isStage : List Cond := .code yX6_isStage cX6_isStage 2 (some .boolean) :: ([.fieldLink RX6 19 "GateSums" "circuit" "LGateSums$Circuit;", .fieldLink RX6 256 "GateSums$Circuit" "there" "Z", .fieldLink RX6 197 "GateSums$Circuit" "gates" "I"] ++ wsX60 ++ wsX00)
def wsX6_terms_r1 : List Cond := [Cond.fieldLink RX6 39 "GateSums" "stages" "LGateSums$Stages;", Cond.methodLink RX6 207 yX6_isStage, Cond.instanceMethod yX6_isStage, Cond.selects RX6 yX6_isStage yX6_isStage, Cond.initialized RX6, Cond.code yX6_isStage cX6_isStage 2 (some .boolean), Cond.fieldLink RX6 19 "GateSums" "circuit" "LGateSums$Circuit;", Cond.fieldLink RX6 256 "GateSums$Circuit" "there" "Z", Cond.fieldLink RX6 197 "GateSums$Circuit" "gates" "I", Cond.methodLink RX6 200 yX6_stageRefusal, Cond.instanceMethod yX6_stageRefusal, Cond.selects RX6 yX6_stageRefusal yX6_stageRefusal, Cond.code yX6_stageRefusal cX6_stageRefusal 4 (some .int), Cond.methodLink RX6 80 yX6_refusal, Cond.instanceMethod yX6_refusal, Cond.selects RX6 yX6_refusal yX6_refusal, Cond.code yX6_refusal cX6_refusal 2 (some .int), Cond.methodLink RX6 43 yX6_refused, Cond.instanceMethod yX6_refused, Cond.selects RX6 yX6_refused yX6_refused, Cond.code yX6_refused cX6_refused 2 (some .int), Cond.fieldLink RX6 237 "GateSums" "bads" "I", Cond.fieldLink RX6 240 "GateSums" "noes" "I", Cond.fieldLink RX6 243 "GateSums" "fulls" "I"]
def wsX6_terms_r2 : List Cond := [Cond.methodLink RX6 263 yX4_reach, Cond.instanceMethod yX4_reach, Cond.selects RX4 yX4_reach yX4_reach, Cond.initialized RX4, Cond.code yX4_reach cX4_reach 4 (some .boolean), Cond.fieldLink RX4 28 "GateSums$Stages" "known" "I", Cond.fieldLink RX4 9 "GateSums$Stages" "sizes" "[I", Cond.fieldLink RX4 32 "GateSums$Stages" "burst" "Z", Cond.fieldLink RX4 24 "GateSums$Stages" "work" "LGateSums$Polynomial;", Cond.fieldLink RX4 36 "GateSums$Polynomial" "size" "I", Cond.fieldLink RX4 46 "GateSums$Circuit" "gates" "I", Cond.methodLink RX4 39 yX4_addOutputs, Cond.instanceMethod yX4_addOutputs, Cond.selects RX4 yX4_addOutputs yX4_addOutputs, Cond.code yX4_addOutputs cX4_addOutputs 3 none, Cond.fieldLink RX4 69 "GateSums$Circuit" "outputs" "I", Cond.methodLink RX4 72 yX0_outputAt, Cond.instanceMethod yX0_outputAt, Cond.selects RX0 yX0_outputAt yX0_outputAt, Cond.initialized RX0, Cond.code yX0_outputAt cX0_outputAt 2 (some .int), Cond.fieldLink RX0 21 "GateSums$Circuit" "places" "[I", Cond.static yX6_at, Cond.code yX6_at cX6_at 2 (some .int)]
def wsX6_terms_r3 : List Cond := [Cond.static yX6_setOf, Cond.code yX6_setOf cX6_setOf 1 (some .int), Cond.methodLink RX4 79 yX2_add, Cond.instanceMethod yX2_add, Cond.selects RX2 yX2_add yX2_add, Cond.initialized RX2, Cond.code yX2_add cX2_add 5 none, Cond.fieldLink RX2 22 "GateSums$Polynomial" "size" "I", Cond.fieldLink RX2 11 "GateSums$Polynomial" "sets" "[I", Cond.fieldLink RX2 15 "GateSums$Polynomial" "coefficients" "[I", Cond.methodLink RX2 18 yX2_placeOf, Cond.instanceMethod yX2_placeOf, Cond.selects RX2 yX2_placeOf yX2_placeOf, Cond.code yX2_placeOf cX2_placeOf 6 (some .int), Cond.methodLink RX2 30 yX2_insert, Cond.instanceMethod yX2_insert, Cond.selects RX2 yX2_insert yX2_insert, Cond.code yX2_insert cX2_insert 4 none, Cond.methodLink RX2 42 arraycopyName, Cond.native arraycopyName, Cond.static arraycopyName, Cond.initialized "java/lang/System", Cond.static yX6_put, Cond.code yX6_put cX6_put 3 none]
def wsX6_terms_r4 : List Cond := [Cond.methodLink RX2 34 yX2_remove, Cond.instanceMethod yX2_remove, Cond.selects RX2 yX2_remove yX2_remove, Cond.code yX2_remove cX2_remove 3 none, Cond.methodLink RX4 43 yX4_takeTask, Cond.instanceMethod yX4_takeTask, Cond.selects RX4 yX4_takeTask yX4_takeTask, Cond.code yX4_takeTask cX4_takeTask 7 none, Cond.fieldLink RX4 83 "GateSums$Circuit" "p" "I", Cond.fieldLink RX4 86 "GateSums$Circuit" "task" "I", Cond.fieldLink RX4 89 "GateSums$Circuit" "q" "I", Cond.fieldLink RX4 92 "GateSums$Stages" "TASK_OF_A" "[I", Cond.fieldLink RX4 95 "GateSums$Stages" "TASK_OF_B" "[I", Cond.methodLink RX4 51 yX4_replaceGate, Cond.instanceMethod yX4_replaceGate, Cond.selects RX4 yX4_replaceGate yX4_replaceGate, Cond.code yX4_replaceGate cX4_replaceGate 12 none, Cond.fieldLink RX4 98 "GateSums$Circuit" "inputs" "I", Cond.fieldLink RX4 120 "GateSums$Stages" "OF_ONE" "[I", Cond.fieldLink RX4 123 "GateSums$Stages" "OF_X" "[I", Cond.fieldLink RX4 126 "GateSums$Stages" "OF_Y" "[I", Cond.fieldLink RX4 129 "GateSums$Stages" "OF_BOTH" "[I", Cond.methodLink RX4 101 yX0_xOf, Cond.instanceMethod yX0_xOf]
def wsX6_terms_r5 : List Cond := [Cond.selects RX0 yX0_xOf yX0_xOf, Cond.code yX0_xOf cX0_xOf 2 (some .int), Cond.fieldLink RX0 15 "GateSums$Circuit" "xs" "[I", Cond.methodLink RX4 104 yX0_yOf, Cond.instanceMethod yX0_yOf, Cond.selects RX0 yX0_yOf yX0_yOf, Cond.code yX0_yOf cX0_yOf 2 (some .int), Cond.fieldLink RX0 18 "GateSums$Circuit" "ys" "[I", Cond.methodLink RX4 107 yX0_kindOf, Cond.instanceMethod yX0_kindOf, Cond.selects RX0 yX0_kindOf yX0_kindOf, Cond.code yX0_kindOf cX0_kindOf 2 (some .int), Cond.fieldLink RX0 9 "GateSums$Circuit" "kinds" "[I", Cond.methodLink RX4 110 yX4_sizeOf, Cond.instanceMethod yX4_sizeOf, Cond.selects RX4 yX4_sizeOf yX4_sizeOf, Cond.code yX4_sizeOf cX4_sizeOf 2 (some .int), Cond.methodLink RX4 113 yX4_setAt, Cond.instanceMethod yX4_setAt, Cond.selects RX4 yX4_setAt yX4_setAt, Cond.code yX4_setAt cX4_setAt 3 (some .int), Cond.fieldLink RX4 15 "GateSums$Stages" "sets" "[I", Cond.methodLink RX4 117 yX4_coefficientAt, Cond.instanceMethod yX4_coefficientAt]
def wsX6_terms_r6 : List Cond := [Cond.selects RX4 yX4_coefficientAt yX4_coefficientAt, Cond.code yX4_coefficientAt cX4_coefficientAt 3 (some .int), Cond.fieldLink RX4 18 "GateSums$Stages" "coefficients" "[I", Cond.methodLink RX4 55 yX4_keep, Cond.instanceMethod yX4_keep, Cond.selects RX4 yX4_keep yX4_keep, Cond.code yX4_keep cX4_keep 3 none, Cond.fieldLink RX4 63 "GateSums$Polynomial" "sets" "[I", Cond.fieldLink RX4 68 "GateSums$Polynomial" "coefficients" "[I", Cond.methodLink RX6 204 yX4_sizeOf]
def wsX6_terms : List Cond := .code yX6_terms cX6_terms 3 (some .int) :: ((wsX6_terms_r1 ++ (wsX6_terms_r2 ++ (wsX6_terms_r3 ++ (wsX6_terms_r4 ++ (wsX6_terms_r5 ++ wsX6_terms_r6))))) ++ wsX60 ++ wsX00 ++ wsX40 ++ wsX20)
def wsX6_term_r1 : List Cond := [Cond.fieldLink RX6 39 "GateSums" "stages" "LGateSums$Stages;", Cond.methodLink RX6 207 yX6_isStage, Cond.instanceMethod yX6_isStage, Cond.selects RX6 yX6_isStage yX6_isStage, Cond.initialized RX6, Cond.code yX6_isStage cX6_isStage 2 (some .boolean), Cond.fieldLink RX6 19 "GateSums" "circuit" "LGateSums$Circuit;", Cond.fieldLink RX6 256 "GateSums$Circuit" "there" "Z", Cond.fieldLink RX6 197 "GateSums$Circuit" "gates" "I", Cond.methodLink RX6 200 yX6_stageRefusal, Cond.instanceMethod yX6_stageRefusal, Cond.selects RX6 yX6_stageRefusal yX6_stageRefusal, Cond.code yX6_stageRefusal cX6_stageRefusal 4 (some .int), Cond.methodLink RX6 80 yX6_refusal, Cond.instanceMethod yX6_refusal, Cond.selects RX6 yX6_refusal yX6_refusal, Cond.code yX6_refusal cX6_refusal 2 (some .int), Cond.methodLink RX6 43 yX6_refused, Cond.instanceMethod yX6_refused, Cond.selects RX6 yX6_refused yX6_refused, Cond.code yX6_refused cX6_refused 2 (some .int), Cond.fieldLink RX6 237 "GateSums" "bads" "I", Cond.fieldLink RX6 240 "GateSums" "noes" "I", Cond.fieldLink RX6 243 "GateSums" "fulls" "I"]
def wsX6_term_r2 : List Cond := [Cond.methodLink RX6 263 yX4_reach, Cond.instanceMethod yX4_reach, Cond.selects RX4 yX4_reach yX4_reach, Cond.initialized RX4, Cond.code yX4_reach cX4_reach 4 (some .boolean), Cond.fieldLink RX4 28 "GateSums$Stages" "known" "I", Cond.fieldLink RX4 9 "GateSums$Stages" "sizes" "[I", Cond.fieldLink RX4 32 "GateSums$Stages" "burst" "Z", Cond.fieldLink RX4 24 "GateSums$Stages" "work" "LGateSums$Polynomial;", Cond.fieldLink RX4 36 "GateSums$Polynomial" "size" "I", Cond.fieldLink RX4 46 "GateSums$Circuit" "gates" "I", Cond.methodLink RX4 39 yX4_addOutputs, Cond.instanceMethod yX4_addOutputs, Cond.selects RX4 yX4_addOutputs yX4_addOutputs, Cond.code yX4_addOutputs cX4_addOutputs 3 none, Cond.fieldLink RX4 69 "GateSums$Circuit" "outputs" "I", Cond.methodLink RX4 72 yX0_outputAt, Cond.instanceMethod yX0_outputAt, Cond.selects RX0 yX0_outputAt yX0_outputAt, Cond.initialized RX0, Cond.code yX0_outputAt cX0_outputAt 2 (some .int), Cond.fieldLink RX0 21 "GateSums$Circuit" "places" "[I", Cond.static yX6_at, Cond.code yX6_at cX6_at 2 (some .int)]
def wsX6_term_r3 : List Cond := [Cond.static yX6_setOf, Cond.code yX6_setOf cX6_setOf 1 (some .int), Cond.methodLink RX4 79 yX2_add, Cond.instanceMethod yX2_add, Cond.selects RX2 yX2_add yX2_add, Cond.initialized RX2, Cond.code yX2_add cX2_add 5 none, Cond.fieldLink RX2 22 "GateSums$Polynomial" "size" "I", Cond.fieldLink RX2 11 "GateSums$Polynomial" "sets" "[I", Cond.fieldLink RX2 15 "GateSums$Polynomial" "coefficients" "[I", Cond.methodLink RX2 18 yX2_placeOf, Cond.instanceMethod yX2_placeOf, Cond.selects RX2 yX2_placeOf yX2_placeOf, Cond.code yX2_placeOf cX2_placeOf 6 (some .int), Cond.methodLink RX2 30 yX2_insert, Cond.instanceMethod yX2_insert, Cond.selects RX2 yX2_insert yX2_insert, Cond.code yX2_insert cX2_insert 4 none, Cond.methodLink RX2 42 arraycopyName, Cond.native arraycopyName, Cond.static arraycopyName, Cond.initialized "java/lang/System", Cond.static yX6_put, Cond.code yX6_put cX6_put 3 none]
def wsX6_term_r4 : List Cond := [Cond.methodLink RX2 34 yX2_remove, Cond.instanceMethod yX2_remove, Cond.selects RX2 yX2_remove yX2_remove, Cond.code yX2_remove cX2_remove 3 none, Cond.methodLink RX4 43 yX4_takeTask, Cond.instanceMethod yX4_takeTask, Cond.selects RX4 yX4_takeTask yX4_takeTask, Cond.code yX4_takeTask cX4_takeTask 7 none, Cond.fieldLink RX4 83 "GateSums$Circuit" "p" "I", Cond.fieldLink RX4 86 "GateSums$Circuit" "task" "I", Cond.fieldLink RX4 89 "GateSums$Circuit" "q" "I", Cond.fieldLink RX4 92 "GateSums$Stages" "TASK_OF_A" "[I", Cond.fieldLink RX4 95 "GateSums$Stages" "TASK_OF_B" "[I", Cond.methodLink RX4 51 yX4_replaceGate, Cond.instanceMethod yX4_replaceGate, Cond.selects RX4 yX4_replaceGate yX4_replaceGate, Cond.code yX4_replaceGate cX4_replaceGate 12 none, Cond.fieldLink RX4 98 "GateSums$Circuit" "inputs" "I", Cond.fieldLink RX4 120 "GateSums$Stages" "OF_ONE" "[I", Cond.fieldLink RX4 123 "GateSums$Stages" "OF_X" "[I", Cond.fieldLink RX4 126 "GateSums$Stages" "OF_Y" "[I", Cond.fieldLink RX4 129 "GateSums$Stages" "OF_BOTH" "[I", Cond.methodLink RX4 101 yX0_xOf, Cond.instanceMethod yX0_xOf]
def wsX6_term_r5 : List Cond := [Cond.selects RX0 yX0_xOf yX0_xOf, Cond.code yX0_xOf cX0_xOf 2 (some .int), Cond.fieldLink RX0 15 "GateSums$Circuit" "xs" "[I", Cond.methodLink RX4 104 yX0_yOf, Cond.instanceMethod yX0_yOf, Cond.selects RX0 yX0_yOf yX0_yOf, Cond.code yX0_yOf cX0_yOf 2 (some .int), Cond.fieldLink RX0 18 "GateSums$Circuit" "ys" "[I", Cond.methodLink RX4 107 yX0_kindOf, Cond.instanceMethod yX0_kindOf, Cond.selects RX0 yX0_kindOf yX0_kindOf, Cond.code yX0_kindOf cX0_kindOf 2 (some .int), Cond.fieldLink RX0 9 "GateSums$Circuit" "kinds" "[I", Cond.methodLink RX4 110 yX4_sizeOf, Cond.instanceMethod yX4_sizeOf, Cond.selects RX4 yX4_sizeOf yX4_sizeOf, Cond.code yX4_sizeOf cX4_sizeOf 2 (some .int), Cond.methodLink RX4 113 yX4_setAt, Cond.instanceMethod yX4_setAt, Cond.selects RX4 yX4_setAt yX4_setAt, Cond.code yX4_setAt cX4_setAt 3 (some .int), Cond.fieldLink RX4 15 "GateSums$Stages" "sets" "[I", Cond.methodLink RX4 117 yX4_coefficientAt, Cond.instanceMethod yX4_coefficientAt]
def wsX6_term_r6 : List Cond := [Cond.selects RX4 yX4_coefficientAt yX4_coefficientAt, Cond.code yX4_coefficientAt cX4_coefficientAt 3 (some .int), Cond.fieldLink RX4 18 "GateSums$Stages" "coefficients" "[I", Cond.methodLink RX4 55 yX4_keep, Cond.instanceMethod yX4_keep, Cond.selects RX4 yX4_keep yX4_keep, Cond.code yX4_keep cX4_keep 3 none, Cond.fieldLink RX4 63 "GateSums$Polynomial" "sets" "[I", Cond.fieldLink RX4 68 "GateSums$Polynomial" "coefficients" "[I", Cond.methodLink RX6 204 yX4_sizeOf, Cond.methodLink RX6 210 yX4_coefficientAt, Cond.methodLink RX6 213 yX4_setAt]
def wsX6_term : List Cond := .code yX6_term cX6_term 5 (some .int) :: ((wsX6_term_r1 ++ (wsX6_term_r2 ++ (wsX6_term_r3 ++ (wsX6_term_r4 ++ (wsX6_term_r5 ++ wsX6_term_r6))))) ++ wsX60 ++ wsX00 ++ wsX40 ++ wsX20)
def wsX6_most_r1 : List Cond := [Cond.fieldLink RX6 19 "GateSums" "circuit" "LGateSums$Circuit;", Cond.fieldLink RX6 197 "GateSums$Circuit" "gates" "I", Cond.fieldLink RX6 39 "GateSums" "stages" "LGateSums$Stages;", Cond.methodLink RX6 200 yX6_stageRefusal, Cond.instanceMethod yX6_stageRefusal, Cond.selects RX6 yX6_stageRefusal yX6_stageRefusal, Cond.initialized RX6, Cond.code yX6_stageRefusal cX6_stageRefusal 4 (some .int), Cond.methodLink RX6 80 yX6_refusal, Cond.instanceMethod yX6_refusal, Cond.selects RX6 yX6_refusal yX6_refusal, Cond.code yX6_refusal cX6_refusal 2 (some .int), Cond.fieldLink RX6 256 "GateSums$Circuit" "there" "Z", Cond.methodLink RX6 43 yX6_refused, Cond.instanceMethod yX6_refused, Cond.selects RX6 yX6_refused yX6_refused, Cond.code yX6_refused cX6_refused 2 (some .int), Cond.fieldLink RX6 237 "GateSums" "bads" "I", Cond.fieldLink RX6 240 "GateSums" "noes" "I", Cond.fieldLink RX6 243 "GateSums" "fulls" "I", Cond.methodLink RX6 263 yX4_reach, Cond.instanceMethod yX4_reach, Cond.selects RX4 yX4_reach yX4_reach, Cond.initialized RX4]
def wsX6_most_r2 : List Cond := [Cond.code yX4_reach cX4_reach 4 (some .boolean), Cond.fieldLink RX4 28 "GateSums$Stages" "known" "I", Cond.fieldLink RX4 9 "GateSums$Stages" "sizes" "[I", Cond.fieldLink RX4 32 "GateSums$Stages" "burst" "Z", Cond.fieldLink RX4 24 "GateSums$Stages" "work" "LGateSums$Polynomial;", Cond.fieldLink RX4 36 "GateSums$Polynomial" "size" "I", Cond.fieldLink RX4 46 "GateSums$Circuit" "gates" "I", Cond.methodLink RX4 39 yX4_addOutputs, Cond.instanceMethod yX4_addOutputs, Cond.selects RX4 yX4_addOutputs yX4_addOutputs, Cond.code yX4_addOutputs cX4_addOutputs 3 none, Cond.fieldLink RX4 69 "GateSums$Circuit" "outputs" "I", Cond.methodLink RX4 72 yX0_outputAt, Cond.instanceMethod yX0_outputAt, Cond.selects RX0 yX0_outputAt yX0_outputAt, Cond.initialized RX0, Cond.code yX0_outputAt cX0_outputAt 2 (some .int), Cond.fieldLink RX0 21 "GateSums$Circuit" "places" "[I", Cond.static yX6_at, Cond.code yX6_at cX6_at 2 (some .int), Cond.static yX6_setOf, Cond.code yX6_setOf cX6_setOf 1 (some .int), Cond.methodLink RX4 79 yX2_add, Cond.instanceMethod yX2_add]
def wsX6_most_r3 : List Cond := [Cond.selects RX2 yX2_add yX2_add, Cond.initialized RX2, Cond.code yX2_add cX2_add 5 none, Cond.fieldLink RX2 22 "GateSums$Polynomial" "size" "I", Cond.fieldLink RX2 11 "GateSums$Polynomial" "sets" "[I", Cond.fieldLink RX2 15 "GateSums$Polynomial" "coefficients" "[I", Cond.methodLink RX2 18 yX2_placeOf, Cond.instanceMethod yX2_placeOf, Cond.selects RX2 yX2_placeOf yX2_placeOf, Cond.code yX2_placeOf cX2_placeOf 6 (some .int), Cond.methodLink RX2 30 yX2_insert, Cond.instanceMethod yX2_insert, Cond.selects RX2 yX2_insert yX2_insert, Cond.code yX2_insert cX2_insert 4 none, Cond.methodLink RX2 42 arraycopyName, Cond.native arraycopyName, Cond.static arraycopyName, Cond.initialized "java/lang/System", Cond.static yX6_put, Cond.code yX6_put cX6_put 3 none, Cond.methodLink RX2 34 yX2_remove, Cond.instanceMethod yX2_remove, Cond.selects RX2 yX2_remove yX2_remove, Cond.code yX2_remove cX2_remove 3 none]
def wsX6_most_r4 : List Cond := [Cond.methodLink RX4 43 yX4_takeTask, Cond.instanceMethod yX4_takeTask, Cond.selects RX4 yX4_takeTask yX4_takeTask, Cond.code yX4_takeTask cX4_takeTask 7 none, Cond.fieldLink RX4 83 "GateSums$Circuit" "p" "I", Cond.fieldLink RX4 86 "GateSums$Circuit" "task" "I", Cond.fieldLink RX4 89 "GateSums$Circuit" "q" "I", Cond.fieldLink RX4 92 "GateSums$Stages" "TASK_OF_A" "[I", Cond.fieldLink RX4 95 "GateSums$Stages" "TASK_OF_B" "[I", Cond.methodLink RX4 51 yX4_replaceGate, Cond.instanceMethod yX4_replaceGate, Cond.selects RX4 yX4_replaceGate yX4_replaceGate, Cond.code yX4_replaceGate cX4_replaceGate 12 none, Cond.fieldLink RX4 98 "GateSums$Circuit" "inputs" "I", Cond.fieldLink RX4 120 "GateSums$Stages" "OF_ONE" "[I", Cond.fieldLink RX4 123 "GateSums$Stages" "OF_X" "[I", Cond.fieldLink RX4 126 "GateSums$Stages" "OF_Y" "[I", Cond.fieldLink RX4 129 "GateSums$Stages" "OF_BOTH" "[I", Cond.methodLink RX4 101 yX0_xOf, Cond.instanceMethod yX0_xOf, Cond.selects RX0 yX0_xOf yX0_xOf, Cond.code yX0_xOf cX0_xOf 2 (some .int), Cond.fieldLink RX0 15 "GateSums$Circuit" "xs" "[I", Cond.methodLink RX4 104 yX0_yOf]
def wsX6_most_r5 : List Cond := [Cond.instanceMethod yX0_yOf, Cond.selects RX0 yX0_yOf yX0_yOf, Cond.code yX0_yOf cX0_yOf 2 (some .int), Cond.fieldLink RX0 18 "GateSums$Circuit" "ys" "[I", Cond.methodLink RX4 107 yX0_kindOf, Cond.instanceMethod yX0_kindOf, Cond.selects RX0 yX0_kindOf yX0_kindOf, Cond.code yX0_kindOf cX0_kindOf 2 (some .int), Cond.fieldLink RX0 9 "GateSums$Circuit" "kinds" "[I", Cond.methodLink RX4 110 yX4_sizeOf, Cond.instanceMethod yX4_sizeOf, Cond.selects RX4 yX4_sizeOf yX4_sizeOf, Cond.code yX4_sizeOf cX4_sizeOf 2 (some .int), Cond.methodLink RX4 113 yX4_setAt, Cond.instanceMethod yX4_setAt, Cond.selects RX4 yX4_setAt yX4_setAt, Cond.code yX4_setAt cX4_setAt 3 (some .int), Cond.fieldLink RX4 15 "GateSums$Stages" "sets" "[I", Cond.methodLink RX4 117 yX4_coefficientAt, Cond.instanceMethod yX4_coefficientAt, Cond.selects RX4 yX4_coefficientAt yX4_coefficientAt, Cond.code yX4_coefficientAt cX4_coefficientAt 3 (some .int), Cond.fieldLink RX4 18 "GateSums$Stages" "coefficients" "[I", Cond.methodLink RX4 55 yX4_keep]
def wsX6_most_r6 : List Cond := [Cond.instanceMethod yX4_keep, Cond.selects RX4 yX4_keep yX4_keep, Cond.code yX4_keep cX4_keep 3 none, Cond.fieldLink RX4 63 "GateSums$Polynomial" "sets" "[I", Cond.fieldLink RX4 68 "GateSums$Polynomial" "coefficients" "[I", Cond.methodLink RX6 216 yX4_greatestSize, Cond.instanceMethod yX4_greatestSize, Cond.selects RX4 yX4_greatestSize yX4_greatestSize, Cond.code yX4_greatestSize cX4_greatestSize 4 (some .int), Cond.methodLink RX4 132 Lib.Math.max.name, Cond.static Lib.Math.max.name, Cond.initialized "java/lang/Math", Cond.code Lib.Math.max.name Lib.Math.max.code 2 (some .int), Cond.methodLink RX6 219 yX4_widestOf, Cond.instanceMethod yX4_widestOf, Cond.selects RX4 yX4_widestOf yX4_widestOf, Cond.code yX4_widestOf cX4_widestOf 4 (some .int), Cond.methodLink RX4 137 yJ6_bitCount_0f7a4, Cond.static yJ6_bitCount_0f7a4, Cond.initialized RJ6, Cond.code yJ6_bitCount_0f7a4 cJ6_bitCount_0f7a4 1 (some .int), Cond.constant RJ6 265 (1431655765), Cond.constant RJ6 266 (858993459), Cond.constant RJ6 267 (252645135)]
def wsX6_most_r7 : List Cond := [Cond.methodLink RX6 222 yX4_sumWhere, Cond.instanceMethod yX4_sumWhere, Cond.selects RX4 yX4_sumWhere yX4_sumWhere, Cond.code yX4_sumWhere cX4_sumWhere 6 (some .int)]
def wsX6_most : List Cond := .code yX6_most cX6_most 4 (some .int) :: ((wsX6_most_r1 ++ (wsX6_most_r2 ++ (wsX6_most_r3 ++ (wsX6_most_r4 ++ (wsX6_most_r5 ++ (wsX6_most_r6 ++ wsX6_most_r7)))))) ++ wsX60 ++ wsX00 ++ wsX40 ++ wsX20)
def wsX6_dearest_r1 : List Cond := [Cond.fieldLink RX6 39 "GateSums" "stages" "LGateSums$Stages;", Cond.methodLink RX6 207 yX6_isStage, Cond.instanceMethod yX6_isStage, Cond.selects RX6 yX6_isStage yX6_isStage, Cond.initialized RX6, Cond.code yX6_isStage cX6_isStage 2 (some .boolean), Cond.fieldLink RX6 19 "GateSums" "circuit" "LGateSums$Circuit;", Cond.fieldLink RX6 256 "GateSums$Circuit" "there" "Z", Cond.fieldLink RX6 197 "GateSums$Circuit" "gates" "I", Cond.methodLink RX6 200 yX6_stageRefusal, Cond.instanceMethod yX6_stageRefusal, Cond.selects RX6 yX6_stageRefusal yX6_stageRefusal, Cond.code yX6_stageRefusal cX6_stageRefusal 4 (some .int), Cond.methodLink RX6 80 yX6_refusal, Cond.instanceMethod yX6_refusal, Cond.selects RX6 yX6_refusal yX6_refusal, Cond.code yX6_refusal cX6_refusal 2 (some .int), Cond.methodLink RX6 43 yX6_refused, Cond.instanceMethod yX6_refused, Cond.selects RX6 yX6_refused yX6_refused, Cond.code yX6_refused cX6_refused 2 (some .int), Cond.fieldLink RX6 237 "GateSums" "bads" "I", Cond.fieldLink RX6 240 "GateSums" "noes" "I", Cond.fieldLink RX6 243 "GateSums" "fulls" "I"]
def wsX6_dearest_r2 : List Cond := [Cond.methodLink RX6 263 yX4_reach, Cond.instanceMethod yX4_reach, Cond.selects RX4 yX4_reach yX4_reach, Cond.initialized RX4, Cond.code yX4_reach cX4_reach 4 (some .boolean), Cond.fieldLink RX4 28 "GateSums$Stages" "known" "I", Cond.fieldLink RX4 9 "GateSums$Stages" "sizes" "[I", Cond.fieldLink RX4 32 "GateSums$Stages" "burst" "Z", Cond.fieldLink RX4 24 "GateSums$Stages" "work" "LGateSums$Polynomial;", Cond.fieldLink RX4 36 "GateSums$Polynomial" "size" "I", Cond.fieldLink RX4 46 "GateSums$Circuit" "gates" "I", Cond.methodLink RX4 39 yX4_addOutputs, Cond.instanceMethod yX4_addOutputs, Cond.selects RX4 yX4_addOutputs yX4_addOutputs, Cond.code yX4_addOutputs cX4_addOutputs 3 none, Cond.fieldLink RX4 69 "GateSums$Circuit" "outputs" "I", Cond.methodLink RX4 72 yX0_outputAt, Cond.instanceMethod yX0_outputAt, Cond.selects RX0 yX0_outputAt yX0_outputAt, Cond.initialized RX0, Cond.code yX0_outputAt cX0_outputAt 2 (some .int), Cond.fieldLink RX0 21 "GateSums$Circuit" "places" "[I", Cond.static yX6_at, Cond.code yX6_at cX6_at 2 (some .int)]
def wsX6_dearest_r3 : List Cond := [Cond.static yX6_setOf, Cond.code yX6_setOf cX6_setOf 1 (some .int), Cond.methodLink RX4 79 yX2_add, Cond.instanceMethod yX2_add, Cond.selects RX2 yX2_add yX2_add, Cond.initialized RX2, Cond.code yX2_add cX2_add 5 none, Cond.fieldLink RX2 22 "GateSums$Polynomial" "size" "I", Cond.fieldLink RX2 11 "GateSums$Polynomial" "sets" "[I", Cond.fieldLink RX2 15 "GateSums$Polynomial" "coefficients" "[I", Cond.methodLink RX2 18 yX2_placeOf, Cond.instanceMethod yX2_placeOf, Cond.selects RX2 yX2_placeOf yX2_placeOf, Cond.code yX2_placeOf cX2_placeOf 6 (some .int), Cond.methodLink RX2 30 yX2_insert, Cond.instanceMethod yX2_insert, Cond.selects RX2 yX2_insert yX2_insert, Cond.code yX2_insert cX2_insert 4 none, Cond.methodLink RX2 42 arraycopyName, Cond.native arraycopyName, Cond.static arraycopyName, Cond.initialized "java/lang/System", Cond.static yX6_put, Cond.code yX6_put cX6_put 3 none]
def wsX6_dearest_r4 : List Cond := [Cond.methodLink RX2 34 yX2_remove, Cond.instanceMethod yX2_remove, Cond.selects RX2 yX2_remove yX2_remove, Cond.code yX2_remove cX2_remove 3 none, Cond.methodLink RX4 43 yX4_takeTask, Cond.instanceMethod yX4_takeTask, Cond.selects RX4 yX4_takeTask yX4_takeTask, Cond.code yX4_takeTask cX4_takeTask 7 none, Cond.fieldLink RX4 83 "GateSums$Circuit" "p" "I", Cond.fieldLink RX4 86 "GateSums$Circuit" "task" "I", Cond.fieldLink RX4 89 "GateSums$Circuit" "q" "I", Cond.fieldLink RX4 92 "GateSums$Stages" "TASK_OF_A" "[I", Cond.fieldLink RX4 95 "GateSums$Stages" "TASK_OF_B" "[I", Cond.methodLink RX4 51 yX4_replaceGate, Cond.instanceMethod yX4_replaceGate, Cond.selects RX4 yX4_replaceGate yX4_replaceGate, Cond.code yX4_replaceGate cX4_replaceGate 12 none, Cond.fieldLink RX4 98 "GateSums$Circuit" "inputs" "I", Cond.fieldLink RX4 120 "GateSums$Stages" "OF_ONE" "[I", Cond.fieldLink RX4 123 "GateSums$Stages" "OF_X" "[I", Cond.fieldLink RX4 126 "GateSums$Stages" "OF_Y" "[I", Cond.fieldLink RX4 129 "GateSums$Stages" "OF_BOTH" "[I", Cond.methodLink RX4 101 yX0_xOf, Cond.instanceMethod yX0_xOf]
def wsX6_dearest_r5 : List Cond := [Cond.selects RX0 yX0_xOf yX0_xOf, Cond.code yX0_xOf cX0_xOf 2 (some .int), Cond.fieldLink RX0 15 "GateSums$Circuit" "xs" "[I", Cond.methodLink RX4 104 yX0_yOf, Cond.instanceMethod yX0_yOf, Cond.selects RX0 yX0_yOf yX0_yOf, Cond.code yX0_yOf cX0_yOf 2 (some .int), Cond.fieldLink RX0 18 "GateSums$Circuit" "ys" "[I", Cond.methodLink RX4 107 yX0_kindOf, Cond.instanceMethod yX0_kindOf, Cond.selects RX0 yX0_kindOf yX0_kindOf, Cond.code yX0_kindOf cX0_kindOf 2 (some .int), Cond.fieldLink RX0 9 "GateSums$Circuit" "kinds" "[I", Cond.methodLink RX4 110 yX4_sizeOf, Cond.instanceMethod yX4_sizeOf, Cond.selects RX4 yX4_sizeOf yX4_sizeOf, Cond.code yX4_sizeOf cX4_sizeOf 2 (some .int), Cond.methodLink RX4 113 yX4_setAt, Cond.instanceMethod yX4_setAt, Cond.selects RX4 yX4_setAt yX4_setAt, Cond.code yX4_setAt cX4_setAt 3 (some .int), Cond.fieldLink RX4 15 "GateSums$Stages" "sets" "[I", Cond.methodLink RX4 117 yX4_coefficientAt, Cond.instanceMethod yX4_coefficientAt]
def wsX6_dearest_r6 : List Cond := [Cond.selects RX4 yX4_coefficientAt yX4_coefficientAt, Cond.code yX4_coefficientAt cX4_coefficientAt 3 (some .int), Cond.fieldLink RX4 18 "GateSums$Stages" "coefficients" "[I", Cond.methodLink RX4 55 yX4_keep, Cond.instanceMethod yX4_keep, Cond.selects RX4 yX4_keep yX4_keep, Cond.code yX4_keep cX4_keep 3 none, Cond.fieldLink RX4 63 "GateSums$Polynomial" "sets" "[I", Cond.fieldLink RX4 68 "GateSums$Polynomial" "coefficients" "[I", Cond.methodLink RX6 225 yX4_dearestOf, Cond.instanceMethod yX4_dearestOf, Cond.selects RX4 yX4_dearestOf yX4_dearestOf, Cond.code yX4_dearestOf cX4_dearestOf 4 (some .int), Cond.methodLink RX4 142 yX4_dearerThan, Cond.instanceMethod yX4_dearerThan, Cond.selects RX4 yX4_dearerThan yX4_dearerThan, Cond.code yX4_dearerThan cX4_dearerThan 7 (some .int), Cond.methodLink RX4 145 Lib.Math.abs.name, Cond.static Lib.Math.abs.name, Cond.initialized "java/lang/Math", Cond.code Lib.Math.abs.name Lib.Math.abs.code 1 (some .int)]
def wsX6_dearest : List Cond := .code yX6_dearest cX6_dearest 4 (some .int) :: ((wsX6_dearest_r1 ++ (wsX6_dearest_r2 ++ (wsX6_dearest_r3 ++ (wsX6_dearest_r4 ++ (wsX6_dearest_r5 ++ wsX6_dearest_r6))))) ++ wsX60 ++ wsX00 ++ wsX40 ++ wsX20)
def wsX6_value_r1 : List Cond := [Cond.fieldLink RX6 39 "GateSums" "stages" "LGateSums$Stages;", Cond.fieldLink RX6 29 "GateSums" "columns" "LGateSums$Columns;", Cond.fieldLink RX6 19 "GateSums" "circuit" "LGateSums$Circuit;", Cond.methodLink RX6 207 yX6_isStage, Cond.instanceMethod yX6_isStage, Cond.selects RX6 yX6_isStage yX6_isStage, Cond.initialized RX6, Cond.code yX6_isStage cX6_isStage 2 (some .boolean), Cond.fieldLink RX6 256 "GateSums$Circuit" "there" "Z", Cond.fieldLink RX6 197 "GateSums$Circuit" "gates" "I", Cond.methodLink RX6 170 yX6_isInputs, Cond.instanceMethod yX6_isInputs, Cond.selects RX6 yX6_isInputs yX6_isInputs, Cond.code yX6_isInputs cX6_isInputs 2 (some .boolean), Cond.fieldLink RX6 117 "GateSums$Circuit" "inputs" "I", Cond.methodLink RX6 200 yX6_stageRefusal, Cond.instanceMethod yX6_stageRefusal, Cond.selects RX6 yX6_stageRefusal yX6_stageRefusal, Cond.code yX6_stageRefusal cX6_stageRefusal 4 (some .int), Cond.methodLink RX6 80 yX6_refusal, Cond.instanceMethod yX6_refusal, Cond.selects RX6 yX6_refusal yX6_refusal, Cond.code yX6_refusal cX6_refusal 2 (some .int), Cond.methodLink RX6 43 yX6_refused]
def wsX6_value_r2 : List Cond := [Cond.instanceMethod yX6_refused, Cond.selects RX6 yX6_refused yX6_refused, Cond.code yX6_refused cX6_refused 2 (some .int), Cond.fieldLink RX6 237 "GateSums" "bads" "I", Cond.fieldLink RX6 240 "GateSums" "noes" "I", Cond.fieldLink RX6 243 "GateSums" "fulls" "I", Cond.methodLink RX6 263 yX4_reach, Cond.instanceMethod yX4_reach, Cond.selects RX4 yX4_reach yX4_reach, Cond.initialized RX4, Cond.code yX4_reach cX4_reach 4 (some .boolean), Cond.fieldLink RX4 28 "GateSums$Stages" "known" "I", Cond.fieldLink RX4 9 "GateSums$Stages" "sizes" "[I", Cond.fieldLink RX4 32 "GateSums$Stages" "burst" "Z", Cond.fieldLink RX4 24 "GateSums$Stages" "work" "LGateSums$Polynomial;", Cond.fieldLink RX4 36 "GateSums$Polynomial" "size" "I", Cond.fieldLink RX4 46 "GateSums$Circuit" "gates" "I", Cond.methodLink RX4 39 yX4_addOutputs, Cond.instanceMethod yX4_addOutputs, Cond.selects RX4 yX4_addOutputs yX4_addOutputs, Cond.code yX4_addOutputs cX4_addOutputs 3 none, Cond.fieldLink RX4 69 "GateSums$Circuit" "outputs" "I", Cond.methodLink RX4 72 yX0_outputAt, Cond.instanceMethod yX0_outputAt]
def wsX6_value_r3 : List Cond := [Cond.selects RX0 yX0_outputAt yX0_outputAt, Cond.initialized RX0, Cond.code yX0_outputAt cX0_outputAt 2 (some .int), Cond.fieldLink RX0 21 "GateSums$Circuit" "places" "[I", Cond.static yX6_at, Cond.code yX6_at cX6_at 2 (some .int), Cond.static yX6_setOf, Cond.code yX6_setOf cX6_setOf 1 (some .int), Cond.methodLink RX4 79 yX2_add, Cond.instanceMethod yX2_add, Cond.selects RX2 yX2_add yX2_add, Cond.initialized RX2, Cond.code yX2_add cX2_add 5 none, Cond.fieldLink RX2 22 "GateSums$Polynomial" "size" "I", Cond.fieldLink RX2 11 "GateSums$Polynomial" "sets" "[I", Cond.fieldLink RX2 15 "GateSums$Polynomial" "coefficients" "[I", Cond.methodLink RX2 18 yX2_placeOf, Cond.instanceMethod yX2_placeOf, Cond.selects RX2 yX2_placeOf yX2_placeOf, Cond.code yX2_placeOf cX2_placeOf 6 (some .int), Cond.methodLink RX2 30 yX2_insert, Cond.instanceMethod yX2_insert, Cond.selects RX2 yX2_insert yX2_insert, Cond.code yX2_insert cX2_insert 4 none]
def wsX6_value_r4 : List Cond := [Cond.methodLink RX2 42 arraycopyName, Cond.native arraycopyName, Cond.static arraycopyName, Cond.initialized "java/lang/System", Cond.static yX6_put, Cond.code yX6_put cX6_put 3 none, Cond.methodLink RX2 34 yX2_remove, Cond.instanceMethod yX2_remove, Cond.selects RX2 yX2_remove yX2_remove, Cond.code yX2_remove cX2_remove 3 none, Cond.methodLink RX4 43 yX4_takeTask, Cond.instanceMethod yX4_takeTask, Cond.selects RX4 yX4_takeTask yX4_takeTask, Cond.code yX4_takeTask cX4_takeTask 7 none, Cond.fieldLink RX4 83 "GateSums$Circuit" "p" "I", Cond.fieldLink RX4 86 "GateSums$Circuit" "task" "I", Cond.fieldLink RX4 89 "GateSums$Circuit" "q" "I", Cond.fieldLink RX4 92 "GateSums$Stages" "TASK_OF_A" "[I", Cond.fieldLink RX4 95 "GateSums$Stages" "TASK_OF_B" "[I", Cond.methodLink RX4 51 yX4_replaceGate, Cond.instanceMethod yX4_replaceGate, Cond.selects RX4 yX4_replaceGate yX4_replaceGate, Cond.code yX4_replaceGate cX4_replaceGate 12 none, Cond.fieldLink RX4 98 "GateSums$Circuit" "inputs" "I"]
def wsX6_value_r5 : List Cond := [Cond.fieldLink RX4 120 "GateSums$Stages" "OF_ONE" "[I", Cond.fieldLink RX4 123 "GateSums$Stages" "OF_X" "[I", Cond.fieldLink RX4 126 "GateSums$Stages" "OF_Y" "[I", Cond.fieldLink RX4 129 "GateSums$Stages" "OF_BOTH" "[I", Cond.methodLink RX4 101 yX0_xOf, Cond.instanceMethod yX0_xOf, Cond.selects RX0 yX0_xOf yX0_xOf, Cond.code yX0_xOf cX0_xOf 2 (some .int), Cond.fieldLink RX0 15 "GateSums$Circuit" "xs" "[I", Cond.methodLink RX4 104 yX0_yOf, Cond.instanceMethod yX0_yOf, Cond.selects RX0 yX0_yOf yX0_yOf, Cond.code yX0_yOf cX0_yOf 2 (some .int), Cond.fieldLink RX0 18 "GateSums$Circuit" "ys" "[I", Cond.methodLink RX4 107 yX0_kindOf, Cond.instanceMethod yX0_kindOf, Cond.selects RX0 yX0_kindOf yX0_kindOf, Cond.code yX0_kindOf cX0_kindOf 2 (some .int), Cond.fieldLink RX0 9 "GateSums$Circuit" "kinds" "[I", Cond.methodLink RX4 110 yX4_sizeOf, Cond.instanceMethod yX4_sizeOf, Cond.selects RX4 yX4_sizeOf yX4_sizeOf, Cond.code yX4_sizeOf cX4_sizeOf 2 (some .int), Cond.methodLink RX4 113 yX4_setAt]
def wsX6_value_r6 : List Cond := [Cond.instanceMethod yX4_setAt, Cond.selects RX4 yX4_setAt yX4_setAt, Cond.code yX4_setAt cX4_setAt 3 (some .int), Cond.fieldLink RX4 15 "GateSums$Stages" "sets" "[I", Cond.methodLink RX4 117 yX4_coefficientAt, Cond.instanceMethod yX4_coefficientAt, Cond.selects RX4 yX4_coefficientAt yX4_coefficientAt, Cond.code yX4_coefficientAt cX4_coefficientAt 3 (some .int), Cond.fieldLink RX4 18 "GateSums$Stages" "coefficients" "[I", Cond.methodLink RX4 55 yX4_keep, Cond.instanceMethod yX4_keep, Cond.selects RX4 yX4_keep yX4_keep, Cond.code yX4_keep cX4_keep 3 none, Cond.fieldLink RX4 63 "GateSums$Polynomial" "sets" "[I", Cond.fieldLink RX4 68 "GateSums$Polynomial" "coefficients" "[I", Cond.methodLink RX6 228 yX1_trueSignals, Cond.instanceMethod yX1_trueSignals, Cond.selects RX1 yX1_trueSignals yX1_trueSignals, Cond.initialized RX1, Cond.code yX1_trueSignals cX1_trueSignals 5 (some .int), Cond.methodLink RX1 57 yX0_signals, Cond.instanceMethod yX0_signals, Cond.selects RX0 yX0_signals yX0_signals, Cond.code yX0_signals cX0_signals 1 (some .int)]
def wsX6_value_r7 : List Cond := [Cond.fieldLink RX0 28 "GateSums$Circuit" "inputs" "I", Cond.fieldLink RX0 32 "GateSums$Circuit" "gates" "I", Cond.methodLink RX1 53 yX1_bit, Cond.instanceMethod yX1_bit, Cond.selects RX1 yX1_bit yX1_bit, Cond.code yX1_bit cX1_bit 3 (some .int), Cond.methodLink RX1 38 yX1_row, Cond.instanceMethod yX1_row, Cond.selects RX1 yX1_row yX1_row, Cond.code yX1_row cX1_row 2 (some .long), Cond.fieldLink RX1 9 "GateSums$Columns" "rows" "[J", Cond.methodLink RX6 222 yX4_sumWhere, Cond.instanceMethod yX4_sumWhere, Cond.selects RX4 yX4_sumWhere yX4_sumWhere, Cond.code yX4_sumWhere cX4_sumWhere 6 (some .int)]
def wsX6_value : List Cond := .code yX6_value cX6_value 4 (some .int) :: ((wsX6_value_r1 ++ (wsX6_value_r2 ++ (wsX6_value_r3 ++ (wsX6_value_r4 ++ (wsX6_value_r5 ++ (wsX6_value_r6 ++ wsX6_value_r7)))))) ++ wsX60 ++ wsX00 ++ wsX40 ++ wsX20 ++ wsX10)
def wsX6_stands_r1 : List Cond := [Cond.fieldLink RX6 39 "GateSums" "stages" "LGateSums$Stages;", Cond.methodLink RX6 207 yX6_isStage, Cond.instanceMethod yX6_isStage, Cond.selects RX6 yX6_isStage yX6_isStage, Cond.initialized RX6, Cond.code yX6_isStage cX6_isStage 2 (some .boolean), Cond.fieldLink RX6 19 "GateSums" "circuit" "LGateSums$Circuit;", Cond.fieldLink RX6 256 "GateSums$Circuit" "there" "Z", Cond.fieldLink RX6 197 "GateSums$Circuit" "gates" "I", Cond.methodLink RX6 200 yX6_stageRefusal, Cond.instanceMethod yX6_stageRefusal, Cond.selects RX6 yX6_stageRefusal yX6_stageRefusal, Cond.code yX6_stageRefusal cX6_stageRefusal 4 (some .int), Cond.methodLink RX6 80 yX6_refusal, Cond.instanceMethod yX6_refusal, Cond.selects RX6 yX6_refusal yX6_refusal, Cond.code yX6_refusal cX6_refusal 2 (some .int), Cond.methodLink RX6 43 yX6_refused, Cond.instanceMethod yX6_refused, Cond.selects RX6 yX6_refused yX6_refused, Cond.code yX6_refused cX6_refused 2 (some .int), Cond.fieldLink RX6 237 "GateSums" "bads" "I", Cond.fieldLink RX6 240 "GateSums" "noes" "I", Cond.fieldLink RX6 243 "GateSums" "fulls" "I"]
def wsX6_stands_r2 : List Cond := [Cond.methodLink RX6 263 yX4_reach, Cond.instanceMethod yX4_reach, Cond.selects RX4 yX4_reach yX4_reach, Cond.initialized RX4, Cond.code yX4_reach cX4_reach 4 (some .boolean), Cond.fieldLink RX4 28 "GateSums$Stages" "known" "I", Cond.fieldLink RX4 9 "GateSums$Stages" "sizes" "[I", Cond.fieldLink RX4 32 "GateSums$Stages" "burst" "Z", Cond.fieldLink RX4 24 "GateSums$Stages" "work" "LGateSums$Polynomial;", Cond.fieldLink RX4 36 "GateSums$Polynomial" "size" "I", Cond.fieldLink RX4 46 "GateSums$Circuit" "gates" "I", Cond.methodLink RX4 39 yX4_addOutputs, Cond.instanceMethod yX4_addOutputs, Cond.selects RX4 yX4_addOutputs yX4_addOutputs, Cond.code yX4_addOutputs cX4_addOutputs 3 none, Cond.fieldLink RX4 69 "GateSums$Circuit" "outputs" "I", Cond.methodLink RX4 72 yX0_outputAt, Cond.instanceMethod yX0_outputAt, Cond.selects RX0 yX0_outputAt yX0_outputAt, Cond.initialized RX0, Cond.code yX0_outputAt cX0_outputAt 2 (some .int), Cond.fieldLink RX0 21 "GateSums$Circuit" "places" "[I", Cond.static yX6_at, Cond.code yX6_at cX6_at 2 (some .int)]
def wsX6_stands_r3 : List Cond := [Cond.static yX6_setOf, Cond.code yX6_setOf cX6_setOf 1 (some .int), Cond.methodLink RX4 79 yX2_add, Cond.instanceMethod yX2_add, Cond.selects RX2 yX2_add yX2_add, Cond.initialized RX2, Cond.code yX2_add cX2_add 5 none, Cond.fieldLink RX2 22 "GateSums$Polynomial" "size" "I", Cond.fieldLink RX2 11 "GateSums$Polynomial" "sets" "[I", Cond.fieldLink RX2 15 "GateSums$Polynomial" "coefficients" "[I", Cond.methodLink RX2 18 yX2_placeOf, Cond.instanceMethod yX2_placeOf, Cond.selects RX2 yX2_placeOf yX2_placeOf, Cond.code yX2_placeOf cX2_placeOf 6 (some .int), Cond.methodLink RX2 30 yX2_insert, Cond.instanceMethod yX2_insert, Cond.selects RX2 yX2_insert yX2_insert, Cond.code yX2_insert cX2_insert 4 none, Cond.methodLink RX2 42 arraycopyName, Cond.native arraycopyName, Cond.static arraycopyName, Cond.initialized "java/lang/System", Cond.static yX6_put, Cond.code yX6_put cX6_put 3 none]
def wsX6_stands_r4 : List Cond := [Cond.methodLink RX2 34 yX2_remove, Cond.instanceMethod yX2_remove, Cond.selects RX2 yX2_remove yX2_remove, Cond.code yX2_remove cX2_remove 3 none, Cond.methodLink RX4 43 yX4_takeTask, Cond.instanceMethod yX4_takeTask, Cond.selects RX4 yX4_takeTask yX4_takeTask, Cond.code yX4_takeTask cX4_takeTask 7 none, Cond.fieldLink RX4 83 "GateSums$Circuit" "p" "I", Cond.fieldLink RX4 86 "GateSums$Circuit" "task" "I", Cond.fieldLink RX4 89 "GateSums$Circuit" "q" "I", Cond.fieldLink RX4 92 "GateSums$Stages" "TASK_OF_A" "[I", Cond.fieldLink RX4 95 "GateSums$Stages" "TASK_OF_B" "[I", Cond.methodLink RX4 51 yX4_replaceGate, Cond.instanceMethod yX4_replaceGate, Cond.selects RX4 yX4_replaceGate yX4_replaceGate, Cond.code yX4_replaceGate cX4_replaceGate 12 none, Cond.fieldLink RX4 98 "GateSums$Circuit" "inputs" "I", Cond.fieldLink RX4 120 "GateSums$Stages" "OF_ONE" "[I", Cond.fieldLink RX4 123 "GateSums$Stages" "OF_X" "[I", Cond.fieldLink RX4 126 "GateSums$Stages" "OF_Y" "[I", Cond.fieldLink RX4 129 "GateSums$Stages" "OF_BOTH" "[I", Cond.methodLink RX4 101 yX0_xOf, Cond.instanceMethod yX0_xOf]
def wsX6_stands_r5 : List Cond := [Cond.selects RX0 yX0_xOf yX0_xOf, Cond.code yX0_xOf cX0_xOf 2 (some .int), Cond.fieldLink RX0 15 "GateSums$Circuit" "xs" "[I", Cond.methodLink RX4 104 yX0_yOf, Cond.instanceMethod yX0_yOf, Cond.selects RX0 yX0_yOf yX0_yOf, Cond.code yX0_yOf cX0_yOf 2 (some .int), Cond.fieldLink RX0 18 "GateSums$Circuit" "ys" "[I", Cond.methodLink RX4 107 yX0_kindOf, Cond.instanceMethod yX0_kindOf, Cond.selects RX0 yX0_kindOf yX0_kindOf, Cond.code yX0_kindOf cX0_kindOf 2 (some .int), Cond.fieldLink RX0 9 "GateSums$Circuit" "kinds" "[I", Cond.methodLink RX4 110 yX4_sizeOf, Cond.instanceMethod yX4_sizeOf, Cond.selects RX4 yX4_sizeOf yX4_sizeOf, Cond.code yX4_sizeOf cX4_sizeOf 2 (some .int), Cond.methodLink RX4 113 yX4_setAt, Cond.instanceMethod yX4_setAt, Cond.selects RX4 yX4_setAt yX4_setAt, Cond.code yX4_setAt cX4_setAt 3 (some .int), Cond.fieldLink RX4 15 "GateSums$Stages" "sets" "[I", Cond.methodLink RX4 117 yX4_coefficientAt, Cond.instanceMethod yX4_coefficientAt]
def wsX6_stands_r6 : List Cond := [Cond.selects RX4 yX4_coefficientAt yX4_coefficientAt, Cond.code yX4_coefficientAt cX4_coefficientAt 3 (some .int), Cond.fieldLink RX4 18 "GateSums$Stages" "coefficients" "[I", Cond.methodLink RX4 55 yX4_keep, Cond.instanceMethod yX4_keep, Cond.selects RX4 yX4_keep yX4_keep, Cond.code yX4_keep cX4_keep 3 none, Cond.fieldLink RX4 63 "GateSums$Polynomial" "sets" "[I", Cond.fieldLink RX4 68 "GateSums$Polynomial" "coefficients" "[I", Cond.methodLink RX6 231 yX4_unionOf, Cond.instanceMethod yX4_unionOf, Cond.selects RX4 yX4_unionOf yX4_unionOf, Cond.code yX4_unionOf cX4_unionOf 4 (some .int)]
def wsX6_stands : List Cond := .code yX6_stands cX6_stands 3 (some .int) :: ((wsX6_stands_r1 ++ (wsX6_stands_r2 ++ (wsX6_stands_r3 ++ (wsX6_stands_r4 ++ (wsX6_stands_r5 ++ wsX6_stands_r6))))) ++ wsX60 ++ wsX00 ++ wsX40 ++ wsX20)
def wsX6_witness_r1 : List Cond := [Cond.fieldLink RX6 19 "GateSums" "circuit" "LGateSums$Circuit;", Cond.fieldLink RX6 197 "GateSums$Circuit" "gates" "I", Cond.fieldLink RX6 39 "GateSums" "stages" "LGateSums$Stages;", Cond.methodLink RX6 200 yX6_stageRefusal, Cond.instanceMethod yX6_stageRefusal, Cond.selects RX6 yX6_stageRefusal yX6_stageRefusal, Cond.initialized RX6, Cond.code yX6_stageRefusal cX6_stageRefusal 4 (some .int), Cond.methodLink RX6 80 yX6_refusal, Cond.instanceMethod yX6_refusal, Cond.selects RX6 yX6_refusal yX6_refusal, Cond.code yX6_refusal cX6_refusal 2 (some .int), Cond.fieldLink RX6 256 "GateSums$Circuit" "there" "Z", Cond.methodLink RX6 43 yX6_refused, Cond.instanceMethod yX6_refused, Cond.selects RX6 yX6_refused yX6_refused, Cond.code yX6_refused cX6_refused 2 (some .int), Cond.fieldLink RX6 237 "GateSums" "bads" "I", Cond.fieldLink RX6 240 "GateSums" "noes" "I", Cond.fieldLink RX6 243 "GateSums" "fulls" "I", Cond.methodLink RX6 263 yX4_reach, Cond.instanceMethod yX4_reach, Cond.selects RX4 yX4_reach yX4_reach, Cond.initialized RX4]
def wsX6_witness_r2 : List Cond := [Cond.code yX4_reach cX4_reach 4 (some .boolean), Cond.fieldLink RX4 28 "GateSums$Stages" "known" "I", Cond.fieldLink RX4 9 "GateSums$Stages" "sizes" "[I", Cond.fieldLink RX4 32 "GateSums$Stages" "burst" "Z", Cond.fieldLink RX4 24 "GateSums$Stages" "work" "LGateSums$Polynomial;", Cond.fieldLink RX4 36 "GateSums$Polynomial" "size" "I", Cond.fieldLink RX4 46 "GateSums$Circuit" "gates" "I", Cond.methodLink RX4 39 yX4_addOutputs, Cond.instanceMethod yX4_addOutputs, Cond.selects RX4 yX4_addOutputs yX4_addOutputs, Cond.code yX4_addOutputs cX4_addOutputs 3 none, Cond.fieldLink RX4 69 "GateSums$Circuit" "outputs" "I", Cond.methodLink RX4 72 yX0_outputAt, Cond.instanceMethod yX0_outputAt, Cond.selects RX0 yX0_outputAt yX0_outputAt, Cond.initialized RX0, Cond.code yX0_outputAt cX0_outputAt 2 (some .int), Cond.fieldLink RX0 21 "GateSums$Circuit" "places" "[I", Cond.static yX6_at, Cond.code yX6_at cX6_at 2 (some .int), Cond.static yX6_setOf, Cond.code yX6_setOf cX6_setOf 1 (some .int), Cond.methodLink RX4 79 yX2_add, Cond.instanceMethod yX2_add]
def wsX6_witness_r3 : List Cond := [Cond.selects RX2 yX2_add yX2_add, Cond.initialized RX2, Cond.code yX2_add cX2_add 5 none, Cond.fieldLink RX2 22 "GateSums$Polynomial" "size" "I", Cond.fieldLink RX2 11 "GateSums$Polynomial" "sets" "[I", Cond.fieldLink RX2 15 "GateSums$Polynomial" "coefficients" "[I", Cond.methodLink RX2 18 yX2_placeOf, Cond.instanceMethod yX2_placeOf, Cond.selects RX2 yX2_placeOf yX2_placeOf, Cond.code yX2_placeOf cX2_placeOf 6 (some .int), Cond.methodLink RX2 30 yX2_insert, Cond.instanceMethod yX2_insert, Cond.selects RX2 yX2_insert yX2_insert, Cond.code yX2_insert cX2_insert 4 none, Cond.methodLink RX2 42 arraycopyName, Cond.native arraycopyName, Cond.static arraycopyName, Cond.initialized "java/lang/System", Cond.static yX6_put, Cond.code yX6_put cX6_put 3 none, Cond.methodLink RX2 34 yX2_remove, Cond.instanceMethod yX2_remove, Cond.selects RX2 yX2_remove yX2_remove, Cond.code yX2_remove cX2_remove 3 none]
def wsX6_witness_r4 : List Cond := [Cond.methodLink RX4 43 yX4_takeTask, Cond.instanceMethod yX4_takeTask, Cond.selects RX4 yX4_takeTask yX4_takeTask, Cond.code yX4_takeTask cX4_takeTask 7 none, Cond.fieldLink RX4 83 "GateSums$Circuit" "p" "I", Cond.fieldLink RX4 86 "GateSums$Circuit" "task" "I", Cond.fieldLink RX4 89 "GateSums$Circuit" "q" "I", Cond.fieldLink RX4 92 "GateSums$Stages" "TASK_OF_A" "[I", Cond.fieldLink RX4 95 "GateSums$Stages" "TASK_OF_B" "[I", Cond.methodLink RX4 51 yX4_replaceGate, Cond.instanceMethod yX4_replaceGate, Cond.selects RX4 yX4_replaceGate yX4_replaceGate, Cond.code yX4_replaceGate cX4_replaceGate 12 none, Cond.fieldLink RX4 98 "GateSums$Circuit" "inputs" "I", Cond.fieldLink RX4 120 "GateSums$Stages" "OF_ONE" "[I", Cond.fieldLink RX4 123 "GateSums$Stages" "OF_X" "[I", Cond.fieldLink RX4 126 "GateSums$Stages" "OF_Y" "[I", Cond.fieldLink RX4 129 "GateSums$Stages" "OF_BOTH" "[I", Cond.methodLink RX4 101 yX0_xOf, Cond.instanceMethod yX0_xOf, Cond.selects RX0 yX0_xOf yX0_xOf, Cond.code yX0_xOf cX0_xOf 2 (some .int), Cond.fieldLink RX0 15 "GateSums$Circuit" "xs" "[I", Cond.methodLink RX4 104 yX0_yOf]
def wsX6_witness_r5 : List Cond := [Cond.instanceMethod yX0_yOf, Cond.selects RX0 yX0_yOf yX0_yOf, Cond.code yX0_yOf cX0_yOf 2 (some .int), Cond.fieldLink RX0 18 "GateSums$Circuit" "ys" "[I", Cond.methodLink RX4 107 yX0_kindOf, Cond.instanceMethod yX0_kindOf, Cond.selects RX0 yX0_kindOf yX0_kindOf, Cond.code yX0_kindOf cX0_kindOf 2 (some .int), Cond.fieldLink RX0 9 "GateSums$Circuit" "kinds" "[I", Cond.methodLink RX4 110 yX4_sizeOf, Cond.instanceMethod yX4_sizeOf, Cond.selects RX4 yX4_sizeOf yX4_sizeOf, Cond.code yX4_sizeOf cX4_sizeOf 2 (some .int), Cond.methodLink RX4 113 yX4_setAt, Cond.instanceMethod yX4_setAt, Cond.selects RX4 yX4_setAt yX4_setAt, Cond.code yX4_setAt cX4_setAt 3 (some .int), Cond.fieldLink RX4 15 "GateSums$Stages" "sets" "[I", Cond.methodLink RX4 117 yX4_coefficientAt, Cond.instanceMethod yX4_coefficientAt, Cond.selects RX4 yX4_coefficientAt yX4_coefficientAt, Cond.code yX4_coefficientAt cX4_coefficientAt 3 (some .int), Cond.fieldLink RX4 18 "GateSums$Stages" "coefficients" "[I", Cond.methodLink RX4 55 yX4_keep]
def wsX6_witness_r6 : List Cond := [Cond.instanceMethod yX4_keep, Cond.selects RX4 yX4_keep yX4_keep, Cond.code yX4_keep cX4_keep 3 none, Cond.fieldLink RX4 63 "GateSums$Polynomial" "sets" "[I", Cond.fieldLink RX4 68 "GateSums$Polynomial" "coefficients" "[I", Cond.methodLink RX6 234 yX4_narrowestOf, Cond.instanceMethod yX4_narrowestOf, Cond.selects RX4 yX4_narrowestOf yX4_narrowestOf, Cond.code yX4_narrowestOf cX4_narrowestOf 6 (some .int), Cond.methodLink RX4 137 yJ6_bitCount_0f7a4, Cond.static yJ6_bitCount_0f7a4, Cond.initialized RJ6, Cond.code yJ6_bitCount_0f7a4 cJ6_bitCount_0f7a4 1 (some .int), Cond.constant RJ6 265 (1431655765), Cond.constant RJ6 266 (858993459), Cond.constant RJ6 267 (252645135)]
def wsX6_witness : List Cond := .code yX6_witness cX6_witness 2 (some .int) :: ((wsX6_witness_r1 ++ (wsX6_witness_r2 ++ (wsX6_witness_r3 ++ (wsX6_witness_r4 ++ (wsX6_witness_r5 ++ wsX6_witness_r6))))) ++ wsX60 ++ wsX00 ++ wsX40 ++ wsX20)
def wsX6_count : List Cond := .code yX6_count cX6_count 2 (some .int) :: ([.fieldLink RX6 237 "GateSums" "bads" "I", .fieldLink RX6 240 "GateSums" "noes" "I", .fieldLink RX6 243 "GateSums" "fulls" "I", .fieldLink RX6 12 "GateSums" "reader" "LGateSums$Reader;", .fieldLink RX6 47 "GateSums$Reader" "text" "LGateSums$Text;", .fieldLink RX6 57 "GateSums$Text" "length" "I", .fieldLink RX6 19 "GateSums" "circuit" "LGateSums$Circuit;", .fieldLink RX6 117 "GateSums$Circuit" "inputs" "I", .fieldLink RX6 197 "GateSums$Circuit" "gates" "I", .fieldLink RX6 246 "GateSums$Circuit" "outputs" "I", .methodLink RX6 43 yX6_refused, .instanceMethod yX6_refused, .selects RX6 yX6_refused yX6_refused, .initialized RX6, .code yX6_refused cX6_refused 2 (some .int)] ++ wsX60 ++ wsX30 ++ wsX50 ++ wsX00)
def wsX6_digest_r1 : List Cond := [Cond.constantLong RX6 249 (1993), Cond.constantLong RX6 251 (31), Cond.fieldLink RX6 19 "GateSums" "circuit" "LGateSums$Circuit;", Cond.fieldLink RX6 197 "GateSums$Circuit" "gates" "I", Cond.fieldLink RX6 246 "GateSums$Circuit" "outputs" "I", Cond.fieldLink RX6 256 "GateSums$Circuit" "there" "Z", Cond.fieldLink RX6 129 "GateSums$Circuit" "task" "I", Cond.fieldLink RX6 132 "GateSums$Circuit" "p" "I", Cond.fieldLink RX6 135 "GateSums$Circuit" "q" "I", Cond.fieldLink RX6 29 "GateSums" "columns" "LGateSums$Columns;", Cond.methodLink RX6 253 yX6_count, Cond.instanceMethod yX6_count, Cond.selects RX6 yX6_count yX6_count, Cond.initialized RX6, Cond.code yX6_count cX6_count 2 (some .int), Cond.fieldLink RX6 237 "GateSums" "bads" "I", Cond.fieldLink RX6 240 "GateSums" "noes" "I", Cond.fieldLink RX6 243 "GateSums" "fulls" "I", Cond.fieldLink RX6 12 "GateSums" "reader" "LGateSums$Reader;", Cond.fieldLink RX6 47 "GateSums$Reader" "text" "LGateSums$Text;", Cond.fieldLink RX6 57 "GateSums$Text" "length" "I", Cond.fieldLink RX6 117 "GateSums$Circuit" "inputs" "I", Cond.methodLink RX6 43 yX6_refused, Cond.instanceMethod yX6_refused]
def wsX6_digest_r2 : List Cond := [Cond.selects RX6 yX6_refused yX6_refused, Cond.code yX6_refused cX6_refused 2 (some .int), Cond.methodLink RX6 84 yX0_kindOf, Cond.instanceMethod yX0_kindOf, Cond.selects RX0 yX0_kindOf yX0_kindOf, Cond.initialized RX0, Cond.code yX0_kindOf cX0_kindOf 2 (some .int), Cond.fieldLink RX0 9 "GateSums$Circuit" "kinds" "[I", Cond.static yX6_at, Cond.code yX6_at cX6_at 2 (some .int), Cond.methodLink RX6 111 yX0_xOf, Cond.instanceMethod yX0_xOf, Cond.selects RX0 yX0_xOf yX0_xOf, Cond.code yX0_xOf cX0_xOf 2 (some .int), Cond.fieldLink RX0 15 "GateSums$Circuit" "xs" "[I", Cond.methodLink RX6 114 yX0_yOf, Cond.instanceMethod yX0_yOf, Cond.selects RX0 yX0_yOf yX0_yOf, Cond.code yX0_yOf cX0_yOf 2 (some .int), Cond.fieldLink RX0 18 "GateSums$Circuit" "ys" "[I", Cond.methodLink RX6 126 yX0_outputAt, Cond.instanceMethod yX0_outputAt, Cond.selects RX0 yX0_outputAt yX0_outputAt, Cond.code yX0_outputAt cX0_outputAt 2 (some .int)]
def wsX6_digest_r3 : List Cond := [Cond.fieldLink RX0 21 "GateSums$Circuit" "places" "[I", Cond.methodLink RX6 190 yX1_countWrong, Cond.instanceMethod yX1_countWrong, Cond.selects RX1 yX1_countWrong yX1_countWrong, Cond.initialized RX1, Cond.code yX1_countWrong cX1_countWrong 5 (some .int), Cond.fieldLink RX1 15 "GateSums$Circuit" "inputs" "I", Cond.methodLink RX1 68 yX1_isWrong, Cond.instanceMethod yX1_isWrong, Cond.selects RX1 yX1_isWrong yX1_isWrong, Cond.code yX1_isWrong cX1_isWrong 3 (some .boolean), Cond.methodLink RX1 61 yX1_outputsFor, Cond.instanceMethod yX1_outputsFor, Cond.selects RX1 yX1_outputsFor yX1_outputsFor, Cond.code yX1_outputsFor cX1_outputsFor 5 (some .int), Cond.fieldLink RX1 47 "GateSums$Circuit" "outputs" "I", Cond.methodLink RX1 50 yX0_outputAt, Cond.methodLink RX1 53 yX1_bit, Cond.instanceMethod yX1_bit, Cond.selects RX1 yX1_bit yX1_bit, Cond.code yX1_bit cX1_bit 3 (some .int), Cond.methodLink RX1 38 yX1_row, Cond.instanceMethod yX1_row, Cond.selects RX1 yX1_row yX1_row]
def wsX6_digest_r4 : List Cond := [Cond.code yX1_row cX1_row 2 (some .long), Cond.fieldLink RX1 9 "GateSums$Columns" "rows" "[J", Cond.methodLink RX1 65 yX0_taskFor, Cond.instanceMethod yX0_taskFor, Cond.selects RX0 yX0_taskFor yX0_taskFor, Cond.code yX0_taskFor cX0_taskFor 4 (some .int), Cond.fieldLink RX0 49 "GateSums$Circuit" "p" "I", Cond.fieldLink RX0 52 "GateSums$Circuit" "q" "I", Cond.fieldLink RX0 46 "GateSums$Circuit" "task" "I"]
def wsX6_digest : List Cond := .code yX6_digest cX6_digest 4 (some .long) :: ((wsX6_digest_r1 ++ (wsX6_digest_r2 ++ (wsX6_digest_r3 ++ wsX6_digest_r4))) ++ wsX60 ++ wsX00 ++ wsX30 ++ wsX50 ++ wsX10)
def wsX7_init : List Cond := .code yX7_init cX7_init 1 none :: ([.methodLink RX7 1 objectInit, .instanceMethod objectInit, .code objectInit ⟨#[0xb1]⟩ 1 none, .arrayClass .int, .fieldLink RX7 7 "GateSumsModel" "s" "[I", .fieldLink RX7 13 "GateSumsModel" "draft" "[I", .fieldLink RX7 16 "GateSumsModel" "refused" "[I", .fieldLink RX7 19 "GateSumsModel" "text" "[I", .arrayClass .char, .fieldLink RX7 22 "GateSumsModel" "words" "[C", .fieldLink RX7 26 "GateSumsModel" "sets" "[I", .arrayClass .long, .fieldLink RX7 29 "GateSumsModel" "coefficients" "[J", .fieldLink RX7 33 "GateSumsModel" "newSets" "[I", .fieldLink RX7 36 "GateSumsModel" "newCoefficients" "[J"] ++ wsX70)
def wsX7_in : List Cond := .code yX7_in cX7_in 3 (some .boolean) :: ([])
def wsX7_refuses : List Cond := .code yX7_refuses cX7_refuses 2 (some .int) :: ([.fieldLink RX7 16 "GateSumsModel" "refused" "[I"] ++ wsX70)
def wsX7_type : List Cond := .code yX7_type cX7_type 2 (some .int) :: ([.fieldLink RX7 47 "GateSumsModel" "typed" "I", .fieldLink RX7 19 "GateSumsModel" "text" "[I", .methodLink RX7 39 yX7_in, .static yX7_in, .initialized RX7, .code yX7_in cX7_in 3 (some .boolean), .methodLink RX7 43 yX7_refuses, .instanceMethod yX7_refuses, .selects RX7 yX7_refuses yX7_refuses, .code yX7_refuses cX7_refuses 2 (some .int), .fieldLink RX7 16 "GateSumsModel" "refused" "[I"] ++ wsX70)
def wsX7_clear : List Cond := .code yX7_clear cX7_clear 2 (some .int) :: ([.fieldLink RX7 47 "GateSumsModel" "typed" "I"] ++ wsX70)
def wsX7_byteAt : List Cond := .code yX7_byteAt cX7_byteAt 2 (some .int) :: ([.fieldLink RX7 47 "GateSumsModel" "typed" "I", .fieldLink RX7 19 "GateSumsModel" "text" "[I"] ++ wsX70)
def wsX7_skips : List Cond := .code yX7_skips cX7_skips 1 none :: ([.fieldLink RX7 51 "GateSumsModel" "at" "I", .methodLink RX7 54 yX7_byteAt, .instanceMethod yX7_byteAt, .selects RX7 yX7_byteAt yX7_byteAt, .initialized RX7, .code yX7_byteAt cX7_byteAt 2 (some .int), .fieldLink RX7 47 "GateSumsModel" "typed" "I", .fieldLink RX7 19 "GateSumsModel" "text" "[I"] ++ wsX70)
def wsX7_isDigit : List Cond := .code yX7_isDigit cX7_isDigit 1 (some .boolean) :: ([.methodLink RX7 39 yX7_in, .static yX7_in, .initialized RX7, .code yX7_in cX7_in 3 (some .boolean)])
def wsX7_isNumber : List Cond := .code yX7_isNumber cX7_isNumber 6 (some .boolean) :: ([.fieldLink RX7 51 "GateSumsModel" "at" "I", .fieldLink RX7 19 "GateSumsModel" "text" "[I", .fieldLink RX7 64 "GateSumsModel" "number" "I", .methodLink RX7 57 yX7_skips, .instanceMethod yX7_skips, .selects RX7 yX7_skips yX7_skips, .initialized RX7, .code yX7_skips cX7_skips 1 none, .methodLink RX7 54 yX7_byteAt, .instanceMethod yX7_byteAt, .selects RX7 yX7_byteAt yX7_byteAt, .code yX7_byteAt cX7_byteAt 2 (some .int), .fieldLink RX7 47 "GateSumsModel" "typed" "I", .methodLink RX7 60 yX7_isDigit, .static yX7_isDigit, .code yX7_isDigit cX7_isDigit 1 (some .boolean), .methodLink RX7 39 yX7_in, .static yX7_in, .code yX7_in cX7_in 3 (some .boolean)] ++ wsX70)
def wsX7_isWord : List Cond := .code yX7_isWord cX7_isWord 5 (some .boolean) :: ([.fieldLink RX7 51 "GateSumsModel" "at" "I", .fieldLink RX7 22 "GateSumsModel" "words" "[C", .methodLink RX7 54 yX7_byteAt, .instanceMethod yX7_byteAt, .selects RX7 yX7_byteAt yX7_byteAt, .initialized RX7, .code yX7_byteAt cX7_byteAt 2 (some .int), .fieldLink RX7 47 "GateSumsModel" "typed" "I", .fieldLink RX7 19 "GateSumsModel" "text" "[I", .methodLink RX7 39 yX7_in, .static yX7_in, .code yX7_in cX7_in 3 (some .boolean)] ++ wsX70)
def wsX7_word : List Cond := .code yX7_word cX7_word 6 (some .int) :: ([.fieldLink RX7 22 "GateSumsModel" "words" "[C", .fieldLink RX7 51 "GateSumsModel" "at" "I", .methodLink RX7 57 yX7_skips, .instanceMethod yX7_skips, .selects RX7 yX7_skips yX7_skips, .initialized RX7, .code yX7_skips cX7_skips 1 none, .methodLink RX7 54 yX7_byteAt, .instanceMethod yX7_byteAt, .selects RX7 yX7_byteAt yX7_byteAt, .code yX7_byteAt cX7_byteAt 2 (some .int), .fieldLink RX7 47 "GateSumsModel" "typed" "I", .fieldLink RX7 19 "GateSumsModel" "text" "[I", .methodLink RX7 39 yX7_in, .static yX7_in, .code yX7_in cX7_in 3 (some .boolean), .methodLink RX7 67 yX7_isWord, .instanceMethod yX7_isWord, .selects RX7 yX7_isWord yX7_isWord, .code yX7_isWord cX7_isWord 5 (some .boolean)] ++ wsX70)
def wsX7_ends : List Cond := .code yX7_ends cX7_ends 2 (some .boolean) :: ([.fieldLink RX7 51 "GateSumsModel" "at" "I", .methodLink RX7 57 yX7_skips, .instanceMethod yX7_skips, .selects RX7 yX7_skips yX7_skips, .initialized RX7, .code yX7_skips cX7_skips 1 none, .methodLink RX7 54 yX7_byteAt, .instanceMethod yX7_byteAt, .selects RX7 yX7_byteAt yX7_byteAt, .code yX7_byteAt cX7_byteAt 2 (some .int), .fieldLink RX7 47 "GateSumsModel" "typed" "I", .fieldLink RX7 19 "GateSumsModel" "text" "[I"] ++ wsX70)
def wsX7_readsGate_r1 : List Cond := [Cond.fieldLink RX7 13 "GateSumsModel" "draft" "[I", Cond.fieldLink RX7 64 "GateSumsModel" "number" "I", Cond.methodLink RX7 71 yX7_word, Cond.instanceMethod yX7_word, Cond.selects RX7 yX7_word yX7_word, Cond.initialized RX7, Cond.code yX7_word cX7_word 6 (some .int), Cond.fieldLink RX7 22 "GateSumsModel" "words" "[C", Cond.fieldLink RX7 51 "GateSumsModel" "at" "I", Cond.methodLink RX7 57 yX7_skips, Cond.instanceMethod yX7_skips, Cond.selects RX7 yX7_skips yX7_skips, Cond.code yX7_skips cX7_skips 1 none, Cond.methodLink RX7 54 yX7_byteAt, Cond.instanceMethod yX7_byteAt, Cond.selects RX7 yX7_byteAt yX7_byteAt, Cond.code yX7_byteAt cX7_byteAt 2 (some .int), Cond.fieldLink RX7 47 "GateSumsModel" "typed" "I", Cond.fieldLink RX7 19 "GateSumsModel" "text" "[I", Cond.methodLink RX7 39 yX7_in, Cond.static yX7_in, Cond.code yX7_in cX7_in 3 (some .boolean), Cond.methodLink RX7 67 yX7_isWord, Cond.instanceMethod yX7_isWord]
def wsX7_readsGate_r2 : List Cond := [Cond.selects RX7 yX7_isWord yX7_isWord, Cond.code yX7_isWord cX7_isWord 5 (some .boolean), Cond.methodLink RX7 75 yX7_isNumber, Cond.instanceMethod yX7_isNumber, Cond.selects RX7 yX7_isNumber yX7_isNumber, Cond.code yX7_isNumber cX7_isNumber 6 (some .boolean), Cond.methodLink RX7 60 yX7_isDigit, Cond.static yX7_isDigit, Cond.code yX7_isDigit cX7_isDigit 1 (some .boolean), Cond.methodLink RX7 78 yX7_ends, Cond.instanceMethod yX7_ends, Cond.selects RX7 yX7_ends yX7_ends, Cond.code yX7_ends cX7_ends 2 (some .boolean)]
def wsX7_readsGate : List Cond := .code yX7_readsGate cX7_readsGate 4 (some .boolean) :: ((wsX7_readsGate_r1 ++ wsX7_readsGate_r2) ++ wsX70)
def wsX7_readsOuts_r1 : List Cond := [Cond.fieldLink RX7 13 "GateSumsModel" "draft" "[I", Cond.fieldLink RX7 51 "GateSumsModel" "at" "I", Cond.fieldLink RX7 64 "GateSumsModel" "number" "I", Cond.methodLink RX7 57 yX7_skips, Cond.instanceMethod yX7_skips, Cond.selects RX7 yX7_skips yX7_skips, Cond.initialized RX7, Cond.code yX7_skips cX7_skips 1 none, Cond.methodLink RX7 54 yX7_byteAt, Cond.instanceMethod yX7_byteAt, Cond.selects RX7 yX7_byteAt yX7_byteAt, Cond.code yX7_byteAt cX7_byteAt 2 (some .int), Cond.fieldLink RX7 47 "GateSumsModel" "typed" "I", Cond.fieldLink RX7 19 "GateSumsModel" "text" "[I", Cond.methodLink RX7 78 yX7_ends, Cond.instanceMethod yX7_ends, Cond.selects RX7 yX7_ends yX7_ends, Cond.code yX7_ends cX7_ends 2 (some .boolean), Cond.methodLink RX7 75 yX7_isNumber, Cond.instanceMethod yX7_isNumber, Cond.selects RX7 yX7_isNumber yX7_isNumber, Cond.code yX7_isNumber cX7_isNumber 6 (some .boolean), Cond.methodLink RX7 60 yX7_isDigit, Cond.static yX7_isDigit]
def wsX7_readsOuts_r2 : List Cond := [Cond.code yX7_isDigit cX7_isDigit 1 (some .boolean), Cond.methodLink RX7 39 yX7_in, Cond.static yX7_in, Cond.code yX7_in cX7_in 3 (some .boolean)]
def wsX7_readsOuts : List Cond := .code yX7_readsOuts cX7_readsOuts 2 (some .boolean) :: ((wsX7_readsOuts_r1 ++ wsX7_readsOuts_r2) ++ wsX70)
def wsX7_readsTask_r1 : List Cond := [Cond.fieldLink RX7 13 "GateSumsModel" "draft" "[I", Cond.fieldLink RX7 64 "GateSumsModel" "number" "I", Cond.methodLink RX7 71 yX7_word, Cond.instanceMethod yX7_word, Cond.selects RX7 yX7_word yX7_word, Cond.initialized RX7, Cond.code yX7_word cX7_word 6 (some .int), Cond.fieldLink RX7 22 "GateSumsModel" "words" "[C", Cond.fieldLink RX7 51 "GateSumsModel" "at" "I", Cond.methodLink RX7 57 yX7_skips, Cond.instanceMethod yX7_skips, Cond.selects RX7 yX7_skips yX7_skips, Cond.code yX7_skips cX7_skips 1 none, Cond.methodLink RX7 54 yX7_byteAt, Cond.instanceMethod yX7_byteAt, Cond.selects RX7 yX7_byteAt yX7_byteAt, Cond.code yX7_byteAt cX7_byteAt 2 (some .int), Cond.fieldLink RX7 47 "GateSumsModel" "typed" "I", Cond.fieldLink RX7 19 "GateSumsModel" "text" "[I", Cond.methodLink RX7 39 yX7_in, Cond.static yX7_in, Cond.code yX7_in cX7_in 3 (some .boolean), Cond.methodLink RX7 67 yX7_isWord, Cond.instanceMethod yX7_isWord]
def wsX7_readsTask_r2 : List Cond := [Cond.selects RX7 yX7_isWord yX7_isWord, Cond.code yX7_isWord cX7_isWord 5 (some .boolean), Cond.methodLink RX7 75 yX7_isNumber, Cond.instanceMethod yX7_isNumber, Cond.selects RX7 yX7_isNumber yX7_isNumber, Cond.code yX7_isNumber cX7_isNumber 6 (some .boolean), Cond.methodLink RX7 60 yX7_isDigit, Cond.static yX7_isDigit, Cond.code yX7_isDigit cX7_isDigit 1 (some .boolean), Cond.methodLink RX7 78 yX7_ends, Cond.instanceMethod yX7_ends, Cond.selects RX7 yX7_ends yX7_ends, Cond.code yX7_ends cX7_ends 2 (some .boolean)]
def wsX7_readsTask : List Cond := .code yX7_readsTask cX7_readsTask 2 (some .boolean) :: ((wsX7_readsTask_r1 ++ wsX7_readsTask_r2) ++ wsX70)
def wsX7_readsAll_r1 : List Cond := [Cond.fieldLink RX7 13 "GateSumsModel" "draft" "[I", Cond.fieldLink RX7 51 "GateSumsModel" "at" "I", Cond.fieldLink RX7 64 "GateSumsModel" "number" "I", Cond.fieldLink RX7 47 "GateSumsModel" "typed" "I", Cond.methodLink RX7 71 yX7_word, Cond.instanceMethod yX7_word, Cond.selects RX7 yX7_word yX7_word, Cond.initialized RX7, Cond.code yX7_word cX7_word 6 (some .int), Cond.fieldLink RX7 22 "GateSumsModel" "words" "[C", Cond.methodLink RX7 57 yX7_skips, Cond.instanceMethod yX7_skips, Cond.selects RX7 yX7_skips yX7_skips, Cond.code yX7_skips cX7_skips 1 none, Cond.methodLink RX7 54 yX7_byteAt, Cond.instanceMethod yX7_byteAt, Cond.selects RX7 yX7_byteAt yX7_byteAt, Cond.code yX7_byteAt cX7_byteAt 2 (some .int), Cond.fieldLink RX7 19 "GateSumsModel" "text" "[I", Cond.methodLink RX7 39 yX7_in, Cond.static yX7_in, Cond.code yX7_in cX7_in 3 (some .boolean), Cond.methodLink RX7 67 yX7_isWord, Cond.instanceMethod yX7_isWord]
def wsX7_readsAll_r2 : List Cond := [Cond.selects RX7 yX7_isWord yX7_isWord, Cond.code yX7_isWord cX7_isWord 5 (some .boolean), Cond.methodLink RX7 75 yX7_isNumber, Cond.instanceMethod yX7_isNumber, Cond.selects RX7 yX7_isNumber yX7_isNumber, Cond.code yX7_isNumber cX7_isNumber 6 (some .boolean), Cond.methodLink RX7 60 yX7_isDigit, Cond.static yX7_isDigit, Cond.code yX7_isDigit cX7_isDigit 1 (some .boolean), Cond.methodLink RX7 78 yX7_ends, Cond.instanceMethod yX7_ends, Cond.selects RX7 yX7_ends yX7_ends, Cond.code yX7_ends cX7_ends 2 (some .boolean), Cond.methodLink RX7 82 yX7_readsGate, Cond.instanceMethod yX7_readsGate, Cond.selects RX7 yX7_readsGate yX7_readsGate, Cond.code yX7_readsGate cX7_readsGate 4 (some .boolean), Cond.methodLink RX7 85 yX7_readsOuts, Cond.instanceMethod yX7_readsOuts, Cond.selects RX7 yX7_readsOuts yX7_readsOuts, Cond.code yX7_readsOuts cX7_readsOuts 2 (some .boolean), Cond.methodLink RX7 88 yX7_readsTask, Cond.instanceMethod yX7_readsTask, Cond.selects RX7 yX7_readsTask yX7_readsTask]
def wsX7_readsAll_r3 : List Cond := [Cond.code yX7_readsTask cX7_readsTask 2 (some .boolean)]
def wsX7_readsAll : List Cond := .code yX7_readsAll cX7_readsAll 3 (some .boolean) :: ((wsX7_readsAll_r1 ++ (wsX7_readsAll_r2 ++ wsX7_readsAll_r3)) ++ wsX70)
def wsX7_reads_r1 : List Cond := [Cond.fieldLink RX7 51 "GateSumsModel" "at" "I", Cond.fieldLink RX7 7 "GateSumsModel" "s" "[I", Cond.fieldLink RX7 13 "GateSumsModel" "draft" "[I", Cond.methodLink RX7 91 yX7_readsAll, Cond.instanceMethod yX7_readsAll, Cond.selects RX7 yX7_readsAll yX7_readsAll, Cond.initialized RX7, Cond.code yX7_readsAll cX7_readsAll 3 (some .boolean), Cond.fieldLink RX7 64 "GateSumsModel" "number" "I", Cond.fieldLink RX7 47 "GateSumsModel" "typed" "I", Cond.methodLink RX7 71 yX7_word, Cond.instanceMethod yX7_word, Cond.selects RX7 yX7_word yX7_word, Cond.code yX7_word cX7_word 6 (some .int), Cond.fieldLink RX7 22 "GateSumsModel" "words" "[C", Cond.methodLink RX7 57 yX7_skips, Cond.instanceMethod yX7_skips, Cond.selects RX7 yX7_skips yX7_skips, Cond.code yX7_skips cX7_skips 1 none, Cond.methodLink RX7 54 yX7_byteAt, Cond.instanceMethod yX7_byteAt, Cond.selects RX7 yX7_byteAt yX7_byteAt, Cond.code yX7_byteAt cX7_byteAt 2 (some .int), Cond.fieldLink RX7 19 "GateSumsModel" "text" "[I"]
def wsX7_reads_r2 : List Cond := [Cond.methodLink RX7 39 yX7_in, Cond.static yX7_in, Cond.code yX7_in cX7_in 3 (some .boolean), Cond.methodLink RX7 67 yX7_isWord, Cond.instanceMethod yX7_isWord, Cond.selects RX7 yX7_isWord yX7_isWord, Cond.code yX7_isWord cX7_isWord 5 (some .boolean), Cond.methodLink RX7 75 yX7_isNumber, Cond.instanceMethod yX7_isNumber, Cond.selects RX7 yX7_isNumber yX7_isNumber, Cond.code yX7_isNumber cX7_isNumber 6 (some .boolean), Cond.methodLink RX7 60 yX7_isDigit, Cond.static yX7_isDigit, Cond.code yX7_isDigit cX7_isDigit 1 (some .boolean), Cond.methodLink RX7 78 yX7_ends, Cond.instanceMethod yX7_ends, Cond.selects RX7 yX7_ends yX7_ends, Cond.code yX7_ends cX7_ends 2 (some .boolean), Cond.methodLink RX7 82 yX7_readsGate, Cond.instanceMethod yX7_readsGate, Cond.selects RX7 yX7_readsGate yX7_readsGate, Cond.code yX7_readsGate cX7_readsGate 4 (some .boolean), Cond.methodLink RX7 85 yX7_readsOuts, Cond.instanceMethod yX7_readsOuts]
def wsX7_reads_r3 : List Cond := [Cond.selects RX7 yX7_readsOuts yX7_readsOuts, Cond.code yX7_readsOuts cX7_readsOuts 2 (some .boolean), Cond.methodLink RX7 88 yX7_readsTask, Cond.instanceMethod yX7_readsTask, Cond.selects RX7 yX7_readsTask yX7_readsTask, Cond.code yX7_readsTask cX7_readsTask 2 (some .boolean)]
def wsX7_reads : List Cond := .code yX7_reads cX7_reads 2 (some .int) :: ((wsX7_reads_r1 ++ (wsX7_reads_r2 ++ wsX7_reads_r3)) ++ wsX70)
def wsX7_isThere : List Cond := .code yX7_isThere cX7_isThere 1 (some .boolean) :: ([.fieldLink RX7 7 "GateSumsModel" "s" "[I"] ++ wsX70)
def wsX7_isGate : List Cond := .code yX7_isGate cX7_isGate 2 (some .boolean) :: ([.fieldLink RX7 7 "GateSumsModel" "s" "[I", .methodLink RX7 94 yX7_isThere, .instanceMethod yX7_isThere, .selects RX7 yX7_isThere yX7_isThere, .initialized RX7, .code yX7_isThere cX7_isThere 1 (some .boolean), .methodLink RX7 39 yX7_in, .static yX7_in, .code yX7_in cX7_in 3 (some .boolean)] ++ wsX70)
def wsX7_isInput : List Cond := .code yX7_isInput cX7_isInput 2 (some .boolean) :: ([.fieldLink RX7 7 "GateSumsModel" "s" "[I", .methodLink RX7 94 yX7_isThere, .instanceMethod yX7_isThere, .selects RX7 yX7_isThere yX7_isThere, .initialized RX7, .code yX7_isThere cX7_isThere 1 (some .boolean), .methodLink RX7 39 yX7_in, .static yX7_in, .code yX7_in cX7_in 3 (some .boolean)] ++ wsX70)
def wsX7_isStage : List Cond := .code yX7_isStage cX7_isStage 2 (some .boolean) :: ([.fieldLink RX7 7 "GateSumsModel" "s" "[I", .methodLink RX7 94 yX7_isThere, .instanceMethod yX7_isThere, .selects RX7 yX7_isThere yX7_isThere, .initialized RX7, .code yX7_isThere cX7_isThere 1 (some .boolean), .methodLink RX7 39 yX7_in, .static yX7_in, .code yX7_in cX7_in 3 (some .boolean)] ++ wsX70)
def wsX7_none : List Cond := .code yX7_none cX7_none 2 (some .int) :: ([.methodLink RX7 43 yX7_refuses, .instanceMethod yX7_refuses, .selects RX7 yX7_refuses yX7_refuses, .initialized RX7, .code yX7_refuses cX7_refuses 2 (some .int), .fieldLink RX7 16 "GateSumsModel" "refused" "[I"] ++ wsX70)
def wsX7_kind : List Cond := .code yX7_kind cX7_kind 5 (some .int) :: ([.fieldLink RX7 7 "GateSumsModel" "s" "[I", .methodLink RX7 97 yX7_isGate, .instanceMethod yX7_isGate, .selects RX7 yX7_isGate yX7_isGate, .initialized RX7, .code yX7_isGate cX7_isGate 2 (some .boolean), .methodLink RX7 94 yX7_isThere, .instanceMethod yX7_isThere, .selects RX7 yX7_isThere yX7_isThere, .code yX7_isThere cX7_isThere 1 (some .boolean), .methodLink RX7 39 yX7_in, .static yX7_in, .code yX7_in cX7_in 3 (some .boolean), .methodLink RX7 100 yX7_none, .instanceMethod yX7_none, .selects RX7 yX7_none yX7_none, .code yX7_none cX7_none 2 (some .int), .methodLink RX7 43 yX7_refuses, .instanceMethod yX7_refuses, .selects RX7 yX7_refuses yX7_refuses, .code yX7_refuses cX7_refuses 2 (some .int), .fieldLink RX7 16 "GateSumsModel" "refused" "[I"] ++ wsX70)
def wsX7_wire : List Cond := .code yX7_wire cX7_wire 7 (some .int) :: ([.fieldLink RX7 7 "GateSumsModel" "s" "[I", .methodLink RX7 97 yX7_isGate, .instanceMethod yX7_isGate, .selects RX7 yX7_isGate yX7_isGate, .initialized RX7, .code yX7_isGate cX7_isGate 2 (some .boolean), .methodLink RX7 94 yX7_isThere, .instanceMethod yX7_isThere, .selects RX7 yX7_isThere yX7_isThere, .code yX7_isThere cX7_isThere 1 (some .boolean), .methodLink RX7 39 yX7_in, .static yX7_in, .code yX7_in cX7_in 3 (some .boolean), .methodLink RX7 100 yX7_none, .instanceMethod yX7_none, .selects RX7 yX7_none yX7_none, .code yX7_none cX7_none 2 (some .int), .methodLink RX7 43 yX7_refuses, .instanceMethod yX7_refuses, .selects RX7 yX7_refuses yX7_refuses, .code yX7_refuses cX7_refuses 2 (some .int), .fieldLink RX7 16 "GateSumsModel" "refused" "[I"] ++ wsX70)
def wsX7_of : List Cond := .code yX7_of cX7_of 7 (some .int) :: ([.fieldLink RX7 7 "GateSumsModel" "s" "[I", .methodLink RX7 97 yX7_isGate, .instanceMethod yX7_isGate, .selects RX7 yX7_isGate yX7_isGate, .initialized RX7, .code yX7_isGate cX7_isGate 2 (some .boolean), .methodLink RX7 94 yX7_isThere, .instanceMethod yX7_isThere, .selects RX7 yX7_isThere yX7_isThere, .code yX7_isThere cX7_isThere 1 (some .boolean), .methodLink RX7 39 yX7_in, .static yX7_in, .code yX7_in cX7_in 3 (some .boolean), .methodLink RX7 100 yX7_none, .instanceMethod yX7_none, .selects RX7 yX7_none yX7_none, .code yX7_none cX7_none 2 (some .int), .methodLink RX7 43 yX7_refuses, .instanceMethod yX7_refuses, .selects RX7 yX7_refuses yX7_refuses, .code yX7_refuses cX7_refuses 2 (some .int), .fieldLink RX7 16 "GateSumsModel" "refused" "[I"] ++ wsX70)
def wsX7_told : List Cond := .code yX7_told cX7_told 4 (some .int) :: ([.fieldLink RX7 7 "GateSumsModel" "s" "[I", .methodLink RX7 94 yX7_isThere, .instanceMethod yX7_isThere, .selects RX7 yX7_isThere yX7_isThere, .initialized RX7, .code yX7_isThere cX7_isThere 1 (some .boolean), .methodLink RX7 39 yX7_in, .static yX7_in, .code yX7_in cX7_in 3 (some .boolean), .methodLink RX7 100 yX7_none, .instanceMethod yX7_none, .selects RX7 yX7_none yX7_none, .code yX7_none cX7_none 2 (some .int), .methodLink RX7 43 yX7_refuses, .instanceMethod yX7_refuses, .selects RX7 yX7_refuses yX7_refuses, .code yX7_refuses cX7_refuses 2 (some .int), .fieldLink RX7 16 "GateSumsModel" "refused" "[I"] ++ wsX70)
def wsX7_lays : List Cond := .code yX7_lays cX7_lays 5 (some .int) :: ([])
def wsX7_outs : List Cond := .code yX7_outs cX7_outs 2 none :: ([.fieldLink RX7 7 "GateSumsModel" "s" "[I"] ++ wsX70)
def wsX7_begins : List Cond := .code yX7_begins cX7_begins 6 none :: ([.fieldLink RX7 7 "GateSumsModel" "s" "[I"] ++ wsX70)
def wsX7_adder : List Cond := .code yX7_adder cX7_adder 7 (some .int) :: ([.fieldLink RX7 7 "GateSumsModel" "s" "[I", .methodLink RX7 39 yX7_in, .static yX7_in, .initialized RX7, .code yX7_in cX7_in 3 (some .boolean), .methodLink RX7 43 yX7_refuses, .instanceMethod yX7_refuses, .selects RX7 yX7_refuses yX7_refuses, .code yX7_refuses cX7_refuses 2 (some .int), .fieldLink RX7 16 "GateSumsModel" "refused" "[I", .methodLink RX7 104 yX7_begins, .instanceMethod yX7_begins, .selects RX7 yX7_begins yX7_begins, .code yX7_begins cX7_begins 6 none, .methodLink RX7 108 yX7_lays, .static yX7_lays, .code yX7_lays cX7_lays 5 (some .int), .methodLink RX7 112 yX7_outs, .instanceMethod yX7_outs, .selects RX7 yX7_outs yX7_outs, .code yX7_outs cX7_outs 2 none] ++ wsX70)
def wsX7_draw_r1 : List Cond := [Cond.constant RX7 116 (999999), Cond.constantLong RX7 117 (1103515245), Cond.constantLong RX7 119 (12345), Cond.constantLong RX7 121 (2147483648), Cond.fieldLink RX7 7 "GateSumsModel" "s" "[I", Cond.constantLong RX7 123 (65536), Cond.constantLong RX7 125 (8), Cond.constantLong RX7 127 (1024), Cond.constantLong RX7 129 (32768), Cond.methodLink RX7 39 yX7_in, Cond.static yX7_in, Cond.initialized RX7, Cond.code yX7_in cX7_in 3 (some .boolean), Cond.methodLink RX7 43 yX7_refuses, Cond.instanceMethod yX7_refuses, Cond.selects RX7 yX7_refuses yX7_refuses, Cond.code yX7_refuses cX7_refuses 2 (some .int), Cond.fieldLink RX7 16 "GateSumsModel" "refused" "[I", Cond.methodLink RX7 104 yX7_begins, Cond.instanceMethod yX7_begins, Cond.selects RX7 yX7_begins yX7_begins, Cond.code yX7_begins cX7_begins 6 none, Cond.methodLink RX7 108 yX7_lays, Cond.static yX7_lays]
def wsX7_draw_r2 : List Cond := [Cond.code yX7_lays cX7_lays 5 (some .int), Cond.methodLink RX7 112 yX7_outs, Cond.instanceMethod yX7_outs, Cond.selects RX7 yX7_outs yX7_outs, Cond.code yX7_outs cX7_outs 2 none]
def wsX7_draw : List Cond := .code yX7_draw cX7_draw 8 (some .int) :: ((wsX7_draw_r1 ++ wsX7_draw_r2) ++ wsX70)
def wsX7_goes : List Cond := .code yX7_goes cX7_goes 5 (some .int) :: ([])
def wsX7_signals : List Cond := .code yX7_signals cX7_signals 6 (some .int) :: ([.fieldLink RX7 7 "GateSumsModel" "s" "[I", .methodLink RX7 131 yX7_goes, .static yX7_goes, .initialized RX7, .code yX7_goes cX7_goes 5 (some .int)] ++ wsX70)
def wsX7_stand : List Cond := .code yX7_stand cX7_stand 5 (some .int) :: ([.fieldLink RX7 7 "GateSumsModel" "s" "[I", .methodLink RX7 135 yX7_signals, .instanceMethod yX7_signals, .selects RX7 yX7_signals yX7_signals, .initialized RX7, .code yX7_signals cX7_signals 6 (some .int), .methodLink RX7 131 yX7_goes, .static yX7_goes, .code yX7_goes cX7_goes 5 (some .int)] ++ wsX70)
def wsX7_task : List Cond := .code yX7_task cX7_task 5 (some .int) :: ([.fieldLink RX7 7 "GateSumsModel" "s" "[I"] ++ wsX70)
def wsX7_wrongOnes : List Cond := .code yX7_wrongOnes cX7_wrongOnes 4 (some .int) :: ([.fieldLink RX7 7 "GateSumsModel" "s" "[I", .methodLink RX7 138 yX7_stand, .instanceMethod yX7_stand, .selects RX7 yX7_stand yX7_stand, .initialized RX7, .code yX7_stand cX7_stand 5 (some .int), .methodLink RX7 135 yX7_signals, .instanceMethod yX7_signals, .selects RX7 yX7_signals yX7_signals, .code yX7_signals cX7_signals 6 (some .int), .methodLink RX7 131 yX7_goes, .static yX7_goes, .code yX7_goes cX7_goes 5 (some .int), .methodLink RX7 141 yX7_task, .instanceMethod yX7_task, .selects RX7 yX7_task yX7_task, .code yX7_task cX7_task 5 (some .int)] ++ wsX70)
def wsX7_runs_r1 : List Cond := [Cond.methodLink RX7 144 yX7_isInput, Cond.instanceMethod yX7_isInput, Cond.selects RX7 yX7_isInput yX7_isInput, Cond.initialized RX7, Cond.code yX7_isInput cX7_isInput 2 (some .boolean), Cond.fieldLink RX7 7 "GateSumsModel" "s" "[I", Cond.methodLink RX7 94 yX7_isThere, Cond.instanceMethod yX7_isThere, Cond.selects RX7 yX7_isThere yX7_isThere, Cond.code yX7_isThere cX7_isThere 1 (some .boolean), Cond.methodLink RX7 39 yX7_in, Cond.static yX7_in, Cond.code yX7_in cX7_in 3 (some .boolean), Cond.methodLink RX7 100 yX7_none, Cond.instanceMethod yX7_none, Cond.selects RX7 yX7_none yX7_none, Cond.code yX7_none cX7_none 2 (some .int), Cond.methodLink RX7 43 yX7_refuses, Cond.instanceMethod yX7_refuses, Cond.selects RX7 yX7_refuses yX7_refuses, Cond.code yX7_refuses cX7_refuses 2 (some .int), Cond.fieldLink RX7 16 "GateSumsModel" "refused" "[I", Cond.methodLink RX7 138 yX7_stand, Cond.instanceMethod yX7_stand]
def wsX7_runs_r2 : List Cond := [Cond.selects RX7 yX7_stand yX7_stand, Cond.code yX7_stand cX7_stand 5 (some .int), Cond.methodLink RX7 135 yX7_signals, Cond.instanceMethod yX7_signals, Cond.selects RX7 yX7_signals yX7_signals, Cond.code yX7_signals cX7_signals 6 (some .int), Cond.methodLink RX7 131 yX7_goes, Cond.static yX7_goes, Cond.code yX7_goes cX7_goes 5 (some .int), Cond.methodLink RX7 141 yX7_task, Cond.instanceMethod yX7_task, Cond.selects RX7 yX7_task yX7_task, Cond.code yX7_task cX7_task 5 (some .int)]
def wsX7_runs : List Cond := .code yX7_runs cX7_runs 4 (some .int) :: ((wsX7_runs_r1 ++ wsX7_runs_r2) ++ wsX70)
def wsX7_signal_r1 : List Cond := [Cond.fieldLink RX7 7 "GateSumsModel" "s" "[I", Cond.methodLink RX7 94 yX7_isThere, Cond.instanceMethod yX7_isThere, Cond.selects RX7 yX7_isThere yX7_isThere, Cond.initialized RX7, Cond.code yX7_isThere cX7_isThere 1 (some .boolean), Cond.methodLink RX7 39 yX7_in, Cond.static yX7_in, Cond.code yX7_in cX7_in 3 (some .boolean), Cond.methodLink RX7 144 yX7_isInput, Cond.instanceMethod yX7_isInput, Cond.selects RX7 yX7_isInput yX7_isInput, Cond.code yX7_isInput cX7_isInput 2 (some .boolean), Cond.methodLink RX7 100 yX7_none, Cond.instanceMethod yX7_none, Cond.selects RX7 yX7_none yX7_none, Cond.code yX7_none cX7_none 2 (some .int), Cond.methodLink RX7 43 yX7_refuses, Cond.instanceMethod yX7_refuses, Cond.selects RX7 yX7_refuses yX7_refuses, Cond.code yX7_refuses cX7_refuses 2 (some .int), Cond.fieldLink RX7 16 "GateSumsModel" "refused" "[I", Cond.methodLink RX7 135 yX7_signals, Cond.instanceMethod yX7_signals]
def wsX7_signal_r2 : List Cond := [Cond.selects RX7 yX7_signals yX7_signals, Cond.code yX7_signals cX7_signals 6 (some .int), Cond.methodLink RX7 131 yX7_goes, Cond.static yX7_goes, Cond.code yX7_goes cX7_goes 5 (some .int)]
def wsX7_signal : List Cond := .code yX7_signal cX7_signal 4 (some .int) :: ((wsX7_signal_r1 ++ wsX7_signal_r2) ++ wsX70)
def wsX7_wrong_r1 : List Cond := [Cond.methodLink RX7 39 yX7_in, Cond.static yX7_in, Cond.initialized RX7, Cond.code yX7_in cX7_in 3 (some .boolean), Cond.methodLink RX7 94 yX7_isThere, Cond.instanceMethod yX7_isThere, Cond.selects RX7 yX7_isThere yX7_isThere, Cond.code yX7_isThere cX7_isThere 1 (some .boolean), Cond.fieldLink RX7 7 "GateSumsModel" "s" "[I", Cond.methodLink RX7 100 yX7_none, Cond.instanceMethod yX7_none, Cond.selects RX7 yX7_none yX7_none, Cond.code yX7_none cX7_none 2 (some .int), Cond.methodLink RX7 43 yX7_refuses, Cond.instanceMethod yX7_refuses, Cond.selects RX7 yX7_refuses yX7_refuses, Cond.code yX7_refuses cX7_refuses 2 (some .int), Cond.fieldLink RX7 16 "GateSumsModel" "refused" "[I", Cond.methodLink RX7 147 yX7_wrongOnes, Cond.instanceMethod yX7_wrongOnes, Cond.selects RX7 yX7_wrongOnes yX7_wrongOnes, Cond.code yX7_wrongOnes cX7_wrongOnes 4 (some .int), Cond.methodLink RX7 138 yX7_stand, Cond.instanceMethod yX7_stand]
def wsX7_wrong_r2 : List Cond := [Cond.selects RX7 yX7_stand yX7_stand, Cond.code yX7_stand cX7_stand 5 (some .int), Cond.methodLink RX7 135 yX7_signals, Cond.instanceMethod yX7_signals, Cond.selects RX7 yX7_signals yX7_signals, Cond.code yX7_signals cX7_signals 6 (some .int), Cond.methodLink RX7 131 yX7_goes, Cond.static yX7_goes, Cond.code yX7_goes cX7_goes 5 (some .int), Cond.methodLink RX7 141 yX7_task, Cond.instanceMethod yX7_task, Cond.selects RX7 yX7_task yX7_task, Cond.code yX7_task cX7_task 5 (some .int)]
def wsX7_wrong : List Cond := .code yX7_wrong cX7_wrong 3 (some .int) :: ((wsX7_wrong_r1 ++ wsX7_wrong_r2) ++ wsX70)
def wsX7_cures_r1 : List Cond := [Cond.fieldLink RX7 7 "GateSumsModel" "s" "[I", Cond.methodLink RX7 97 yX7_isGate, Cond.instanceMethod yX7_isGate, Cond.selects RX7 yX7_isGate yX7_isGate, Cond.initialized RX7, Cond.code yX7_isGate cX7_isGate 2 (some .boolean), Cond.methodLink RX7 94 yX7_isThere, Cond.instanceMethod yX7_isThere, Cond.selects RX7 yX7_isThere yX7_isThere, Cond.code yX7_isThere cX7_isThere 1 (some .boolean), Cond.methodLink RX7 39 yX7_in, Cond.static yX7_in, Cond.code yX7_in cX7_in 3 (some .boolean), Cond.methodLink RX7 100 yX7_none, Cond.instanceMethod yX7_none, Cond.selects RX7 yX7_none yX7_none, Cond.code yX7_none cX7_none 2 (some .int), Cond.methodLink RX7 43 yX7_refuses, Cond.instanceMethod yX7_refuses, Cond.selects RX7 yX7_refuses yX7_refuses, Cond.code yX7_refuses cX7_refuses 2 (some .int), Cond.fieldLink RX7 16 "GateSumsModel" "refused" "[I", Cond.methodLink RX7 147 yX7_wrongOnes, Cond.instanceMethod yX7_wrongOnes]
def wsX7_cures_r2 : List Cond := [Cond.selects RX7 yX7_wrongOnes yX7_wrongOnes, Cond.code yX7_wrongOnes cX7_wrongOnes 4 (some .int), Cond.methodLink RX7 138 yX7_stand, Cond.instanceMethod yX7_stand, Cond.selects RX7 yX7_stand yX7_stand, Cond.code yX7_stand cX7_stand 5 (some .int), Cond.methodLink RX7 135 yX7_signals, Cond.instanceMethod yX7_signals, Cond.selects RX7 yX7_signals yX7_signals, Cond.code yX7_signals cX7_signals 6 (some .int), Cond.methodLink RX7 131 yX7_goes, Cond.static yX7_goes, Cond.code yX7_goes cX7_goes 5 (some .int), Cond.methodLink RX7 141 yX7_task, Cond.instanceMethod yX7_task, Cond.selects RX7 yX7_task yX7_task, Cond.code yX7_task cX7_task 5 (some .int)]
def wsX7_cures : List Cond := .code yX7_cures cX7_cures 6 (some .int) :: ((wsX7_cures_r1 ++ wsX7_cures_r2) ++ wsX70)
def wsX7_adds : List Cond := .code yX7_adds cX7_adds 5 none :: ([.fieldLink RX7 150 "GateSumsModel" "made" "I", .fieldLink RX7 33 "GateSumsModel" "newSets" "[I", .fieldLink RX7 36 "GateSumsModel" "newCoefficients" "[J"] ++ wsX70)
def wsX7_becomes : List Cond := .code yX7_becomes cX7_becomes 3 (some .boolean) :: ([.fieldLink RX7 153 "GateSumsModel" "many" "I", .fieldLink RX7 150 "GateSumsModel" "made" "I", .fieldLink RX7 36 "GateSumsModel" "newCoefficients" "[J", .fieldLink RX7 26 "GateSumsModel" "sets" "[I", .fieldLink RX7 33 "GateSumsModel" "newSets" "[I", .fieldLink RX7 29 "GateSumsModel" "coefficients" "[J"] ++ wsX70)
def wsX7_begin : List Cond := .code yX7_begin cX7_begin 7 (some .boolean) :: ([.fieldLink RX7 150 "GateSumsModel" "made" "I", .fieldLink RX7 7 "GateSumsModel" "s" "[I", .constantLong RX7 160 (-3), .methodLink RX7 156 yX7_adds, .instanceMethod yX7_adds, .selects RX7 yX7_adds yX7_adds, .initialized RX7, .code yX7_adds cX7_adds 5 none, .fieldLink RX7 33 "GateSumsModel" "newSets" "[I", .fieldLink RX7 36 "GateSumsModel" "newCoefficients" "[J", .methodLink RX7 162 yX7_becomes, .instanceMethod yX7_becomes, .selects RX7 yX7_becomes yX7_becomes, .code yX7_becomes cX7_becomes 3 (some .boolean), .fieldLink RX7 153 "GateSumsModel" "many" "I", .fieldLink RX7 26 "GateSumsModel" "sets" "[I", .fieldLink RX7 29 "GateSumsModel" "coefficients" "[J"] ++ wsX70)
def wsX7_puts : List Cond := .code yX7_puts cX7_puts 15 none :: ([.fieldLink RX7 7 "GateSumsModel" "s" "[I", .constantLong RX7 165 (2), .methodLink RX7 156 yX7_adds, .instanceMethod yX7_adds, .selects RX7 yX7_adds yX7_adds, .initialized RX7, .code yX7_adds cX7_adds 5 none, .fieldLink RX7 150 "GateSumsModel" "made" "I", .fieldLink RX7 33 "GateSumsModel" "newSets" "[I", .fieldLink RX7 36 "GateSumsModel" "newCoefficients" "[J"] ++ wsX70)
def wsX7_step : List Cond := .code yX7_step cX7_step 4 (some .boolean) :: ([.fieldLink RX7 7 "GateSumsModel" "s" "[I", .fieldLink RX7 153 "GateSumsModel" "many" "I", .fieldLink RX7 26 "GateSumsModel" "sets" "[I", .fieldLink RX7 29 "GateSumsModel" "coefficients" "[J", .methodLink RX7 156 yX7_adds, .instanceMethod yX7_adds, .selects RX7 yX7_adds yX7_adds, .initialized RX7, .code yX7_adds cX7_adds 5 none, .fieldLink RX7 150 "GateSumsModel" "made" "I", .fieldLink RX7 33 "GateSumsModel" "newSets" "[I", .fieldLink RX7 36 "GateSumsModel" "newCoefficients" "[J", .methodLink RX7 167 yX7_puts, .instanceMethod yX7_puts, .selects RX7 yX7_puts yX7_puts, .code yX7_puts cX7_puts 15 none, .constantLong RX7 165 (2), .methodLink RX7 162 yX7_becomes, .instanceMethod yX7_becomes, .selects RX7 yX7_becomes yX7_becomes, .code yX7_becomes cX7_becomes 3 (some .boolean)] ++ wsX70)
def wsX7_comes_r1 : List Cond := [Cond.fieldLink RX7 153 "GateSumsModel" "many" "I", Cond.fieldLink RX7 174 "GateSumsModel" "greatest" "I", Cond.fieldLink RX7 7 "GateSumsModel" "s" "[I", Cond.methodLink RX7 171 yX7_begin, Cond.instanceMethod yX7_begin, Cond.selects RX7 yX7_begin yX7_begin, Cond.initialized RX7, Cond.code yX7_begin cX7_begin 7 (some .boolean), Cond.fieldLink RX7 150 "GateSumsModel" "made" "I", Cond.constantLong RX7 160 (-3), Cond.methodLink RX7 156 yX7_adds, Cond.instanceMethod yX7_adds, Cond.selects RX7 yX7_adds yX7_adds, Cond.code yX7_adds cX7_adds 5 none, Cond.fieldLink RX7 33 "GateSumsModel" "newSets" "[I", Cond.fieldLink RX7 36 "GateSumsModel" "newCoefficients" "[J", Cond.methodLink RX7 162 yX7_becomes, Cond.instanceMethod yX7_becomes, Cond.selects RX7 yX7_becomes yX7_becomes, Cond.code yX7_becomes cX7_becomes 3 (some .boolean), Cond.fieldLink RX7 26 "GateSumsModel" "sets" "[I", Cond.fieldLink RX7 29 "GateSumsModel" "coefficients" "[J", Cond.methodLink RX7 177 yX7_step, Cond.instanceMethod yX7_step]
def wsX7_comes_r2 : List Cond := [Cond.selects RX7 yX7_step yX7_step, Cond.code yX7_step cX7_step 4 (some .boolean), Cond.methodLink RX7 167 yX7_puts, Cond.instanceMethod yX7_puts, Cond.selects RX7 yX7_puts yX7_puts, Cond.code yX7_puts cX7_puts 15 none, Cond.constantLong RX7 165 (2)]
def wsX7_comes : List Cond := .code yX7_comes cX7_comes 4 (some .boolean) :: ((wsX7_comes_r1 ++ wsX7_comes_r2) ++ wsX70)
def wsX7_ones : List Cond := .code yX7_ones cX7_ones 3 (some .int) :: ([])
def wsX7_right_r1 : List Cond := [Cond.fieldLink RX7 7 "GateSumsModel" "s" "[I", Cond.fieldLink RX7 153 "GateSumsModel" "many" "I", Cond.methodLink RX7 94 yX7_isThere, Cond.instanceMethod yX7_isThere, Cond.selects RX7 yX7_isThere yX7_isThere, Cond.initialized RX7, Cond.code yX7_isThere cX7_isThere 1 (some .boolean), Cond.methodLink RX7 43 yX7_refuses, Cond.instanceMethod yX7_refuses, Cond.selects RX7 yX7_refuses yX7_refuses, Cond.code yX7_refuses cX7_refuses 2 (some .int), Cond.fieldLink RX7 16 "GateSumsModel" "refused" "[I", Cond.methodLink RX7 180 yX7_comes, Cond.instanceMethod yX7_comes, Cond.selects RX7 yX7_comes yX7_comes, Cond.code yX7_comes cX7_comes 4 (some .boolean), Cond.fieldLink RX7 174 "GateSumsModel" "greatest" "I", Cond.methodLink RX7 171 yX7_begin, Cond.instanceMethod yX7_begin, Cond.selects RX7 yX7_begin yX7_begin, Cond.code yX7_begin cX7_begin 7 (some .boolean), Cond.fieldLink RX7 150 "GateSumsModel" "made" "I", Cond.constantLong RX7 160 (-3), Cond.methodLink RX7 156 yX7_adds]
def wsX7_right_r2 : List Cond := [Cond.instanceMethod yX7_adds, Cond.selects RX7 yX7_adds yX7_adds, Cond.code yX7_adds cX7_adds 5 none, Cond.fieldLink RX7 33 "GateSumsModel" "newSets" "[I", Cond.fieldLink RX7 36 "GateSumsModel" "newCoefficients" "[J", Cond.methodLink RX7 162 yX7_becomes, Cond.instanceMethod yX7_becomes, Cond.selects RX7 yX7_becomes yX7_becomes, Cond.code yX7_becomes cX7_becomes 3 (some .boolean), Cond.fieldLink RX7 26 "GateSumsModel" "sets" "[I", Cond.fieldLink RX7 29 "GateSumsModel" "coefficients" "[J", Cond.methodLink RX7 177 yX7_step, Cond.instanceMethod yX7_step, Cond.selects RX7 yX7_step yX7_step, Cond.code yX7_step cX7_step 4 (some .boolean), Cond.methodLink RX7 167 yX7_puts, Cond.instanceMethod yX7_puts, Cond.selects RX7 yX7_puts yX7_puts, Cond.code yX7_puts cX7_puts 15 none, Cond.constantLong RX7 165 (2)]
def wsX7_right : List Cond := .code yX7_right cX7_right 1 (some .int) :: ((wsX7_right_r1 ++ wsX7_right_r2) ++ wsX70)
def wsX7_terms_r1 : List Cond := [Cond.fieldLink RX7 153 "GateSumsModel" "many" "I", Cond.methodLink RX7 183 yX7_isStage, Cond.instanceMethod yX7_isStage, Cond.selects RX7 yX7_isStage yX7_isStage, Cond.initialized RX7, Cond.code yX7_isStage cX7_isStage 2 (some .boolean), Cond.fieldLink RX7 7 "GateSumsModel" "s" "[I", Cond.methodLink RX7 94 yX7_isThere, Cond.instanceMethod yX7_isThere, Cond.selects RX7 yX7_isThere yX7_isThere, Cond.code yX7_isThere cX7_isThere 1 (some .boolean), Cond.methodLink RX7 39 yX7_in, Cond.static yX7_in, Cond.code yX7_in cX7_in 3 (some .boolean), Cond.methodLink RX7 100 yX7_none, Cond.instanceMethod yX7_none, Cond.selects RX7 yX7_none yX7_none, Cond.code yX7_none cX7_none 2 (some .int), Cond.methodLink RX7 43 yX7_refuses, Cond.instanceMethod yX7_refuses, Cond.selects RX7 yX7_refuses yX7_refuses, Cond.code yX7_refuses cX7_refuses 2 (some .int), Cond.fieldLink RX7 16 "GateSumsModel" "refused" "[I", Cond.methodLink RX7 180 yX7_comes]
def wsX7_terms_r2 : List Cond := [Cond.instanceMethod yX7_comes, Cond.selects RX7 yX7_comes yX7_comes, Cond.code yX7_comes cX7_comes 4 (some .boolean), Cond.fieldLink RX7 174 "GateSumsModel" "greatest" "I", Cond.methodLink RX7 171 yX7_begin, Cond.instanceMethod yX7_begin, Cond.selects RX7 yX7_begin yX7_begin, Cond.code yX7_begin cX7_begin 7 (some .boolean), Cond.fieldLink RX7 150 "GateSumsModel" "made" "I", Cond.constantLong RX7 160 (-3), Cond.methodLink RX7 156 yX7_adds, Cond.instanceMethod yX7_adds, Cond.selects RX7 yX7_adds yX7_adds, Cond.code yX7_adds cX7_adds 5 none, Cond.fieldLink RX7 33 "GateSumsModel" "newSets" "[I", Cond.fieldLink RX7 36 "GateSumsModel" "newCoefficients" "[J", Cond.methodLink RX7 162 yX7_becomes, Cond.instanceMethod yX7_becomes, Cond.selects RX7 yX7_becomes yX7_becomes, Cond.code yX7_becomes cX7_becomes 3 (some .boolean), Cond.fieldLink RX7 26 "GateSumsModel" "sets" "[I", Cond.fieldLink RX7 29 "GateSumsModel" "coefficients" "[J", Cond.methodLink RX7 177 yX7_step, Cond.instanceMethod yX7_step]
def wsX7_terms_r3 : List Cond := [Cond.selects RX7 yX7_step yX7_step, Cond.code yX7_step cX7_step 4 (some .boolean), Cond.methodLink RX7 167 yX7_puts, Cond.instanceMethod yX7_puts, Cond.selects RX7 yX7_puts yX7_puts, Cond.code yX7_puts cX7_puts 15 none, Cond.constantLong RX7 165 (2)]
def wsX7_terms : List Cond := .code yX7_terms cX7_terms 3 (some .int) :: ((wsX7_terms_r1 ++ (wsX7_terms_r2 ++ wsX7_terms_r3)) ++ wsX70)
def wsX7_term_r1 : List Cond := [Cond.fieldLink RX7 153 "GateSumsModel" "many" "I", Cond.fieldLink RX7 29 "GateSumsModel" "coefficients" "[J", Cond.fieldLink RX7 26 "GateSumsModel" "sets" "[I", Cond.methodLink RX7 183 yX7_isStage, Cond.instanceMethod yX7_isStage, Cond.selects RX7 yX7_isStage yX7_isStage, Cond.initialized RX7, Cond.code yX7_isStage cX7_isStage 2 (some .boolean), Cond.fieldLink RX7 7 "GateSumsModel" "s" "[I", Cond.methodLink RX7 94 yX7_isThere, Cond.instanceMethod yX7_isThere, Cond.selects RX7 yX7_isThere yX7_isThere, Cond.code yX7_isThere cX7_isThere 1 (some .boolean), Cond.methodLink RX7 39 yX7_in, Cond.static yX7_in, Cond.code yX7_in cX7_in 3 (some .boolean), Cond.methodLink RX7 100 yX7_none, Cond.instanceMethod yX7_none, Cond.selects RX7 yX7_none yX7_none, Cond.code yX7_none cX7_none 2 (some .int), Cond.methodLink RX7 43 yX7_refuses, Cond.instanceMethod yX7_refuses, Cond.selects RX7 yX7_refuses yX7_refuses, Cond.code yX7_refuses cX7_refuses 2 (some .int)]
def wsX7_term_r2 : List Cond := [Cond.fieldLink RX7 16 "GateSumsModel" "refused" "[I", Cond.methodLink RX7 180 yX7_comes, Cond.instanceMethod yX7_comes, Cond.selects RX7 yX7_comes yX7_comes, Cond.code yX7_comes cX7_comes 4 (some .boolean), Cond.fieldLink RX7 174 "GateSumsModel" "greatest" "I", Cond.methodLink RX7 171 yX7_begin, Cond.instanceMethod yX7_begin, Cond.selects RX7 yX7_begin yX7_begin, Cond.code yX7_begin cX7_begin 7 (some .boolean), Cond.fieldLink RX7 150 "GateSumsModel" "made" "I", Cond.constantLong RX7 160 (-3), Cond.methodLink RX7 156 yX7_adds, Cond.instanceMethod yX7_adds, Cond.selects RX7 yX7_adds yX7_adds, Cond.code yX7_adds cX7_adds 5 none, Cond.fieldLink RX7 33 "GateSumsModel" "newSets" "[I", Cond.fieldLink RX7 36 "GateSumsModel" "newCoefficients" "[J", Cond.methodLink RX7 162 yX7_becomes, Cond.instanceMethod yX7_becomes, Cond.selects RX7 yX7_becomes yX7_becomes, Cond.code yX7_becomes cX7_becomes 3 (some .boolean), Cond.methodLink RX7 177 yX7_step, Cond.instanceMethod yX7_step]
def wsX7_term_r3 : List Cond := [Cond.selects RX7 yX7_step yX7_step, Cond.code yX7_step cX7_step 4 (some .boolean), Cond.methodLink RX7 167 yX7_puts, Cond.instanceMethod yX7_puts, Cond.selects RX7 yX7_puts yX7_puts, Cond.code yX7_puts cX7_puts 15 none, Cond.constantLong RX7 165 (2)]
def wsX7_term : List Cond := .code yX7_term cX7_term 5 (some .int) :: ((wsX7_term_r1 ++ (wsX7_term_r2 ++ wsX7_term_r3)) ++ wsX70)
def wsX7_most_r1 : List Cond := [Cond.fieldLink RX7 7 "GateSumsModel" "s" "[I", Cond.fieldLink RX7 153 "GateSumsModel" "many" "I", Cond.fieldLink RX7 26 "GateSumsModel" "sets" "[I", Cond.fieldLink RX7 29 "GateSumsModel" "coefficients" "[J", Cond.fieldLink RX7 174 "GateSumsModel" "greatest" "I", Cond.methodLink RX7 39 yX7_in, Cond.static yX7_in, Cond.initialized RX7, Cond.code yX7_in cX7_in 3 (some .boolean), Cond.methodLink RX7 94 yX7_isThere, Cond.instanceMethod yX7_isThere, Cond.selects RX7 yX7_isThere yX7_isThere, Cond.code yX7_isThere cX7_isThere 1 (some .boolean), Cond.methodLink RX7 100 yX7_none, Cond.instanceMethod yX7_none, Cond.selects RX7 yX7_none yX7_none, Cond.code yX7_none cX7_none 2 (some .int), Cond.methodLink RX7 43 yX7_refuses, Cond.instanceMethod yX7_refuses, Cond.selects RX7 yX7_refuses yX7_refuses, Cond.code yX7_refuses cX7_refuses 2 (some .int), Cond.fieldLink RX7 16 "GateSumsModel" "refused" "[I", Cond.methodLink RX7 180 yX7_comes, Cond.instanceMethod yX7_comes]
def wsX7_most_r2 : List Cond := [Cond.selects RX7 yX7_comes yX7_comes, Cond.code yX7_comes cX7_comes 4 (some .boolean), Cond.methodLink RX7 171 yX7_begin, Cond.instanceMethod yX7_begin, Cond.selects RX7 yX7_begin yX7_begin, Cond.code yX7_begin cX7_begin 7 (some .boolean), Cond.fieldLink RX7 150 "GateSumsModel" "made" "I", Cond.constantLong RX7 160 (-3), Cond.methodLink RX7 156 yX7_adds, Cond.instanceMethod yX7_adds, Cond.selects RX7 yX7_adds yX7_adds, Cond.code yX7_adds cX7_adds 5 none, Cond.fieldLink RX7 33 "GateSumsModel" "newSets" "[I", Cond.fieldLink RX7 36 "GateSumsModel" "newCoefficients" "[J", Cond.methodLink RX7 162 yX7_becomes, Cond.instanceMethod yX7_becomes, Cond.selects RX7 yX7_becomes yX7_becomes, Cond.code yX7_becomes cX7_becomes 3 (some .boolean), Cond.methodLink RX7 177 yX7_step, Cond.instanceMethod yX7_step, Cond.selects RX7 yX7_step yX7_step, Cond.code yX7_step cX7_step 4 (some .boolean), Cond.methodLink RX7 167 yX7_puts, Cond.instanceMethod yX7_puts]
def wsX7_most_r3 : List Cond := [Cond.selects RX7 yX7_puts yX7_puts, Cond.code yX7_puts cX7_puts 15 none, Cond.constantLong RX7 165 (2), Cond.methodLink RX7 186 yX7_ones, Cond.static yX7_ones, Cond.code yX7_ones cX7_ones 3 (some .int)]
def wsX7_most : List Cond := .code yX7_most cX7_most 7 (some .int) :: ((wsX7_most_r1 ++ (wsX7_most_r2 ++ wsX7_most_r3)) ++ wsX70)
def wsX7_size : List Cond := .code yX7_size cX7_size 2 (some .long) :: ([])
def wsX7_dearest_r1 : List Cond := [Cond.fieldLink RX7 153 "GateSumsModel" "many" "I", Cond.fieldLink RX7 29 "GateSumsModel" "coefficients" "[J", Cond.fieldLink RX7 26 "GateSumsModel" "sets" "[I", Cond.methodLink RX7 183 yX7_isStage, Cond.instanceMethod yX7_isStage, Cond.selects RX7 yX7_isStage yX7_isStage, Cond.initialized RX7, Cond.code yX7_isStage cX7_isStage 2 (some .boolean), Cond.fieldLink RX7 7 "GateSumsModel" "s" "[I", Cond.methodLink RX7 94 yX7_isThere, Cond.instanceMethod yX7_isThere, Cond.selects RX7 yX7_isThere yX7_isThere, Cond.code yX7_isThere cX7_isThere 1 (some .boolean), Cond.methodLink RX7 39 yX7_in, Cond.static yX7_in, Cond.code yX7_in cX7_in 3 (some .boolean), Cond.methodLink RX7 100 yX7_none, Cond.instanceMethod yX7_none, Cond.selects RX7 yX7_none yX7_none, Cond.code yX7_none cX7_none 2 (some .int), Cond.methodLink RX7 43 yX7_refuses, Cond.instanceMethod yX7_refuses, Cond.selects RX7 yX7_refuses yX7_refuses, Cond.code yX7_refuses cX7_refuses 2 (some .int)]
def wsX7_dearest_r2 : List Cond := [Cond.fieldLink RX7 16 "GateSumsModel" "refused" "[I", Cond.methodLink RX7 180 yX7_comes, Cond.instanceMethod yX7_comes, Cond.selects RX7 yX7_comes yX7_comes, Cond.code yX7_comes cX7_comes 4 (some .boolean), Cond.fieldLink RX7 174 "GateSumsModel" "greatest" "I", Cond.methodLink RX7 171 yX7_begin, Cond.instanceMethod yX7_begin, Cond.selects RX7 yX7_begin yX7_begin, Cond.code yX7_begin cX7_begin 7 (some .boolean), Cond.fieldLink RX7 150 "GateSumsModel" "made" "I", Cond.constantLong RX7 160 (-3), Cond.methodLink RX7 156 yX7_adds, Cond.instanceMethod yX7_adds, Cond.selects RX7 yX7_adds yX7_adds, Cond.code yX7_adds cX7_adds 5 none, Cond.fieldLink RX7 33 "GateSumsModel" "newSets" "[I", Cond.fieldLink RX7 36 "GateSumsModel" "newCoefficients" "[J", Cond.methodLink RX7 162 yX7_becomes, Cond.instanceMethod yX7_becomes, Cond.selects RX7 yX7_becomes yX7_becomes, Cond.code yX7_becomes cX7_becomes 3 (some .boolean), Cond.methodLink RX7 177 yX7_step, Cond.instanceMethod yX7_step]
def wsX7_dearest_r3 : List Cond := [Cond.selects RX7 yX7_step yX7_step, Cond.code yX7_step cX7_step 4 (some .boolean), Cond.methodLink RX7 167 yX7_puts, Cond.instanceMethod yX7_puts, Cond.selects RX7 yX7_puts yX7_puts, Cond.code yX7_puts cX7_puts 15 none, Cond.constantLong RX7 165 (2), Cond.methodLink RX7 189 yX7_size, Cond.static yX7_size, Cond.code yX7_size cX7_size 2 (some .long)]
def wsX7_dearest : List Cond := .code yX7_dearest cX7_dearest 10 (some .int) :: ((wsX7_dearest_r1 ++ (wsX7_dearest_r2 ++ wsX7_dearest_r3)) ++ wsX70)
def wsX7_value_r1 : List Cond := [Cond.fieldLink RX7 153 "GateSumsModel" "many" "I", Cond.fieldLink RX7 26 "GateSumsModel" "sets" "[I", Cond.fieldLink RX7 29 "GateSumsModel" "coefficients" "[J", Cond.methodLink RX7 183 yX7_isStage, Cond.instanceMethod yX7_isStage, Cond.selects RX7 yX7_isStage yX7_isStage, Cond.initialized RX7, Cond.code yX7_isStage cX7_isStage 2 (some .boolean), Cond.fieldLink RX7 7 "GateSumsModel" "s" "[I", Cond.methodLink RX7 94 yX7_isThere, Cond.instanceMethod yX7_isThere, Cond.selects RX7 yX7_isThere yX7_isThere, Cond.code yX7_isThere cX7_isThere 1 (some .boolean), Cond.methodLink RX7 39 yX7_in, Cond.static yX7_in, Cond.code yX7_in cX7_in 3 (some .boolean), Cond.methodLink RX7 144 yX7_isInput, Cond.instanceMethod yX7_isInput, Cond.selects RX7 yX7_isInput yX7_isInput, Cond.code yX7_isInput cX7_isInput 2 (some .boolean), Cond.methodLink RX7 100 yX7_none, Cond.instanceMethod yX7_none, Cond.selects RX7 yX7_none yX7_none, Cond.code yX7_none cX7_none 2 (some .int)]
def wsX7_value_r2 : List Cond := [Cond.methodLink RX7 43 yX7_refuses, Cond.instanceMethod yX7_refuses, Cond.selects RX7 yX7_refuses yX7_refuses, Cond.code yX7_refuses cX7_refuses 2 (some .int), Cond.fieldLink RX7 16 "GateSumsModel" "refused" "[I", Cond.methodLink RX7 180 yX7_comes, Cond.instanceMethod yX7_comes, Cond.selects RX7 yX7_comes yX7_comes, Cond.code yX7_comes cX7_comes 4 (some .boolean), Cond.fieldLink RX7 174 "GateSumsModel" "greatest" "I", Cond.methodLink RX7 171 yX7_begin, Cond.instanceMethod yX7_begin, Cond.selects RX7 yX7_begin yX7_begin, Cond.code yX7_begin cX7_begin 7 (some .boolean), Cond.fieldLink RX7 150 "GateSumsModel" "made" "I", Cond.constantLong RX7 160 (-3), Cond.methodLink RX7 156 yX7_adds, Cond.instanceMethod yX7_adds, Cond.selects RX7 yX7_adds yX7_adds, Cond.code yX7_adds cX7_adds 5 none, Cond.fieldLink RX7 33 "GateSumsModel" "newSets" "[I", Cond.fieldLink RX7 36 "GateSumsModel" "newCoefficients" "[J", Cond.methodLink RX7 162 yX7_becomes, Cond.instanceMethod yX7_becomes]
def wsX7_value_r3 : List Cond := [Cond.selects RX7 yX7_becomes yX7_becomes, Cond.code yX7_becomes cX7_becomes 3 (some .boolean), Cond.methodLink RX7 177 yX7_step, Cond.instanceMethod yX7_step, Cond.selects RX7 yX7_step yX7_step, Cond.code yX7_step cX7_step 4 (some .boolean), Cond.methodLink RX7 167 yX7_puts, Cond.instanceMethod yX7_puts, Cond.selects RX7 yX7_puts yX7_puts, Cond.code yX7_puts cX7_puts 15 none, Cond.constantLong RX7 165 (2), Cond.methodLink RX7 135 yX7_signals, Cond.instanceMethod yX7_signals, Cond.selects RX7 yX7_signals yX7_signals, Cond.code yX7_signals cX7_signals 6 (some .int), Cond.methodLink RX7 131 yX7_goes, Cond.static yX7_goes, Cond.code yX7_goes cX7_goes 5 (some .int)]
def wsX7_value : List Cond := .code yX7_value cX7_value 8 (some .int) :: ((wsX7_value_r1 ++ (wsX7_value_r2 ++ wsX7_value_r3)) ++ wsX70)
def wsX7_stands_r1 : List Cond := [Cond.fieldLink RX7 153 "GateSumsModel" "many" "I", Cond.fieldLink RX7 26 "GateSumsModel" "sets" "[I", Cond.methodLink RX7 183 yX7_isStage, Cond.instanceMethod yX7_isStage, Cond.selects RX7 yX7_isStage yX7_isStage, Cond.initialized RX7, Cond.code yX7_isStage cX7_isStage 2 (some .boolean), Cond.fieldLink RX7 7 "GateSumsModel" "s" "[I", Cond.methodLink RX7 94 yX7_isThere, Cond.instanceMethod yX7_isThere, Cond.selects RX7 yX7_isThere yX7_isThere, Cond.code yX7_isThere cX7_isThere 1 (some .boolean), Cond.methodLink RX7 39 yX7_in, Cond.static yX7_in, Cond.code yX7_in cX7_in 3 (some .boolean), Cond.methodLink RX7 100 yX7_none, Cond.instanceMethod yX7_none, Cond.selects RX7 yX7_none yX7_none, Cond.code yX7_none cX7_none 2 (some .int), Cond.methodLink RX7 43 yX7_refuses, Cond.instanceMethod yX7_refuses, Cond.selects RX7 yX7_refuses yX7_refuses, Cond.code yX7_refuses cX7_refuses 2 (some .int), Cond.fieldLink RX7 16 "GateSumsModel" "refused" "[I"]
def wsX7_stands_r2 : List Cond := [Cond.methodLink RX7 180 yX7_comes, Cond.instanceMethod yX7_comes, Cond.selects RX7 yX7_comes yX7_comes, Cond.code yX7_comes cX7_comes 4 (some .boolean), Cond.fieldLink RX7 174 "GateSumsModel" "greatest" "I", Cond.methodLink RX7 171 yX7_begin, Cond.instanceMethod yX7_begin, Cond.selects RX7 yX7_begin yX7_begin, Cond.code yX7_begin cX7_begin 7 (some .boolean), Cond.fieldLink RX7 150 "GateSumsModel" "made" "I", Cond.constantLong RX7 160 (-3), Cond.methodLink RX7 156 yX7_adds, Cond.instanceMethod yX7_adds, Cond.selects RX7 yX7_adds yX7_adds, Cond.code yX7_adds cX7_adds 5 none, Cond.fieldLink RX7 33 "GateSumsModel" "newSets" "[I", Cond.fieldLink RX7 36 "GateSumsModel" "newCoefficients" "[J", Cond.methodLink RX7 162 yX7_becomes, Cond.instanceMethod yX7_becomes, Cond.selects RX7 yX7_becomes yX7_becomes, Cond.code yX7_becomes cX7_becomes 3 (some .boolean), Cond.fieldLink RX7 29 "GateSumsModel" "coefficients" "[J", Cond.methodLink RX7 177 yX7_step, Cond.instanceMethod yX7_step]
def wsX7_stands_r3 : List Cond := [Cond.selects RX7 yX7_step yX7_step, Cond.code yX7_step cX7_step 4 (some .boolean), Cond.methodLink RX7 167 yX7_puts, Cond.instanceMethod yX7_puts, Cond.selects RX7 yX7_puts yX7_puts, Cond.code yX7_puts cX7_puts 15 none, Cond.constantLong RX7 165 (2)]
def wsX7_stands : List Cond := .code yX7_stands cX7_stands 5 (some .int) :: ((wsX7_stands_r1 ++ (wsX7_stands_r2 ++ wsX7_stands_r3)) ++ wsX70)
def wsX7_witness_r1 : List Cond := [Cond.fieldLink RX7 7 "GateSumsModel" "s" "[I", Cond.fieldLink RX7 193 "GateSumsModel" "fewest" "I", Cond.fieldLink RX7 153 "GateSumsModel" "many" "I", Cond.fieldLink RX7 26 "GateSumsModel" "sets" "[I", Cond.methodLink RX7 94 yX7_isThere, Cond.instanceMethod yX7_isThere, Cond.selects RX7 yX7_isThere yX7_isThere, Cond.initialized RX7, Cond.code yX7_isThere cX7_isThere 1 (some .boolean), Cond.methodLink RX7 43 yX7_refuses, Cond.instanceMethod yX7_refuses, Cond.selects RX7 yX7_refuses yX7_refuses, Cond.code yX7_refuses cX7_refuses 2 (some .int), Cond.fieldLink RX7 16 "GateSumsModel" "refused" "[I", Cond.methodLink RX7 180 yX7_comes, Cond.instanceMethod yX7_comes, Cond.selects RX7 yX7_comes yX7_comes, Cond.code yX7_comes cX7_comes 4 (some .boolean), Cond.fieldLink RX7 174 "GateSumsModel" "greatest" "I", Cond.methodLink RX7 171 yX7_begin, Cond.instanceMethod yX7_begin, Cond.selects RX7 yX7_begin yX7_begin, Cond.code yX7_begin cX7_begin 7 (some .boolean), Cond.fieldLink RX7 150 "GateSumsModel" "made" "I"]
def wsX7_witness_r2 : List Cond := [Cond.constantLong RX7 160 (-3), Cond.methodLink RX7 156 yX7_adds, Cond.instanceMethod yX7_adds, Cond.selects RX7 yX7_adds yX7_adds, Cond.code yX7_adds cX7_adds 5 none, Cond.fieldLink RX7 33 "GateSumsModel" "newSets" "[I", Cond.fieldLink RX7 36 "GateSumsModel" "newCoefficients" "[J", Cond.methodLink RX7 162 yX7_becomes, Cond.instanceMethod yX7_becomes, Cond.selects RX7 yX7_becomes yX7_becomes, Cond.code yX7_becomes cX7_becomes 3 (some .boolean), Cond.fieldLink RX7 29 "GateSumsModel" "coefficients" "[J", Cond.methodLink RX7 177 yX7_step, Cond.instanceMethod yX7_step, Cond.selects RX7 yX7_step yX7_step, Cond.code yX7_step cX7_step 4 (some .boolean), Cond.methodLink RX7 167 yX7_puts, Cond.instanceMethod yX7_puts, Cond.selects RX7 yX7_puts yX7_puts, Cond.code yX7_puts cX7_puts 15 none, Cond.constantLong RX7 165 (2), Cond.methodLink RX7 186 yX7_ones, Cond.static yX7_ones, Cond.code yX7_ones cX7_ones 3 (some .int)]
def wsX7_witness : List Cond := .code yX7_witness cX7_witness 3 (some .int) :: ((wsX7_witness_r1 ++ wsX7_witness_r2) ++ wsX70)
def wsX7_countOf : List Cond := .code yX7_countOf cX7_countOf 2 (some .int) :: ([.fieldLink RX7 16 "GateSumsModel" "refused" "[I", .fieldLink RX7 47 "GateSumsModel" "typed" "I", .fieldLink RX7 7 "GateSumsModel" "s" "[I"] ++ wsX70)
def wsX7_count : List Cond := .code yX7_count cX7_count 2 (some .int) :: ([.methodLink RX7 39 yX7_in, .static yX7_in, .initialized RX7, .code yX7_in cX7_in 3 (some .boolean), .methodLink RX7 196 yX7_countOf, .instanceMethod yX7_countOf, .selects RX7 yX7_countOf yX7_countOf, .code yX7_countOf cX7_countOf 2 (some .int), .fieldLink RX7 16 "GateSumsModel" "refused" "[I", .fieldLink RX7 47 "GateSumsModel" "typed" "I", .fieldLink RX7 7 "GateSumsModel" "s" "[I", .methodLink RX7 43 yX7_refuses, .instanceMethod yX7_refuses, .selects RX7 yX7_refuses yX7_refuses, .code yX7_refuses cX7_refuses 2 (some .int)] ++ wsX70)
def wsX7_digest_r1 : List Cond := [Cond.constantLong RX7 199 (1993), Cond.constantLong RX7 201 (31), Cond.fieldLink RX7 7 "GateSumsModel" "s" "[I", Cond.methodLink RX7 196 yX7_countOf, Cond.instanceMethod yX7_countOf, Cond.selects RX7 yX7_countOf yX7_countOf, Cond.initialized RX7, Cond.code yX7_countOf cX7_countOf 2 (some .int), Cond.fieldLink RX7 16 "GateSumsModel" "refused" "[I", Cond.fieldLink RX7 47 "GateSumsModel" "typed" "I", Cond.methodLink RX7 94 yX7_isThere, Cond.instanceMethod yX7_isThere, Cond.selects RX7 yX7_isThere yX7_isThere, Cond.code yX7_isThere cX7_isThere 1 (some .boolean), Cond.methodLink RX7 147 yX7_wrongOnes, Cond.instanceMethod yX7_wrongOnes, Cond.selects RX7 yX7_wrongOnes yX7_wrongOnes, Cond.code yX7_wrongOnes cX7_wrongOnes 4 (some .int), Cond.methodLink RX7 138 yX7_stand, Cond.instanceMethod yX7_stand, Cond.selects RX7 yX7_stand yX7_stand, Cond.code yX7_stand cX7_stand 5 (some .int), Cond.methodLink RX7 135 yX7_signals, Cond.instanceMethod yX7_signals]
def wsX7_digest_r2 : List Cond := [Cond.selects RX7 yX7_signals yX7_signals, Cond.code yX7_signals cX7_signals 6 (some .int), Cond.methodLink RX7 131 yX7_goes, Cond.static yX7_goes, Cond.code yX7_goes cX7_goes 5 (some .int), Cond.methodLink RX7 141 yX7_task, Cond.instanceMethod yX7_task, Cond.selects RX7 yX7_task yX7_task, Cond.code yX7_task cX7_task 5 (some .int)]
def wsX7_digest : List Cond := .code yX7_digest cX7_digest 4 (some .long) :: ((wsX7_digest_r1 ++ wsX7_digest_r2) ++ wsX70)
def wsJ9_abs_0f7a4 : List Cond := .code yJ9_abs_0f7a4 cJ9_abs_0f7a4 1 (some .int) :: ([])
def wsJ9_max_7cf53 : List Cond := .code yJ9_max_7cf53 cJ9_max_7cf53 2 (some .int) :: ([])
def wsL_law_r1 : List Cond := [Cond.classLink RL 7 RX6, Cond.instantiable RX6 9, Cond.initialized RX6, Cond.classLink RL 10 RX7, Cond.instantiable RX7 16, Cond.initialized RX7, Cond.methodLink RL 9 yX6_init, Cond.instanceMethod yX6_init, Cond.code yX6_init cX6_init 1 none, Cond.methodLink RX6 3 objectInit, Cond.instanceMethod objectInit, Cond.code objectInit ⟨#[0xb1]⟩ 1 none, Cond.classLink RX6 9 RX3, Cond.instantiable RX3 4, Cond.initialized RX3, Cond.fieldLink RX6 12 "GateSums" "reader" "LGateSums$Reader;", Cond.classLink RX6 16 RX0, Cond.instantiable RX0 11, Cond.initialized RX0, Cond.fieldLink RX6 19 "GateSums" "circuit" "LGateSums$Circuit;", Cond.fieldLink RX6 23 "GateSums" "draft" "LGateSums$Circuit;", Cond.classLink RX6 26 RX1, Cond.instantiable RX1 1, Cond.initialized RX1]
def wsL_law_r2 : List Cond := [Cond.fieldLink RX6 29 "GateSums" "columns" "LGateSums$Columns;", Cond.fieldLink RX6 33 "GateSums" "trial" "LGateSums$Columns;", Cond.classLink RX6 36 RX4, Cond.instantiable RX4 6, Cond.initialized RX4, Cond.fieldLink RX6 39 "GateSums" "stages" "LGateSums$Stages;", Cond.instanceMethod yX3_init, Cond.code yX3_init cX3_init 1 none, Cond.methodLink RX3 3 objectInit, Cond.classLink RX3 9 RX5, Cond.instantiable RX5 2, Cond.initialized RX5, Cond.fieldLink RX3 12 "GateSums$Reader" "text" "LGateSums$Text;", Cond.instanceMethod yX5_init, Cond.code yX5_init cX5_init 1 none, Cond.methodLink RX5 3 objectInit, Cond.arrayClass .byte, Cond.fieldLink RX5 9 "GateSums$Text" "bytes" "[B", Cond.instanceMethod yX0_init, Cond.code yX0_init cX0_init 1 none, Cond.methodLink RX0 3 objectInit, Cond.arrayClass .int, Cond.fieldLink RX0 9 "GateSums$Circuit" "kinds" "[I", Cond.fieldLink RX0 15 "GateSums$Circuit" "xs" "[I"]
def wsL_law_r3 : List Cond := [Cond.fieldLink RX0 18 "GateSums$Circuit" "ys" "[I", Cond.fieldLink RX0 21 "GateSums$Circuit" "places" "[I", Cond.instanceMethod yX1_init, Cond.code yX1_init cX1_init 1 none, Cond.methodLink RX1 3 objectInit, Cond.arrayClass .long, Cond.fieldLink RX1 9 "GateSums$Columns" "rows" "[J", Cond.instanceMethod yX4_init, Cond.code yX4_init cX4_init 1 none, Cond.methodLink RX4 3 objectInit, Cond.fieldLink RX4 9 "GateSums$Stages" "sizes" "[I", Cond.fieldLink RX4 15 "GateSums$Stages" "sets" "[I", Cond.fieldLink RX4 18 "GateSums$Stages" "coefficients" "[I", Cond.classLink RX4 21 RX2, Cond.instantiable RX2 3, Cond.initialized RX2, Cond.fieldLink RX4 24 "GateSums$Stages" "work" "LGateSums$Polynomial;", Cond.instanceMethod yX2_init, Cond.code yX2_init cX2_init 1 none, Cond.methodLink RX2 3 objectInit, Cond.fieldLink RX2 11 "GateSums$Polynomial" "sets" "[I", Cond.fieldLink RX2 15 "GateSums$Polynomial" "coefficients" "[I", Cond.methodLink RL 12 yX7_init, Cond.instanceMethod yX7_init]
def wsL_law_r4 : List Cond := [Cond.code yX7_init cX7_init 1 none, Cond.methodLink RX7 1 objectInit, Cond.fieldLink RX7 7 "GateSumsModel" "s" "[I", Cond.fieldLink RX7 13 "GateSumsModel" "draft" "[I", Cond.fieldLink RX7 16 "GateSumsModel" "refused" "[I", Cond.fieldLink RX7 19 "GateSumsModel" "text" "[I", Cond.arrayClass .char, Cond.fieldLink RX7 22 "GateSumsModel" "words" "[C", Cond.fieldLink RX7 26 "GateSumsModel" "sets" "[I", Cond.fieldLink RX7 29 "GateSumsModel" "coefficients" "[J", Cond.fieldLink RX7 33 "GateSumsModel" "newSets" "[I", Cond.fieldLink RX7 36 "GateSumsModel" "newCoefficients" "[J", Cond.methodLink RL 13 yX6_type, Cond.instanceMethod yX6_type, Cond.selects RX6 yX6_type yX6_type, Cond.code yX6_type cX6_type 2 (some .int), Cond.fieldLink RX6 47 "GateSums$Reader" "text" "LGateSums$Text;", Cond.fieldLink RX6 57 "GateSums$Text" "length" "I", Cond.methodLink RX6 43 yX6_refused, Cond.instanceMethod yX6_refused, Cond.selects RX6 yX6_refused yX6_refused, Cond.code yX6_refused cX6_refused 2 (some .int), Cond.fieldLink RX6 237 "GateSums" "bads" "I", Cond.fieldLink RX6 240 "GateSums" "noes" "I"]
def wsL_law_r5 : List Cond := [Cond.fieldLink RX6 243 "GateSums" "fulls" "I", Cond.methodLink RX6 51 yX5_append, Cond.instanceMethod yX5_append, Cond.selects RX5 yX5_append yX5_append, Cond.code yX5_append cX5_append 2 (some .boolean), Cond.fieldLink RX5 15 "GateSums$Text" "length" "I", Cond.methodLink RL 17 yX7_type, Cond.instanceMethod yX7_type, Cond.selects RX7 yX7_type yX7_type, Cond.code yX7_type cX7_type 2 (some .int), Cond.fieldLink RX7 47 "GateSumsModel" "typed" "I", Cond.methodLink RX7 39 yX7_in, Cond.static yX7_in, Cond.code yX7_in cX7_in 3 (some .boolean), Cond.methodLink RX7 43 yX7_refuses, Cond.instanceMethod yX7_refuses, Cond.selects RX7 yX7_refuses yX7_refuses, Cond.code yX7_refuses cX7_refuses 2 (some .int), Cond.methodLink RL 18 yX6_clear, Cond.instanceMethod yX6_clear, Cond.selects RX6 yX6_clear yX6_clear, Cond.code yX6_clear cX6_clear 2 (some .int), Cond.methodLink RL 22 yX7_clear, Cond.instanceMethod yX7_clear]
def wsL_law_r6 : List Cond := [Cond.selects RX7 yX7_clear yX7_clear, Cond.code yX7_clear cX7_clear 2 (some .int), Cond.methodLink RL 23 yX6_reads, Cond.instanceMethod yX6_reads, Cond.selects RX6 yX6_reads yX6_reads, Cond.code yX6_reads cX6_reads 2 (some .int), Cond.methodLink RX6 61 yX3_faultOf, Cond.instanceMethod yX3_faultOf, Cond.selects RX3 yX3_faultOf yX3_faultOf, Cond.code yX3_faultOf cX3_faultOf 3 (some .int), Cond.fieldLink RX3 18 "GateSums$Reader" "to" "I", Cond.fieldLink RX3 38 "GateSums$Reader" "sort" "I", Cond.fieldLink RX3 41 "GateSums$Reader" "from" "I", Cond.methodLink RX3 22 yX3_advance, Cond.instanceMethod yX3_advance, Cond.selects RX3 yX3_advance yX3_advance, Cond.code yX3_advance cX3_advance 2 none, Cond.fieldLink RX3 144 "GateSums$Text" "length" "I", Cond.methodLink RX3 136 yX5_byteAt, Cond.instanceMethod yX5_byteAt, Cond.selects RX5 yX5_byteAt yX5_byteAt, Cond.code yX5_byteAt cX5_byteAt 2 (some .int), Cond.methodLink RX3 146 yX3_sortOf, Cond.static yX3_sortOf]
def wsL_law_r7 : List Cond := [Cond.code yX3_sortOf cX3_sortOf 2 (some .int), Cond.methodLink RX3 25 yX3_readInputs, Cond.instanceMethod yX3_readInputs, Cond.selects RX3 yX3_readInputs yX3_readInputs, Cond.code yX3_readInputs cX3_readInputs 3 (some .boolean), Cond.methodLink RX3 46 yX3_takeWord, Cond.instanceMethod yX3_takeWord, Cond.selects RX3 yX3_takeWord yX3_takeWord, Cond.code yX3_takeWord cX3_takeWord 2 (some .boolean), Cond.methodLink RX3 101 yX3_isWord, Cond.instanceMethod yX3_isWord, Cond.selects RX3 yX3_isWord yX3_isWord, Cond.code yX3_isWord cX3_isWord 3 (some .boolean), Cond.methodLink RX3 131 yJ0_length_8abf5, Cond.instanceMethod yJ0_length_8abf5, Cond.selects RJ0 yJ0_length_8abf5 yJ0_length_8abf5, Cond.initialized RJ0, Cond.code yJ0_length_8abf5 cJ0_length_8abf5 1 (some .int), Cond.fieldLink RJ0 9 "java/lang/String" "value" "[B", Cond.methodLink RJ0 335 yJ0_coder_7d493, Cond.instanceMethod yJ0_coder_7d493, Cond.selects RJ0 yJ0_coder_7d493 yJ0_coder_7d493, Cond.code yJ0_coder_7d493 cJ0_coder_7d493 1 (some .byte), Cond.fieldLink RJ0 38 "java/lang/String" "COMPACT_STRINGS" "Z"]
def wsL_law_r8 : List Cond := [Cond.fieldLink RJ0 15 "java/lang/String" "coder" "B", Cond.methodLink RX3 140 yJ0_charAt_5068e, Cond.instanceMethod yJ0_charAt_5068e, Cond.selects RJ0 yJ0_charAt_5068e yJ0_charAt_5068e, Cond.code yJ0_charAt_5068e cJ0_charAt_5068e 2 (some .char), Cond.methodLink RJ0 492 yJ0_isLatin1_aae02, Cond.instanceMethod yJ0_isLatin1_aae02, Cond.selects RJ0 yJ0_isLatin1_aae02 yJ0_isLatin1_aae02, Cond.code yJ0_isLatin1_aae02 cJ0_isLatin1_aae02 1 (some .boolean), Cond.methodLink RJ0 495 yJ1_charAt_3b067, Cond.static yJ1_charAt_3b067, Cond.initialized RJ1, Cond.code yJ1_charAt_3b067 cJ1_charAt_3b067 2 (some .char), Cond.methodLink RJ1 9 yJ0_checkIndex_df160, Cond.static yJ0_checkIndex_df160, Cond.code yJ0_checkIndex_df160 cJ0_checkIndex_df160 2 none, Cond.fieldLink RJ0 1053 "jdk/internal/util/Preconditions" "SIOOBE_FORMATTER" "Ljava/util/function/BiFunction;", Cond.methodLink RJ0 1059 yJ3_checkIndex_8e157, Cond.static yJ3_checkIndex_8e157, Cond.initialized RJ3, Cond.code yJ3_checkIndex_8e157 cJ3_checkIndex_8e157 3 (some .int), Cond.methodLink RJ0 498 yJ2_charAt_3b067, Cond.static yJ2_charAt_3b067, Cond.initialized RJ2]
def wsL_law_r9 : List Cond := [Cond.code yJ2_charAt_3b067 cJ2_charAt_3b067 2 (some .char), Cond.methodLink RJ2 67 yJ2_checkIndex_2214a, Cond.static yJ2_checkIndex_2214a, Cond.code yJ2_checkIndex_2214a cJ2_checkIndex_2214a 2 none, Cond.methodLink RJ2 48 yJ2_length_9d52b, Cond.static yJ2_length_9d52b, Cond.code yJ2_length_9d52b cJ2_length_9d52b 1 (some .int), Cond.methodLink RJ2 414 yJ0_checkIndex_df160, Cond.methodLink RJ2 71 yJ2_getChar_3b067, Cond.static yJ2_getChar_3b067, Cond.code yJ2_getChar_3b067 cJ2_getChar_3b067 2 (some .char), Cond.fieldLink RJ2 44 "java/lang/StringUTF16" "$assertionsDisabled" "Z", Cond.fieldLink RJ2 59 "java/lang/StringUTF16" "HI_BYTE_SHIFT" "I", Cond.fieldLink RJ2 63 "java/lang/StringUTF16" "LO_BYTE_SHIFT" "I", Cond.methodLink RX3 50 yX3_takeNumber, Cond.instanceMethod yX3_takeNumber, Cond.selects RX3 yX3_takeNumber yX3_takeNumber, Cond.code yX3_takeNumber cX3_takeNumber 5 (some .int), Cond.methodLink RX3 54 yX0_begin, Cond.instanceMethod yX0_begin, Cond.selects RX0 yX0_begin yX0_begin, Cond.code yX0_begin cX0_begin 2 none, Cond.fieldLink RX0 24 "GateSums$Circuit" "there" "Z", Cond.fieldLink RX0 28 "GateSums$Circuit" "inputs" "I"]
def wsL_law_r10 : List Cond := [Cond.fieldLink RX0 32 "GateSums$Circuit" "gates" "I", Cond.fieldLink RX0 35 "GateSums$Circuit" "outputs" "I", Cond.methodLink RX3 60 yX3_takeSemicolon, Cond.instanceMethod yX3_takeSemicolon, Cond.selects RX3 yX3_takeSemicolon yX3_takeSemicolon, Cond.code yX3_takeSemicolon cX3_takeSemicolon 1 (some .boolean), Cond.methodLink RX3 29 yX3_readGates, Cond.instanceMethod yX3_readGates, Cond.selects RX3 yX3_readGates yX3_readGates, Cond.code yX3_readGates cX3_readGates 3 (some .boolean), Cond.methodLink RX3 66 yX3_readGate, Cond.instanceMethod yX3_readGate, Cond.selects RX3 yX3_readGate yX3_readGate, Cond.code yX3_readGate cX3_readGate 6 (some .boolean), Cond.methodLink RX3 69 yX3_gateKind, Cond.instanceMethod yX3_gateKind, Cond.selects RX3 yX3_gateKind yX3_gateKind, Cond.code yX3_gateKind cX3_gateKind 2 (some .int), Cond.methodLink RX3 97 yX3_gateWord, Cond.static yX3_gateWord, Cond.code yX3_gateWord cX3_gateWord 1 (some (.object "java/lang/String")), Cond.methodLink RX3 73 yX0_signals, Cond.instanceMethod yX0_signals, Cond.selects RX0 yX0_signals yX0_signals]
def wsL_law_r11 : List Cond := [Cond.code yX0_signals cX0_signals 1 (some .int), Cond.methodLink RX3 76 yX0_addGate, Cond.instanceMethod yX0_addGate, Cond.selects RX0 yX0_addGate yX0_addGate, Cond.code yX0_addGate cX0_addGate 4 (some .int), Cond.static yX6_put, Cond.code yX6_put cX6_put 3 none, Cond.methodLink RX0 42 yX0_signals, Cond.methodLink RX3 32 yX3_readOutputs, Cond.instanceMethod yX3_readOutputs, Cond.selects RX3 yX3_readOutputs yX3_readOutputs, Cond.code yX3_readOutputs cX3_readOutputs 5 (some .boolean), Cond.methodLink RX3 82 yX0_addOutput, Cond.instanceMethod yX0_addOutput, Cond.selects RX0 yX0_addOutput yX0_addOutput, Cond.code yX0_addOutput cX0_addOutput 2 none, Cond.methodLink RX3 35 yX3_readTask, Cond.instanceMethod yX3_readTask, Cond.selects RX3 yX3_readTask yX3_readTask, Cond.code yX3_readTask cX3_readTask 5 (some .boolean), Cond.fieldLink RX3 90 "GateSums$Circuit" "inputs" "I", Cond.methodLink RX3 87 yX3_taskKind, Cond.instanceMethod yX3_taskKind, Cond.selects RX3 yX3_taskKind yX3_taskKind]
def wsL_law_r12 : List Cond := [Cond.code yX3_taskKind cX3_taskKind 2 (some .int), Cond.methodLink RX3 104 yX3_taskWord, Cond.static yX3_taskWord, Cond.code yX3_taskWord cX3_taskWord 1 (some (.object "java/lang/String")), Cond.methodLink RX3 93 yX0_end, Cond.instanceMethod yX0_end, Cond.selects RX0 yX0_end yX0_end, Cond.code yX0_end cX0_end 4 none, Cond.fieldLink RX0 46 "GateSums$Circuit" "task" "I", Cond.fieldLink RX0 49 "GateSums$Circuit" "p" "I", Cond.fieldLink RX0 52 "GateSums$Circuit" "q" "I", Cond.methodLink RX6 65 yX0_become, Cond.instanceMethod yX0_become, Cond.selects RX0 yX0_become yX0_become, Cond.code yX0_become cX0_become 3 none, Cond.methodLink RX0 55 yX0_begin, Cond.methodLink RX0 59 yX0_kindOf, Cond.instanceMethod yX0_kindOf, Cond.selects RX0 yX0_kindOf yX0_kindOf, Cond.code yX0_kindOf cX0_kindOf 2 (some .int), Cond.static yX6_at, Cond.code yX6_at cX6_at 2 (some .int), Cond.methodLink RX0 63 yX0_xOf, Cond.instanceMethod yX0_xOf]
def wsL_law_r13 : List Cond := [Cond.selects RX0 yX0_xOf yX0_xOf, Cond.code yX0_xOf cX0_xOf 2 (some .int), Cond.methodLink RX0 66 yX0_yOf, Cond.instanceMethod yX0_yOf, Cond.selects RX0 yX0_yOf yX0_yOf, Cond.code yX0_yOf cX0_yOf 2 (some .int), Cond.methodLink RX0 69 yX0_addGate, Cond.methodLink RX0 73 yX0_outputAt, Cond.instanceMethod yX0_outputAt, Cond.selects RX0 yX0_outputAt yX0_outputAt, Cond.code yX0_outputAt cX0_outputAt 2 (some .int), Cond.methodLink RX0 76 yX0_addOutput, Cond.methodLink RX0 79 yX0_end, Cond.methodLink RX6 69 yX6_changed, Cond.instanceMethod yX6_changed, Cond.selects RX6 yX6_changed yX6_changed, Cond.code yX6_changed cX6_changed 1 (some .int), Cond.fieldLink RX6 197 "GateSums$Circuit" "gates" "I", Cond.methodLink RX6 193 yX1_fill, Cond.instanceMethod yX1_fill, Cond.selects RX1 yX1_fill yX1_fill, Cond.code yX1_fill cX1_fill 6 none, Cond.fieldLink RX1 15 "GateSums$Circuit" "inputs" "I", Cond.fieldLink RX1 21 "GateSums$Columns" "INPUT_COLUMNS" "[J"]
def wsL_law_r14 : List Cond := [Cond.fieldLink RX1 24 "GateSums$Circuit" "gates" "I", Cond.methodLink RX1 27 yX0_kindOf, Cond.methodLink RX1 31 yX1_column, Cond.instanceMethod yX1_column, Cond.selects RX1 yX1_column yX1_column, Cond.code yX1_column cX1_column 8 (some .long), Cond.constantLong RX1 45 (-1), Cond.methodLink RX1 35 yX0_xOf, Cond.methodLink RX1 38 yX1_row, Cond.instanceMethod yX1_row, Cond.selects RX1 yX1_row yX1_row, Cond.code yX1_row cX1_row 2 (some .long), Cond.methodLink RX1 42 yX0_yOf, Cond.methodLink RX6 267 yX4_forget, Cond.instanceMethod yX4_forget, Cond.selects RX4 yX4_forget yX4_forget, Cond.code yX4_forget cX4_forget 1 none, Cond.fieldLink RX4 28 "GateSums$Stages" "known" "I", Cond.fieldLink RX4 32 "GateSums$Stages" "burst" "Z", Cond.methodLink RL 26 yX7_reads, Cond.instanceMethod yX7_reads, Cond.selects RX7 yX7_reads yX7_reads, Cond.code yX7_reads cX7_reads 2 (some .int), Cond.fieldLink RX7 51 "GateSumsModel" "at" "I"]
def wsL_law_r15 : List Cond := [Cond.methodLink RX7 91 yX7_readsAll, Cond.instanceMethod yX7_readsAll, Cond.selects RX7 yX7_readsAll yX7_readsAll, Cond.code yX7_readsAll cX7_readsAll 3 (some .boolean), Cond.fieldLink RX7 64 "GateSumsModel" "number" "I", Cond.methodLink RX7 71 yX7_word, Cond.instanceMethod yX7_word, Cond.selects RX7 yX7_word yX7_word, Cond.code yX7_word cX7_word 6 (some .int), Cond.methodLink RX7 57 yX7_skips, Cond.instanceMethod yX7_skips, Cond.selects RX7 yX7_skips yX7_skips, Cond.code yX7_skips cX7_skips 1 none, Cond.methodLink RX7 54 yX7_byteAt, Cond.instanceMethod yX7_byteAt, Cond.selects RX7 yX7_byteAt yX7_byteAt, Cond.code yX7_byteAt cX7_byteAt 2 (some .int), Cond.methodLink RX7 67 yX7_isWord, Cond.instanceMethod yX7_isWord, Cond.selects RX7 yX7_isWord yX7_isWord, Cond.code yX7_isWord cX7_isWord 5 (some .boolean), Cond.methodLink RX7 75 yX7_isNumber, Cond.instanceMethod yX7_isNumber, Cond.selects RX7 yX7_isNumber yX7_isNumber]
def wsL_law_r16 : List Cond := [Cond.code yX7_isNumber cX7_isNumber 6 (some .boolean), Cond.methodLink RX7 60 yX7_isDigit, Cond.static yX7_isDigit, Cond.code yX7_isDigit cX7_isDigit 1 (some .boolean), Cond.methodLink RX7 78 yX7_ends, Cond.instanceMethod yX7_ends, Cond.selects RX7 yX7_ends yX7_ends, Cond.code yX7_ends cX7_ends 2 (some .boolean), Cond.methodLink RX7 82 yX7_readsGate, Cond.instanceMethod yX7_readsGate, Cond.selects RX7 yX7_readsGate yX7_readsGate, Cond.code yX7_readsGate cX7_readsGate 4 (some .boolean), Cond.methodLink RX7 85 yX7_readsOuts, Cond.instanceMethod yX7_readsOuts, Cond.selects RX7 yX7_readsOuts yX7_readsOuts, Cond.code yX7_readsOuts cX7_readsOuts 2 (some .boolean), Cond.methodLink RX7 88 yX7_readsTask, Cond.instanceMethod yX7_readsTask, Cond.selects RX7 yX7_readsTask yX7_readsTask, Cond.code yX7_readsTask cX7_readsTask 2 (some .boolean), Cond.methodLink RL 27 yX6_kind, Cond.instanceMethod yX6_kind, Cond.selects RX6 yX6_kind yX6_kind, Cond.code yX6_kind cX6_kind 5 (some .int)]
def wsL_law_r17 : List Cond := [Cond.fieldLink RX6 87 "GateSums$Circuit" "kinds" "[I", Cond.methodLink RX6 73 yX6_isGate, Cond.instanceMethod yX6_isGate, Cond.selects RX6 yX6_isGate yX6_isGate, Cond.code yX6_isGate cX6_isGate 2 (some .boolean), Cond.fieldLink RX6 256 "GateSums$Circuit" "there" "Z", Cond.methodLink RX6 76 yX0_mayPut, Cond.instanceMethod yX0_mayPut, Cond.selects RX0 yX0_mayPut yX0_mayPut, Cond.code yX0_mayPut cX0_mayPut 3 (some .boolean), Cond.methodLink RX6 80 yX6_refusal, Cond.instanceMethod yX6_refusal, Cond.selects RX6 yX6_refusal yX6_refusal, Cond.code yX6_refusal cX6_refusal 2 (some .int), Cond.methodLink RX6 84 yX0_kindOf, Cond.methodLink RX6 91 yX6_put, Cond.methodLink RL 31 yX7_kind, Cond.instanceMethod yX7_kind, Cond.selects RX7 yX7_kind yX7_kind, Cond.code yX7_kind cX7_kind 5 (some .int), Cond.methodLink RX7 97 yX7_isGate, Cond.instanceMethod yX7_isGate, Cond.selects RX7 yX7_isGate yX7_isGate, Cond.code yX7_isGate cX7_isGate 2 (some .boolean)]
def wsL_law_r18 : List Cond := [Cond.methodLink RX7 94 yX7_isThere, Cond.instanceMethod yX7_isThere, Cond.selects RX7 yX7_isThere yX7_isThere, Cond.code yX7_isThere cX7_isThere 1 (some .boolean), Cond.methodLink RX7 100 yX7_none, Cond.instanceMethod yX7_none, Cond.selects RX7 yX7_none yX7_none, Cond.code yX7_none cX7_none 2 (some .int), Cond.methodLink RL 32 yX6_wire, Cond.instanceMethod yX6_wire, Cond.selects RX6 yX6_wire yX6_wire, Cond.code yX6_wire cX6_wire 7 (some .int), Cond.fieldLink RX6 101 "GateSums$Circuit" "xs" "[I", Cond.fieldLink RX6 104 "GateSums$Circuit" "ys" "[I", Cond.methodLink RX6 95 yX6_isWay, Cond.instanceMethod yX6_isWay, Cond.selects RX6 yX6_isWay yX6_isWay, Cond.code yX6_isWay cX6_isWay 3 (some .boolean), Cond.methodLink RX6 98 yX6_isAhead, Cond.instanceMethod yX6_isAhead, Cond.selects RX6 yX6_isAhead yX6_isAhead, Cond.code yX6_isAhead cX6_isAhead 3 (some .boolean), Cond.fieldLink RX6 117 "GateSums$Circuit" "inputs" "I", Cond.methodLink RX6 107 yX6_at]
def wsL_law_r19 : List Cond := [Cond.methodLink RL 36 yX7_wire, Cond.instanceMethod yX7_wire, Cond.selects RX7 yX7_wire yX7_wire, Cond.code yX7_wire cX7_wire 7 (some .int), Cond.methodLink RL 37 yX6_of, Cond.instanceMethod yX6_of, Cond.selects RX6 yX6_of yX6_of, Cond.code yX6_of cX6_of 4 (some .int), Cond.methodLink RX6 111 yX0_xOf, Cond.methodLink RX6 114 yX0_yOf, Cond.methodLink RX6 120 yX0_usesOf, Cond.instanceMethod yX0_usesOf, Cond.selects RX0 yX0_usesOf yX0_usesOf, Cond.code yX0_usesOf cX0_usesOf 4 (some .int), Cond.methodLink RL 40 yX7_of, Cond.instanceMethod yX7_of, Cond.selects RX7 yX7_of yX7_of, Cond.code yX7_of cX7_of 7 (some .int), Cond.methodLink RL 41 yX6_told, Cond.instanceMethod yX6_told, Cond.selects RX6 yX6_told yX6_told, Cond.code yX6_told cX6_told 5 (some .int), Cond.fieldLink RX6 129 "GateSums$Circuit" "task" "I", Cond.fieldLink RX6 132 "GateSums$Circuit" "p" "I"]
def wsL_law_r20 : List Cond := [Cond.fieldLink RX6 135 "GateSums$Circuit" "q" "I", Cond.methodLink RX6 123 yX6_isPlace, Cond.instanceMethod yX6_isPlace, Cond.selects RX6 yX6_isPlace yX6_isPlace, Cond.code yX6_isPlace cX6_isPlace 2 (some .boolean), Cond.fieldLink RX6 246 "GateSums$Circuit" "outputs" "I", Cond.methodLink RX6 126 yX0_outputAt, Cond.methodLink RL 44 yX7_told, Cond.instanceMethod yX7_told, Cond.selects RX7 yX7_told yX7_told, Cond.code yX7_told cX7_told 4 (some .int), Cond.methodLink RL 45 yX6_adder, Cond.instanceMethod yX6_adder, Cond.selects RX6 yX6_adder yX6_adder, Cond.code yX6_adder cX6_adder 7 (some .int), Cond.methodLink RX6 138 yX0_begin, Cond.methodLink RX6 142 yX0_addGate, Cond.methodLink RX6 146 yX0_addOutput, Cond.methodLink RX6 149 yX0_end, Cond.methodLink RL 48 yX7_adder, Cond.instanceMethod yX7_adder, Cond.selects RX7 yX7_adder yX7_adder, Cond.code yX7_adder cX7_adder 7 (some .int), Cond.methodLink RX7 104 yX7_begins]
def wsL_law_r21 : List Cond := [Cond.instanceMethod yX7_begins, Cond.selects RX7 yX7_begins yX7_begins, Cond.code yX7_begins cX7_begins 6 none, Cond.methodLink RX7 108 yX7_lays, Cond.static yX7_lays, Cond.code yX7_lays cX7_lays 5 (some .int), Cond.methodLink RX7 112 yX7_outs, Cond.instanceMethod yX7_outs, Cond.selects RX7 yX7_outs yX7_outs, Cond.code yX7_outs cX7_outs 2 none, Cond.methodLink RL 49 yX6_draw, Cond.instanceMethod yX6_draw, Cond.selects RX6 yX6_draw yX6_draw, Cond.code yX6_draw cX6_draw 10 (some .int), Cond.constant RX6 153 (999999), Cond.constantLong RX6 154 (1103515245), Cond.constantLong RX6 156 (12345), Cond.constantLong RX6 158 (2147483648), Cond.constantLong RX6 160 (65536), Cond.constantLong RX6 166 (32768), Cond.constantLong RX6 168 (1024), Cond.methodLink RX6 162 yX6_leftOver, Cond.static yX6_leftOver, Cond.code yX6_leftOver cX6_leftOver 3 (some .int)]
def wsL_law_r22 : List Cond := [Cond.methodLink RL 52 yX7_draw, Cond.instanceMethod yX7_draw, Cond.selects RX7 yX7_draw yX7_draw, Cond.code yX7_draw cX7_draw 8 (some .int), Cond.constant RX7 116 (999999), Cond.constantLong RX7 117 (1103515245), Cond.constantLong RX7 119 (12345), Cond.constantLong RX7 121 (2147483648), Cond.constantLong RX7 123 (65536), Cond.constantLong RX7 125 (8), Cond.constantLong RX7 127 (1024), Cond.constantLong RX7 129 (32768), Cond.methodLink RL 53 yX6_runs, Cond.instanceMethod yX6_runs, Cond.selects RX6 yX6_runs yX6_runs, Cond.code yX6_runs cX6_runs 4 (some .int), Cond.methodLink RX6 170 yX6_isInputs, Cond.instanceMethod yX6_isInputs, Cond.selects RX6 yX6_isInputs yX6_isInputs, Cond.code yX6_isInputs cX6_isInputs 2 (some .boolean), Cond.methodLink RX6 173 yX1_outputsFor, Cond.instanceMethod yX1_outputsFor, Cond.selects RX1 yX1_outputsFor yX1_outputsFor, Cond.code yX1_outputsFor cX1_outputsFor 5 (some .int)]
def wsL_law_r23 : List Cond := [Cond.fieldLink RX1 47 "GateSums$Circuit" "outputs" "I", Cond.methodLink RX1 50 yX0_outputAt, Cond.methodLink RX1 53 yX1_bit, Cond.instanceMethod yX1_bit, Cond.selects RX1 yX1_bit yX1_bit, Cond.code yX1_bit cX1_bit 3 (some .int), Cond.methodLink RX6 177 yX0_taskFor, Cond.instanceMethod yX0_taskFor, Cond.selects RX0 yX0_taskFor yX0_taskFor, Cond.code yX0_taskFor cX0_taskFor 4 (some .int), Cond.methodLink RL 56 yX7_runs, Cond.instanceMethod yX7_runs, Cond.selects RX7 yX7_runs yX7_runs, Cond.code yX7_runs cX7_runs 4 (some .int), Cond.methodLink RX7 144 yX7_isInput, Cond.instanceMethod yX7_isInput, Cond.selects RX7 yX7_isInput yX7_isInput, Cond.code yX7_isInput cX7_isInput 2 (some .boolean), Cond.methodLink RX7 138 yX7_stand, Cond.instanceMethod yX7_stand, Cond.selects RX7 yX7_stand yX7_stand, Cond.code yX7_stand cX7_stand 5 (some .int), Cond.methodLink RX7 135 yX7_signals, Cond.instanceMethod yX7_signals]
def wsL_law_r24 : List Cond := [Cond.selects RX7 yX7_signals yX7_signals, Cond.code yX7_signals cX7_signals 6 (some .int), Cond.methodLink RX7 131 yX7_goes, Cond.static yX7_goes, Cond.code yX7_goes cX7_goes 5 (some .int), Cond.methodLink RX7 141 yX7_task, Cond.instanceMethod yX7_task, Cond.selects RX7 yX7_task yX7_task, Cond.code yX7_task cX7_task 5 (some .int), Cond.methodLink RL 57 yX6_signal, Cond.instanceMethod yX6_signal, Cond.selects RX6 yX6_signal yX6_signal, Cond.code yX6_signal cX6_signal 4 (some .int), Cond.methodLink RX6 180 yX6_isSignal, Cond.instanceMethod yX6_isSignal, Cond.selects RX6 yX6_isSignal yX6_isSignal, Cond.code yX6_isSignal cX6_isSignal 2 (some .boolean), Cond.methodLink RX6 260 yX0_signals, Cond.methodLink RX6 183 yX1_bit, Cond.methodLink RL 60 yX7_signal, Cond.instanceMethod yX7_signal, Cond.selects RX7 yX7_signal yX7_signal, Cond.code yX7_signal cX7_signal 4 (some .int), Cond.methodLink RL 61 yX6_wrong]
def wsL_law_r25 : List Cond := [Cond.instanceMethod yX6_wrong, Cond.selects RX6 yX6_wrong yX6_wrong, Cond.code yX6_wrong cX6_wrong 3 (some .int), Cond.methodLink RX6 187 yX1_firstWrong, Cond.instanceMethod yX1_firstWrong, Cond.selects RX1 yX1_firstWrong yX1_firstWrong, Cond.code yX1_firstWrong cX1_firstWrong 4 (some .int), Cond.methodLink RX1 68 yX1_isWrong, Cond.instanceMethod yX1_isWrong, Cond.selects RX1 yX1_isWrong yX1_isWrong, Cond.code yX1_isWrong cX1_isWrong 3 (some .boolean), Cond.methodLink RX1 61 yX1_outputsFor, Cond.methodLink RX1 65 yX0_taskFor, Cond.methodLink RX6 190 yX1_countWrong, Cond.instanceMethod yX1_countWrong, Cond.selects RX1 yX1_countWrong yX1_countWrong, Cond.code yX1_countWrong cX1_countWrong 5 (some .int), Cond.methodLink RL 64 yX7_wrong, Cond.instanceMethod yX7_wrong, Cond.selects RX7 yX7_wrong yX7_wrong, Cond.code yX7_wrong cX7_wrong 3 (some .int), Cond.methodLink RX7 147 yX7_wrongOnes, Cond.instanceMethod yX7_wrongOnes, Cond.selects RX7 yX7_wrongOnes yX7_wrongOnes]
def wsL_law_r26 : List Cond := [Cond.code yX7_wrongOnes cX7_wrongOnes 4 (some .int), Cond.methodLink RL 65 yX6_cures, Cond.instanceMethod yX6_cures, Cond.selects RX6 yX6_cures yX6_cures, Cond.code yX6_cures cX6_cures 5 (some .int), Cond.methodLink RL 68 yX7_cures, Cond.instanceMethod yX7_cures, Cond.selects RX7 yX7_cures yX7_cures, Cond.code yX7_cures cX7_cures 6 (some .int), Cond.methodLink RL 69 yX6_right, Cond.instanceMethod yX6_right, Cond.selects RX6 yX6_right yX6_right, Cond.code yX6_right cX6_right 2 (some .int), Cond.methodLink RX6 200 yX6_stageRefusal, Cond.instanceMethod yX6_stageRefusal, Cond.selects RX6 yX6_stageRefusal yX6_stageRefusal, Cond.code yX6_stageRefusal cX6_stageRefusal 4 (some .int), Cond.methodLink RX6 263 yX4_reach, Cond.instanceMethod yX4_reach, Cond.selects RX4 yX4_reach yX4_reach, Cond.code yX4_reach cX4_reach 4 (some .boolean), Cond.fieldLink RX4 36 "GateSums$Polynomial" "size" "I", Cond.fieldLink RX4 46 "GateSums$Circuit" "gates" "I", Cond.methodLink RX4 39 yX4_addOutputs]
def wsL_law_r27 : List Cond := [Cond.instanceMethod yX4_addOutputs, Cond.selects RX4 yX4_addOutputs yX4_addOutputs, Cond.code yX4_addOutputs cX4_addOutputs 3 none, Cond.fieldLink RX4 69 "GateSums$Circuit" "outputs" "I", Cond.methodLink RX4 72 yX0_outputAt, Cond.static yX6_setOf, Cond.code yX6_setOf cX6_setOf 1 (some .int), Cond.methodLink RX4 79 yX2_add, Cond.instanceMethod yX2_add, Cond.selects RX2 yX2_add yX2_add, Cond.code yX2_add cX2_add 5 none, Cond.fieldLink RX2 22 "GateSums$Polynomial" "size" "I", Cond.methodLink RX2 18 yX2_placeOf, Cond.instanceMethod yX2_placeOf, Cond.selects RX2 yX2_placeOf yX2_placeOf, Cond.code yX2_placeOf cX2_placeOf 6 (some .int), Cond.methodLink RX2 30 yX2_insert, Cond.instanceMethod yX2_insert, Cond.selects RX2 yX2_insert yX2_insert, Cond.code yX2_insert cX2_insert 4 none, Cond.methodLink RX2 42 arraycopyName, Cond.native arraycopyName, Cond.static arraycopyName, Cond.initialized "java/lang/System"]
def wsL_law_r28 : List Cond := [Cond.methodLink RX2 34 yX2_remove, Cond.instanceMethod yX2_remove, Cond.selects RX2 yX2_remove yX2_remove, Cond.code yX2_remove cX2_remove 3 none, Cond.methodLink RX4 43 yX4_takeTask, Cond.instanceMethod yX4_takeTask, Cond.selects RX4 yX4_takeTask yX4_takeTask, Cond.code yX4_takeTask cX4_takeTask 7 none, Cond.fieldLink RX4 83 "GateSums$Circuit" "p" "I", Cond.fieldLink RX4 86 "GateSums$Circuit" "task" "I", Cond.fieldLink RX4 89 "GateSums$Circuit" "q" "I", Cond.fieldLink RX4 92 "GateSums$Stages" "TASK_OF_A" "[I", Cond.fieldLink RX4 95 "GateSums$Stages" "TASK_OF_B" "[I", Cond.methodLink RX4 51 yX4_replaceGate, Cond.instanceMethod yX4_replaceGate, Cond.selects RX4 yX4_replaceGate yX4_replaceGate, Cond.code yX4_replaceGate cX4_replaceGate 12 none, Cond.fieldLink RX4 98 "GateSums$Circuit" "inputs" "I", Cond.fieldLink RX4 120 "GateSums$Stages" "OF_ONE" "[I", Cond.fieldLink RX4 123 "GateSums$Stages" "OF_X" "[I", Cond.fieldLink RX4 126 "GateSums$Stages" "OF_Y" "[I", Cond.fieldLink RX4 129 "GateSums$Stages" "OF_BOTH" "[I", Cond.methodLink RX4 101 yX0_xOf, Cond.methodLink RX4 104 yX0_yOf]
def wsL_law_r29 : List Cond := [Cond.methodLink RX4 107 yX0_kindOf, Cond.methodLink RX4 110 yX4_sizeOf, Cond.instanceMethod yX4_sizeOf, Cond.selects RX4 yX4_sizeOf yX4_sizeOf, Cond.code yX4_sizeOf cX4_sizeOf 2 (some .int), Cond.methodLink RX4 113 yX4_setAt, Cond.instanceMethod yX4_setAt, Cond.selects RX4 yX4_setAt yX4_setAt, Cond.code yX4_setAt cX4_setAt 3 (some .int), Cond.methodLink RX4 117 yX4_coefficientAt, Cond.instanceMethod yX4_coefficientAt, Cond.selects RX4 yX4_coefficientAt yX4_coefficientAt, Cond.code yX4_coefficientAt cX4_coefficientAt 3 (some .int), Cond.methodLink RX4 55 yX4_keep, Cond.instanceMethod yX4_keep, Cond.selects RX4 yX4_keep yX4_keep, Cond.code yX4_keep cX4_keep 3 none, Cond.fieldLink RX4 63 "GateSums$Polynomial" "sets" "[I", Cond.fieldLink RX4 68 "GateSums$Polynomial" "coefficients" "[I", Cond.methodLink RX6 204 yX4_sizeOf, Cond.methodLink RL 72 yX7_right, Cond.instanceMethod yX7_right, Cond.selects RX7 yX7_right yX7_right, Cond.code yX7_right cX7_right 1 (some .int)]
def wsL_law_r30 : List Cond := [Cond.fieldLink RX7 153 "GateSumsModel" "many" "I", Cond.methodLink RX7 180 yX7_comes, Cond.instanceMethod yX7_comes, Cond.selects RX7 yX7_comes yX7_comes, Cond.code yX7_comes cX7_comes 4 (some .boolean), Cond.fieldLink RX7 174 "GateSumsModel" "greatest" "I", Cond.methodLink RX7 171 yX7_begin, Cond.instanceMethod yX7_begin, Cond.selects RX7 yX7_begin yX7_begin, Cond.code yX7_begin cX7_begin 7 (some .boolean), Cond.fieldLink RX7 150 "GateSumsModel" "made" "I", Cond.constantLong RX7 160 (-3), Cond.methodLink RX7 156 yX7_adds, Cond.instanceMethod yX7_adds, Cond.selects RX7 yX7_adds yX7_adds, Cond.code yX7_adds cX7_adds 5 none, Cond.methodLink RX7 162 yX7_becomes, Cond.instanceMethod yX7_becomes, Cond.selects RX7 yX7_becomes yX7_becomes, Cond.code yX7_becomes cX7_becomes 3 (some .boolean), Cond.methodLink RX7 177 yX7_step, Cond.instanceMethod yX7_step, Cond.selects RX7 yX7_step yX7_step, Cond.code yX7_step cX7_step 4 (some .boolean)]
def wsL_law_r31 : List Cond := [Cond.methodLink RX7 167 yX7_puts, Cond.instanceMethod yX7_puts, Cond.selects RX7 yX7_puts yX7_puts, Cond.code yX7_puts cX7_puts 15 none, Cond.constantLong RX7 165 (2), Cond.methodLink RL 73 yX6_terms, Cond.instanceMethod yX6_terms, Cond.selects RX6 yX6_terms yX6_terms, Cond.code yX6_terms cX6_terms 3 (some .int), Cond.methodLink RX6 207 yX6_isStage, Cond.instanceMethod yX6_isStage, Cond.selects RX6 yX6_isStage yX6_isStage, Cond.code yX6_isStage cX6_isStage 2 (some .boolean), Cond.methodLink RL 76 yX7_terms, Cond.instanceMethod yX7_terms, Cond.selects RX7 yX7_terms yX7_terms, Cond.code yX7_terms cX7_terms 3 (some .int), Cond.methodLink RX7 183 yX7_isStage, Cond.instanceMethod yX7_isStage, Cond.selects RX7 yX7_isStage yX7_isStage, Cond.code yX7_isStage cX7_isStage 2 (some .boolean), Cond.methodLink RL 77 yX6_term, Cond.instanceMethod yX6_term, Cond.selects RX6 yX6_term yX6_term]
def wsL_law_r32 : List Cond := [Cond.code yX6_term cX6_term 5 (some .int), Cond.methodLink RX6 210 yX4_coefficientAt, Cond.methodLink RX6 213 yX4_setAt, Cond.methodLink RL 80 yX7_term, Cond.instanceMethod yX7_term, Cond.selects RX7 yX7_term yX7_term, Cond.code yX7_term cX7_term 5 (some .int), Cond.methodLink RL 81 yX6_most, Cond.instanceMethod yX6_most, Cond.selects RX6 yX6_most yX6_most, Cond.code yX6_most cX6_most 4 (some .int), Cond.methodLink RX6 216 yX4_greatestSize, Cond.instanceMethod yX4_greatestSize, Cond.selects RX4 yX4_greatestSize yX4_greatestSize, Cond.code yX4_greatestSize cX4_greatestSize 4 (some .int), Cond.methodLink RX4 132 Lib.Math.max.name, Cond.static Lib.Math.max.name, Cond.initialized "java/lang/Math", Cond.code Lib.Math.max.name Lib.Math.max.code 2 (some .int), Cond.methodLink RX6 219 yX4_widestOf, Cond.instanceMethod yX4_widestOf, Cond.selects RX4 yX4_widestOf yX4_widestOf, Cond.code yX4_widestOf cX4_widestOf 4 (some .int), Cond.methodLink RX4 137 yJ6_bitCount_0f7a4]
def wsL_law_r33 : List Cond := [Cond.static yJ6_bitCount_0f7a4, Cond.initialized RJ6, Cond.code yJ6_bitCount_0f7a4 cJ6_bitCount_0f7a4 1 (some .int), Cond.constant RJ6 265 (1431655765), Cond.constant RJ6 266 (858993459), Cond.constant RJ6 267 (252645135), Cond.methodLink RX6 222 yX4_sumWhere, Cond.instanceMethod yX4_sumWhere, Cond.selects RX4 yX4_sumWhere yX4_sumWhere, Cond.code yX4_sumWhere cX4_sumWhere 6 (some .int), Cond.methodLink RL 84 yX7_most, Cond.instanceMethod yX7_most, Cond.selects RX7 yX7_most yX7_most, Cond.code yX7_most cX7_most 7 (some .int), Cond.methodLink RX7 186 yX7_ones, Cond.static yX7_ones, Cond.code yX7_ones cX7_ones 3 (some .int), Cond.methodLink RL 85 yX6_dearest, Cond.instanceMethod yX6_dearest, Cond.selects RX6 yX6_dearest yX6_dearest, Cond.code yX6_dearest cX6_dearest 4 (some .int), Cond.methodLink RX6 225 yX4_dearestOf, Cond.instanceMethod yX4_dearestOf, Cond.selects RX4 yX4_dearestOf yX4_dearestOf]
def wsL_law_r34 : List Cond := [Cond.code yX4_dearestOf cX4_dearestOf 4 (some .int), Cond.methodLink RX4 142 yX4_dearerThan, Cond.instanceMethod yX4_dearerThan, Cond.selects RX4 yX4_dearerThan yX4_dearerThan, Cond.code yX4_dearerThan cX4_dearerThan 7 (some .int), Cond.methodLink RX4 145 Lib.Math.abs.name, Cond.static Lib.Math.abs.name, Cond.code Lib.Math.abs.name Lib.Math.abs.code 1 (some .int), Cond.methodLink RL 88 yX7_dearest, Cond.instanceMethod yX7_dearest, Cond.selects RX7 yX7_dearest yX7_dearest, Cond.code yX7_dearest cX7_dearest 10 (some .int), Cond.methodLink RX7 189 yX7_size, Cond.static yX7_size, Cond.code yX7_size cX7_size 2 (some .long), Cond.methodLink RL 89 yX6_value, Cond.instanceMethod yX6_value, Cond.selects RX6 yX6_value yX6_value, Cond.code yX6_value cX6_value 4 (some .int), Cond.methodLink RX6 228 yX1_trueSignals, Cond.instanceMethod yX1_trueSignals, Cond.selects RX1 yX1_trueSignals yX1_trueSignals, Cond.code yX1_trueSignals cX1_trueSignals 5 (some .int), Cond.methodLink RX1 57 yX0_signals]
def wsL_law_r35 : List Cond := [Cond.methodLink RL 92 yX7_value, Cond.instanceMethod yX7_value, Cond.selects RX7 yX7_value yX7_value, Cond.code yX7_value cX7_value 8 (some .int), Cond.methodLink RL 93 yX6_stands, Cond.instanceMethod yX6_stands, Cond.selects RX6 yX6_stands yX6_stands, Cond.code yX6_stands cX6_stands 3 (some .int), Cond.methodLink RX6 231 yX4_unionOf, Cond.instanceMethod yX4_unionOf, Cond.selects RX4 yX4_unionOf yX4_unionOf, Cond.code yX4_unionOf cX4_unionOf 4 (some .int), Cond.methodLink RL 96 yX7_stands, Cond.instanceMethod yX7_stands, Cond.selects RX7 yX7_stands yX7_stands, Cond.code yX7_stands cX7_stands 5 (some .int), Cond.methodLink RL 97 yX6_witness, Cond.instanceMethod yX6_witness, Cond.selects RX6 yX6_witness yX6_witness, Cond.code yX6_witness cX6_witness 2 (some .int), Cond.methodLink RX6 234 yX4_narrowestOf, Cond.instanceMethod yX4_narrowestOf, Cond.selects RX4 yX4_narrowestOf yX4_narrowestOf, Cond.code yX4_narrowestOf cX4_narrowestOf 6 (some .int)]
def wsL_law_r36 : List Cond := [Cond.methodLink RL 100 yX7_witness, Cond.instanceMethod yX7_witness, Cond.selects RX7 yX7_witness yX7_witness, Cond.code yX7_witness cX7_witness 3 (some .int), Cond.fieldLink RX7 193 "GateSumsModel" "fewest" "I", Cond.methodLink RL 101 yX6_count, Cond.instanceMethod yX6_count, Cond.selects RX6 yX6_count yX6_count, Cond.code yX6_count cX6_count 2 (some .int), Cond.methodLink RL 104 yX7_count, Cond.instanceMethod yX7_count, Cond.selects RX7 yX7_count yX7_count, Cond.code yX7_count cX7_count 2 (some .int), Cond.methodLink RX7 196 yX7_countOf, Cond.instanceMethod yX7_countOf, Cond.selects RX7 yX7_countOf yX7_countOf, Cond.code yX7_countOf cX7_countOf 2 (some .int), Cond.methodLink RL 105 yX6_digest, Cond.instanceMethod yX6_digest, Cond.selects RX6 yX6_digest yX6_digest, Cond.code yX6_digest cX6_digest 4 (some .long), Cond.constantLong RX6 249 (1993), Cond.constantLong RX6 251 (31), Cond.methodLink RX6 253 yX6_count]
def wsL_law_r37 : List Cond := [Cond.methodLink RL 109 yX7_digest, Cond.instanceMethod yX7_digest, Cond.selects RX7 yX7_digest yX7_digest, Cond.code yX7_digest cX7_digest 4 (some .long), Cond.constantLong RX7 199 (1993), Cond.constantLong RX7 201 (31)]
def wsL_law : List Cond := (wsL_law_r1 ++ (wsL_law_r2 ++ (wsL_law_r3 ++ (wsL_law_r4 ++ (wsL_law_r5 ++ (wsL_law_r6 ++ (wsL_law_r7 ++ (wsL_law_r8 ++ (wsL_law_r9 ++ (wsL_law_r10 ++ (wsL_law_r11 ++ (wsL_law_r12 ++ (wsL_law_r13 ++ (wsL_law_r14 ++ (wsL_law_r15 ++ (wsL_law_r16 ++ (wsL_law_r17 ++ (wsL_law_r18 ++ (wsL_law_r19 ++ (wsL_law_r20 ++ (wsL_law_r21 ++ (wsL_law_r22 ++ (wsL_law_r23 ++ (wsL_law_r24 ++ (wsL_law_r25 ++ (wsL_law_r26 ++ (wsL_law_r27 ++ (wsL_law_r28 ++ (wsL_law_r29 ++ (wsL_law_r30 ++ (wsL_law_r31 ++ (wsL_law_r32 ++ (wsL_law_r33 ++ (wsL_law_r34 ++ (wsL_law_r35 ++ (wsL_law_r36 ++ wsL_law_r37)))))))))))))))))))))))))))))))))))) ++ wsX60 ++ wsX70 ++ wsX30 ++ wsX00 ++ wsX10 ++ wsX40 ++ wsX50 ++ wsX20 ++ ([] : List Cond)
end
section
theorem mem_places {big ws : List Cond} (ps : List Nat) (h : ws = ps.filterMap (fun i => big[i]?)) : ∀ w ∈ ws, w ∈ big := by
  intro w hw
  rw [h] at hw
  obtain ⟨i, -, hi⟩ := List.mem_filterMap.mp hw
  exact List.mem_of_getElem? hi
set_option maxRecDepth 20000 in
theorem lin_wsL_law_r1 : ∀ w ∈ wsL_law_r1, w ∈ lw_tbl := mem_places [79, 80, 64, 791, 792, 71, 81, 82, 83, 84, 85, 86, 87, 88, 65, 239, 123, 124, 67, 240, 241, 184, 185, 68] (by decide +kernel)
set_option maxRecDepth 20000 in
theorem lin_wsL_law_r2 : ∀ w ∈ wsL_law_r2, w ∈ lw_tbl := mem_places [242, 243, 195, 196, 69, 244, 90, 91, 92, 93, 94, 66, 109, 96, 97, 98, 108, 99, 126, 127, 128, 183, 153, 155] (by decide +kernel)
set_option maxRecDepth 20000 in
theorem lin_wsL_law_r3 : ∀ w ∈ wsL_law_r3, w ∈ lw_tbl := mem_places [157, 159, 187, 188, 189, 194, 190, 198, 199, 200, 220, 221, 222, 201, 202, 70, 223, 204, 205, 206, 207, 209, 793, 794] (by decide +kernel)
set_option maxRecDepth 20000 in
theorem lin_wsL_law_r4 : ∀ w ∈ wsL_law_r4, w ∈ lw_tbl := mem_places [795, 796, 797, 798, 799, 800, 846, 804, 805, 806, 808, 809, 267, 268, 269, 270, 110, 101, 271, 273, 0, 274, 245, 246] (by decide +kernel)
set_option maxRecDepth 20000 in
theorem lin_wsL_law_r5 : ∀ w ∈ wsL_law_r5, w ∈ lw_tbl := mem_places [247, 275, 276, 277, 278, 100, 847, 848, 849, 850, 801, 851, 852, 853, 854, 856, 34, 857, 279, 280, 281, 282, 858, 859] (by decide +kernel)
set_option maxRecDepth 20000 in
theorem lin_wsL_law_r6 : ∀ w ∈ wsL_law_r6, w ∈ lw_tbl := mem_places [860, 861, 283, 284, 285, 286, 287, 288, 289, 290, 112, 113, 111, 291, 293, 1, 294, 102, 295, 296, 297, 298, 299, 300] (by decide +kernel)
set_option maxRecDepth 20000 in
theorem lin_wsL_law_r7 : ∀ w ∈ wsL_law_r7, w ∈ lw_tbl := mem_places [301, 302, 304, 2, 305, 307, 309, 3, 310, 311, 313, 4, 314, 315, 316, 317, 72, 318, 1085, 319, 320, 321, 322, 323] (by decide +kernel)
set_option maxRecDepth 20000 in
theorem lin_wsL_law_r8 : ∀ w ∈ wsL_law_r8, w ∈ lw_tbl := mem_places [1086, 325, 326, 327, 328, 329, 330, 331, 332, 333, 334, 73, 335, 336, 337, 338, 339, 341, 342, 74, 343, 344, 345, 75] (by decide +kernel)
set_option maxRecDepth 20000 in
theorem lin_wsL_law_r9 : ∀ w ∈ wsL_law_r9, w ∈ lw_tbl := mem_places [346, 347, 348, 349, 350, 351, 352, 353, 354, 355, 356, 357, 359, 361, 363, 365, 5, 366, 367, 368, 369, 370, 129, 132] (by decide +kernel)
set_option maxRecDepth 20000 in
theorem lin_wsL_law_r10 : ∀ w ∈ wsL_law_r10, w ∈ lw_tbl := mem_places [136, 140, 371, 373, 6, 374, 375, 377, 7, 378, 380, 382, 8, 383, 384, 386, 9, 387, 388, 389, 390, 399, 400, 401] (by decide +kernel)
set_option maxRecDepth 20000 in
theorem lin_wsL_law_r11 : ∀ w ∈ wsL_law_r11, w ∈ lw_tbl := mem_places [402, 403, 404, 405, 406, 408, 409, 410, 411, 413, 10, 414, 416, 417, 418, 419, 420, 422, 11, 423, 134, 425, 427, 12] (by decide +kernel)
set_option maxRecDepth 20000 in
theorem lin_wsL_law_r12 : ∀ w ∈ wsL_law_r12, w ∈ lw_tbl := mem_places [428, 429, 430, 431, 436, 437, 438, 439, 144, 147, 150, 440, 441, 442, 443, 444, 445, 446, 447, 448, 450, 451, 452, 453] (by decide +kernel)
set_option maxRecDepth 20000 in
theorem lin_wsL_law_r13 : ∀ w ∈ wsL_law_r13, w ∈ lw_tbl := mem_places [454, 455, 456, 457, 458, 459, 460, 461, 462, 463, 464, 465, 466, 467, 469, 13, 470, 139, 471, 472, 473, 474, 131, 475] (by decide +kernel)
set_option maxRecDepth 20000 in
theorem lin_wsL_law_r14 : ∀ w ∈ wsL_law_r14, w ∈ lw_tbl := mem_places [137, 477, 478, 480, 14, 481, 488, 482, 483, 485, 15, 486, 487, 489, 490, 491, 492, 224, 225, 862, 863, 864, 865, 802] (by decide +kernel)
set_option maxRecDepth 20000 in
theorem lin_wsL_law_r15 : ∀ w ∈ wsL_law_r15, w ∈ lw_tbl := mem_places [866, 868, 35, 869, 803, 870, 872, 36, 873, 874, 876, 37, 877, 878, 880, 38, 881, 882, 884, 39, 885, 886, 888, 40] (by decide +kernel)
set_option maxRecDepth 20000 in
theorem lin_wsL_law_r16 : ∀ w ∈ wsL_law_r16, w ∈ lw_tbl := mem_places [889, 890, 891, 892, 893, 895, 41, 896, 897, 899, 42, 900, 901, 903, 43, 904, 905, 907, 44, 908, 493, 494, 495, 496] (by decide +kernel)
set_option maxRecDepth 20000 in
theorem lin_wsL_law_r17 : ∀ w ∈ wsL_law_r17, w ∈ lw_tbl := mem_places [154, 497, 499, 16, 500, 130, 501, 502, 503, 504, 505, 507, 17, 508, 509, 510, 909, 910, 911, 912, 913, 915, 45, 916] (by decide +kernel)
set_option maxRecDepth 20000 in
theorem lin_wsL_law_r18 : ∀ w ∈ wsL_law_r18, w ∈ lw_tbl := mem_places [917, 919, 46, 920, 921, 923, 47, 924, 511, 512, 513, 514, 156, 158, 515, 517, 18, 518, 519, 521, 19, 522, 135, 523] (by decide +kernel)
set_option maxRecDepth 20000 in
theorem lin_wsL_law_r19 : ∀ w ∈ wsL_law_r19, w ∈ lw_tbl := mem_places [925, 926, 927, 928, 524, 525, 526, 527, 528, 529, 530, 531, 532, 533, 929, 930, 931, 932, 534, 535, 536, 537, 146, 149] (by decide +kernel)
set_option maxRecDepth 20000 in
theorem lin_wsL_law_r20 : ∀ w ∈ wsL_law_r20, w ∈ lw_tbl := mem_places [152, 538, 540, 20, 541, 143, 542, 933, 934, 935, 936, 543, 544, 545, 546, 547, 548, 549, 550, 937, 938, 939, 940, 941] (by decide +kernel)
set_option maxRecDepth 20000 in
theorem lin_wsL_law_r21 : ∀ w ∈ wsL_law_r21, w ∈ lw_tbl := mem_places [943, 48, 944, 945, 946, 947, 948, 950, 49, 951, 551, 552, 553, 554, 555, 556, 557, 558, 559, 563, 564, 560, 561, 562] (by decide +kernel)
set_option maxRecDepth 20000 in
theorem lin_wsL_law_r22 : ∀ w ∈ wsL_law_r22, w ∈ lw_tbl := mem_places [952, 953, 954, 955, 956, 957, 958, 959, 960, 961, 962, 963, 565, 566, 567, 568, 569, 571, 21, 572, 573, 574, 575, 576] (by decide +kernel)
set_option maxRecDepth 20000 in
theorem lin_wsL_law_r23 : ∀ w ∈ wsL_law_r23, w ∈ lw_tbl := mem_places [142, 577, 578, 579, 580, 581, 582, 583, 584, 585, 964, 965, 966, 967, 968, 970, 50, 971, 972, 974, 51, 975, 976, 978] (by decide +kernel)
set_option maxRecDepth 20000 in
theorem lin_wsL_law_r24 : ∀ w ∈ wsL_law_r24, w ∈ lw_tbl := mem_places [52, 979, 980, 981, 982, 983, 985, 53, 986, 586, 587, 588, 589, 590, 592, 22, 593, 594, 595, 987, 988, 989, 990, 596] (by decide +kernel)
set_option maxRecDepth 20000 in
theorem lin_wsL_law_r25 : ∀ w ∈ wsL_law_r25, w ∈ lw_tbl := mem_places [597, 598, 599, 600, 601, 602, 603, 604, 606, 23, 607, 608, 609, 610, 611, 612, 613, 991, 992, 993, 994, 995, 997, 54] (by decide +kernel)
set_option maxRecDepth 20000 in
theorem lin_wsL_law_r26 : ∀ w ∈ wsL_law_r26, w ∈ lw_tbl := mem_places [998, 614, 615, 616, 617, 999, 1000, 1001, 1002, 618, 619, 620, 621, 622, 624, 24, 625, 626, 627, 628, 629, 212, 138, 630] (by decide +kernel)
set_option maxRecDepth 20000 in
theorem lin_wsL_law_r27 : ∀ w ∈ wsL_law_r27, w ∈ lw_tbl := mem_places [632, 25, 633, 141, 634, 636, 637, 638, 639, 640, 641, 211, 642, 644, 26, 645, 647, 649, 27, 650, 651, 653, 652, 76] (by decide +kernel)
set_option maxRecDepth 20000 in
theorem lin_wsL_law_r28 : ∀ w ∈ wsL_law_r28, w ∈ lw_tbl := mem_places [655, 657, 28, 658, 659, 661, 29, 662, 148, 145, 151, 663, 666, 668, 670, 30, 671, 133, 687, 689, 691, 693, 672, 673] (by decide +kernel)
set_option maxRecDepth 20000 in
theorem lin_wsL_law_r29 : ∀ w ∈ wsL_law_r29, w ∈ lw_tbl := mem_places [674, 675, 676, 677, 678, 679, 680, 681, 682, 683, 684, 685, 686, 695, 697, 31, 698, 208, 210, 700, 1003, 1004, 1005, 1006] (by decide +kernel)
set_option maxRecDepth 20000 in
theorem lin_wsL_law_r30 : ∀ w ∈ wsL_law_r30, w ∈ lw_tbl := mem_places [807, 1007, 1009, 55, 1010, 812, 1011, 1013, 56, 1014, 810, 1019, 1015, 1017, 57, 1018, 1020, 1022, 58, 1023, 1024, 1026, 59, 1027] (by decide +kernel)
set_option maxRecDepth 20000 in
theorem lin_wsL_law_r31 : ∀ w ∈ wsL_law_r31, w ∈ lw_tbl := mem_places [1028, 1030, 60, 1031, 1032, 701, 702, 703, 704, 705, 707, 32, 708, 1033, 1034, 1035, 1036, 1037, 1039, 61, 1040, 709, 710, 711] (by decide +kernel)
set_option maxRecDepth 20000 in
theorem lin_wsL_law_r32 : ∀ w ∈ wsL_law_r32, w ∈ lw_tbl := mem_places [712, 713, 714, 1041, 1042, 1043, 1044, 715, 716, 717, 718, 719, 720, 721, 722, 723, 724, 77, 725, 726, 727, 728, 729, 730] (by decide +kernel)
set_option maxRecDepth 20000 in
theorem lin_wsL_law_r33 : ∀ w ∈ wsL_law_r33, w ∈ lw_tbl := mem_places [731, 78, 732, 733, 734, 735, 736, 737, 738, 739, 1045, 1046, 1047, 1048, 1049, 1050, 1051, 740, 741, 742, 743, 744, 745, 746] (by decide +kernel)
set_option maxRecDepth 20000 in
theorem lin_wsL_law_r34 : ∀ w ∈ wsL_law_r34, w ∈ lw_tbl := mem_places [747, 748, 750, 33, 751, 752, 753, 754, 1052, 1053, 1054, 1055, 1056, 1057, 1058, 755, 756, 757, 758, 759, 760, 761, 762, 763] (by decide +kernel)
set_option maxRecDepth 20000 in
theorem lin_wsL_law_r35 : ∀ w ∈ wsL_law_r35, w ∈ lw_tbl := mem_places [1059, 1060, 1061, 1062, 764, 765, 766, 767, 768, 769, 770, 771, 1063, 1064, 1065, 1066, 772, 773, 774, 775, 776, 777, 778, 779] (by decide +kernel)
set_option maxRecDepth 20000 in
theorem lin_wsL_law_r36 : ∀ w ∈ wsL_law_r36, w ∈ lw_tbl := mem_places [1067, 1068, 1069, 1070, 811, 780, 781, 782, 783, 1071, 1072, 1073, 1074, 1075, 1077, 62, 1078, 784, 785, 786, 787, 788, 789, 790] (by decide +kernel)
set_option maxRecDepth 20000 in
theorem lin_wsL_law_r37 : ∀ w ∈ wsL_law_r37, w ∈ lw_tbl := mem_places [1079, 1080, 1081, 1082, 1083, 1084] (by decide +kernel)
set_option maxRecDepth 20000 in
theorem lin_wsX60 : ∀ w ∈ wsX60, w ∈ lw_tbl := mem_places [248, 250, 252, 254, 256, 258, 260, 262, 264] (by decide +kernel)
set_option maxRecDepth 20000 in
theorem lin_wsX70 : ∀ w ∈ wsX70, w ∈ lw_tbl := mem_places [813, 815, 817, 819, 821, 823, 825, 827, 829, 831, 833, 835, 837, 839, 841, 843] (by decide +kernel)
set_option maxRecDepth 20000 in
theorem lin_wsX30 : ∀ w ∈ wsX30, w ∈ lw_tbl := mem_places [114, 116, 118, 120] (by decide +kernel)
set_option maxRecDepth 20000 in
theorem lin_wsX00 : ∀ w ∈ wsX00, w ∈ lw_tbl := mem_places [160, 162, 164, 166, 168, 170, 172, 174, 176, 178, 180] (by decide +kernel)
set_option maxRecDepth 20000 in
theorem lin_wsX10 : ∀ w ∈ wsX10, w ∈ lw_tbl := mem_places [191] (by decide +kernel)
set_option maxRecDepth 20000 in
theorem lin_wsX40 : ∀ w ∈ wsX40, w ∈ lw_tbl := mem_places [226, 228, 230, 232, 234, 236] (by decide +kernel)
set_option maxRecDepth 20000 in
theorem lin_wsX50 : ∀ w ∈ wsX50, w ∈ lw_tbl := mem_places [103, 105] (by decide +kernel)
set_option maxRecDepth 20000 in
theorem lin_wsX20 : ∀ w ∈ wsX20, w ∈ lw_tbl := mem_places [213, 215, 217] (by decide +kernel)
theorem wsL_law_in : ∀ w ∈ wsL_law, w ∈ lw_tbl := (List.forall_mem_append.mpr ⟨(List.forall_mem_append.mpr ⟨(List.forall_mem_append.mpr ⟨(List.forall_mem_append.mpr ⟨(List.forall_mem_append.mpr ⟨(List.forall_mem_append.mpr ⟨(List.forall_mem_append.mpr ⟨(List.forall_mem_append.mpr ⟨(List.forall_mem_append.mpr ⟨(List.forall_mem_append.mpr ⟨lin_wsL_law_r1, (List.forall_mem_append.mpr ⟨lin_wsL_law_r2, (List.forall_mem_append.mpr ⟨lin_wsL_law_r3, (List.forall_mem_append.mpr ⟨lin_wsL_law_r4, (List.forall_mem_append.mpr ⟨lin_wsL_law_r5, (List.forall_mem_append.mpr ⟨lin_wsL_law_r6, (List.forall_mem_append.mpr ⟨lin_wsL_law_r7, (List.forall_mem_append.mpr ⟨lin_wsL_law_r8, (List.forall_mem_append.mpr ⟨lin_wsL_law_r9, (List.forall_mem_append.mpr ⟨lin_wsL_law_r10, (List.forall_mem_append.mpr ⟨lin_wsL_law_r11, (List.forall_mem_append.mpr ⟨lin_wsL_law_r12, (List.forall_mem_append.mpr ⟨lin_wsL_law_r13, (List.forall_mem_append.mpr ⟨lin_wsL_law_r14, (List.forall_mem_append.mpr ⟨lin_wsL_law_r15, (List.forall_mem_append.mpr ⟨lin_wsL_law_r16, (List.forall_mem_append.mpr ⟨lin_wsL_law_r17, (List.forall_mem_append.mpr ⟨lin_wsL_law_r18, (List.forall_mem_append.mpr ⟨lin_wsL_law_r19, (List.forall_mem_append.mpr ⟨lin_wsL_law_r20, (List.forall_mem_append.mpr ⟨lin_wsL_law_r21, (List.forall_mem_append.mpr ⟨lin_wsL_law_r22, (List.forall_mem_append.mpr ⟨lin_wsL_law_r23, (List.forall_mem_append.mpr ⟨lin_wsL_law_r24, (List.forall_mem_append.mpr ⟨lin_wsL_law_r25, (List.forall_mem_append.mpr ⟨lin_wsL_law_r26, (List.forall_mem_append.mpr ⟨lin_wsL_law_r27, (List.forall_mem_append.mpr ⟨lin_wsL_law_r28, (List.forall_mem_append.mpr ⟨lin_wsL_law_r29, (List.forall_mem_append.mpr ⟨lin_wsL_law_r30, (List.forall_mem_append.mpr ⟨lin_wsL_law_r31, (List.forall_mem_append.mpr ⟨lin_wsL_law_r32, (List.forall_mem_append.mpr ⟨lin_wsL_law_r33, (List.forall_mem_append.mpr ⟨lin_wsL_law_r34, (List.forall_mem_append.mpr ⟨lin_wsL_law_r35, (List.forall_mem_append.mpr ⟨lin_wsL_law_r36, lin_wsL_law_r37⟩)⟩)⟩)⟩)⟩)⟩)⟩)⟩)⟩)⟩)⟩)⟩)⟩)⟩)⟩)⟩)⟩)⟩)⟩)⟩)⟩)⟩)⟩)⟩)⟩)⟩)⟩)⟩)⟩)⟩)⟩)⟩)⟩)⟩)⟩)⟩), lin_wsX60⟩), lin_wsX70⟩), lin_wsX30⟩), lin_wsX00⟩), lin_wsX10⟩), lin_wsX40⟩), lin_wsX50⟩), lin_wsX20⟩), (fun _ h => absurd h List.not_mem_nil)⟩)
theorem inlX0 : ∀ w ∈ wsX00, w ∈ wsL_law := fun _ h => List.mem_append_left _ (List.mem_append_left _ (List.mem_append_left _ (List.mem_append_left _ (List.mem_append_left _ (List.mem_append_right _ h)))))
theorem inX0 : ∀ w ∈ wsX00, w ∈ lw_tbl := fun w h => wsL_law_in w (inlX0 w h)
theorem inlX1 : ∀ w ∈ wsX10, w ∈ wsL_law := fun _ h => List.mem_append_left _ (List.mem_append_left _ (List.mem_append_left _ (List.mem_append_left _ (List.mem_append_right _ h))))
theorem inX1 : ∀ w ∈ wsX10, w ∈ lw_tbl := fun w h => wsL_law_in w (inlX1 w h)
theorem inlX2 : ∀ w ∈ wsX20, w ∈ wsL_law := fun _ h => List.mem_append_left _ (List.mem_append_right _ h)
theorem inX2 : ∀ w ∈ wsX20, w ∈ lw_tbl := fun w h => wsL_law_in w (inlX2 w h)
theorem inlX3 : ∀ w ∈ wsX30, w ∈ wsL_law := fun _ h => List.mem_append_left _ (List.mem_append_left _ (List.mem_append_left _ (List.mem_append_left _ (List.mem_append_left _ (List.mem_append_left _ (List.mem_append_right _ h))))))
theorem inX3 : ∀ w ∈ wsX30, w ∈ lw_tbl := fun w h => wsL_law_in w (inlX3 w h)
theorem inlX4 : ∀ w ∈ wsX40, w ∈ wsL_law := fun _ h => List.mem_append_left _ (List.mem_append_left _ (List.mem_append_left _ (List.mem_append_right _ h)))
theorem inX4 : ∀ w ∈ wsX40, w ∈ lw_tbl := fun w h => wsL_law_in w (inlX4 w h)
theorem inlX5 : ∀ w ∈ wsX50, w ∈ wsL_law := fun _ h => List.mem_append_left _ (List.mem_append_left _ (List.mem_append_right _ h))
theorem inX5 : ∀ w ∈ wsX50, w ∈ lw_tbl := fun w h => wsL_law_in w (inlX5 w h)
theorem inlX6 : ∀ w ∈ wsX60, w ∈ wsL_law := fun _ h => List.mem_append_left _ (List.mem_append_left _ (List.mem_append_left _ (List.mem_append_left _ (List.mem_append_left _ (List.mem_append_left _ (List.mem_append_left _ (List.mem_append_left _ (List.mem_append_right _ h))))))))
theorem inX6 : ∀ w ∈ wsX60, w ∈ lw_tbl := fun w h => wsL_law_in w (inlX6 w h)
theorem inlX7 : ∀ w ∈ wsX70, w ∈ wsL_law := fun _ h => List.mem_append_left _ (List.mem_append_left _ (List.mem_append_left _ (List.mem_append_left _ (List.mem_append_left _ (List.mem_append_left _ (List.mem_append_left _ (List.mem_append_right _ h)))))))
theorem inX7 : ∀ w ∈ wsX70, w ∈ lw_tbl := fun w h => wsL_law_in w (inlX7 w h)
theorem inJ6 : ∀ w ∈ wsJ60, w ∈ lw_tbl := by decide +kernel
theorem inJ9 : ∀ w ∈ wsJ90, w ∈ lw_tbl := by decide +kernel
theorem inJ0 : ∀ w ∈ wsJ00, w ∈ lw_tbl := by decide +kernel
theorem inJ1 : ∀ w ∈ wsJ10, w ∈ lw_tbl := by decide +kernel
theorem inJ2 : ∀ w ∈ wsJ20, w ∈ lw_tbl := by decide +kernel
theorem inJ10 : ∀ w ∈ wsJ100, w ∈ lw_tbl := by decide +kernel
theorem inJ3 : ∀ w ∈ wsJ30, w ∈ lw_tbl := by decide +kernel
end
section
abbrev vwCl : List vw_C := [(RX0, TX0, 11), (RX1, TX1, 1), (RX2, TX2, 3), (RX3, TX3, 4), (RX4, TX4, 6), (RX5, TX5, 2), (RX6, TX6, 9), (RX7, TX7, 16)]
/-! ===== the base: one parameter G for classes, array classes, statics, strings; one precondition; calls ===== -/
abbrev GT : Type := va_G × (Nat → Nat) × (Nat → Nat) × (Nat → Nat) × (Nat → Nat)
abbrev tyG (G : GT) : List (ClassId × FieldType) := [(G.2.1 0, .byte), (G.2.1 1, .char), (G.2.1 2, .int), (G.2.1 3, .long)]
def nestL : List (String × Nat × MethodName × String) := [(RX6, 11, yX3_init, "GateSums"), (RX3, 11, yX5_init, "GateSums"), (RX6, 18, yX0_init, "GateSums"), (RX6, 28, yX1_init, "GateSums"), (RX6, 38, yX4_init, "GateSums"), (RX4, 23, yX2_init, "GateSums"), (RX0, 38, yX6_put, "GateSums"), (RX0, 83, yX6_at, "GateSums"), (RX4, 76, yX6_setOf, "GateSums"), (RX2, 26, yX6_at, "GateSums"), (RX2, 38, yX6_put, "GateSums"), (RX4, 64, yX6_at, "GateSums"), (RX4, 59, yX6_put, "GateSums")]
def NW (U : State) : Prop := ∀ (k : Nat) (q : String × Nat × MethodName × String), nestL[k]? = some q → va_Nw (.methodLinkNest q.1 q.2.1 q.2.2.1 q.2.2.2) U
theorem NW.warm {s U : State} (hW : s.WarmedH U.vm) (h : NW s) : NW U := fun k q hq => va_Nw.warmM hW (h k q hq)
theorem NW.same {u U : State} (hv : u.vm = U.vm) (h : NW u) : NW U := fun k q hq => va_Nw.same rfl hv (h k q hq)
def stL : List (String × String × String × FieldType × List Value) := [
  ("GateSums$Columns", "INPUT_COLUMNS", "[J", .long, [.long (-6148914691236517206), .long (-3689348814741910324), .long (-1085102592571150096), .long (-71777214294589696), .long (-281470681808896), .long (-4294967296)]),
  ("GateSums$Stages", "TASK_OF_A", "[I", .int, [.int 1, .int 0, .int 0, .int 3]),
  ("GateSums$Stages", "TASK_OF_B", "[I", .int, [.int 1, .int 0, .int 1, .int (-1)]),
  ("GateSums$Stages", "OF_ONE", "[I", .int, [.int 1, .int 0, .int 0, .int 0, .int 1, .int 1, .int 1, .int 0]),
  ("GateSums$Stages", "OF_X", "[I", .int, [.int (-1), .int 0, .int 1, .int 1, .int 0, .int (-1), .int (-1), .int 1]),
  ("GateSums$Stages", "OF_Y", "[I", .int, [.int 0, .int 0, .int 1, .int 1, .int 0, .int (-1), .int (-1), .int 0]),
  ("GateSums$Stages", "OF_BOTH", "[I", .int, [.int 0, .int 1, .int (-1), .int (-2), .int (-1), .int 1, .int 2, .int (-1)])]
def strL : List (Nat × String × List Int32) := [(44, "in", [105, 110]), (64, "g", [103]), (107, "not", [110, 111, 116]), (109, "and", [97, 110, 100]), (111, "or", [111, 114]), (113, "xor", [120, 111, 114]), (115, "nand", [110, 97, 110, 100]), (117, "nor", [110, 111, 114]), (119, "xnor", [120, 110, 111, 114]), (121, "but", [98, 117, 116]), (80, "out", [111, 117, 116]), (85, "task", [116, 97, 115, 107]), (123, "sum", [115, 117, 109]), (125, "product", [112, 114, 111, 100, 117, 99, 116]), (127, "square", [115, 113, 117, 97, 114, 101]), (129, "triple", [116, 114, 105, 112, 108, 101])]
def EVs (G : GT) (A : Nat → Prop) (U : State) (H : Heap) : Prop := ∀ (k : Nat) (q : String × String × String × FieldType × List Value), stL[k]? = some q → va_Z q.1 q.2.1 q.2.2.1 (.ref (G.2.2.1 k)) A U H ∧ va_T q.2.2.2.1 (G.2.2.1 k) q.2.2.2.2.length (fun j => q.2.2.2.2.getD j .null) A U H
def EVt (G : GT) (U : State) : Prop := ∀ (k : Nat) (q : Nat × String × List Int32), strL[k]? = some q → vk_R RX3 q.1 q.2.1 (G.2.2.2.1 k) U
def EV (G : GT) (A : Nat → Prop) (U : State) (H : Heap) : Prop := EVs G A U H ∧ vk_S 16 (strL.map fun q => q.2.2.length) (strL.map fun q => q.2.2) G.2.2.2.1 G.2.2.2.2 A U H ∧ EVt G U ∧ va_Z "java/lang/String" "COMPACT_STRINGS" "Z" (.int 1) A U H
theorem EV.to {G : GT} {A B : Nat → Prop} {s U : State} {H : Heap} {locs : List Loc} (h : EV G A s s.heap) (hS : va_S A s.heap H locs) (hAB : ∀ q, B q → A q) (hW : s.WarmedH U.vm) : EV G B U H := by
  refine ⟨fun k q hq => ⟨?_, ?_⟩, ?_, fun k q hq => vk_R.warm hW (h.2.2.1 k q hq), ?_⟩
  · exact va_Z.moved hW.alike (((h.1 k q hq).1.kept hS.2.1).narrow hAB)
  · exact va_T.moved hW.alike (((h.1 k q hq).2.kept hS.2.1).narrow hAB)
  · exact vk_S.moved hW.alike ((h.2.1.kept hS.2.1).narrow hAB)
  · exact va_Z.moved hW.alike ((h.2.2.2.kept hS.2.1).narrow hAB)
theorem EV.same {G : GT} {A : Nat → Prop} {u U : State} {H : Heap} (hv : u.vm = U.vm) (h : EV G A u H) : EV G A U H := by
  have ha : u.vm.Alike U.vm := by rw [hv]; exact Vm.Alike.refl _
  exact ⟨fun k q hq => ⟨va_Z.moved ha (h.1 k q hq).1, va_T.moved ha (h.1 k q hq).2⟩, vk_S.moved ha h.2.1, fun k q hq => vk_R.same hv.symm (h.2.2.1 k q hq), va_Z.moved ha h.2.2.2⟩
def wPre (G : GT) (ws : va_W) (sz : Nat) (U : State) : Prop := U.heap.size = sz ∧ va_P G.1 vwCl ws U.heap ∧ va_K G.1 vwCl (tyG G) U ∧ va_D (fun _ => True) ws ∧ NW U ∧ EV G (va_A ws sz) U U.heap
theorem wPre_blind {G : GT} {ws : va_W} {sz : Nat} {av : List Value} : FrameBlind (va_Pc av (wPre G ws sz)) := fun a U g mk q => by
  obtain ⟨q0, q1, q2, q3, q4, q5, q6⟩ := q
  exact ⟨q0, q1, q2, va_K.moved (u := U) (U := U.calling g mk a) (Vm.Alike.refl U.vm) q3, q4, NW.same (u := U) (U := U.calling g mk a) rfl q5, EV.same (u := U) (U := U.calling g mk a) rfl q6⟩
def Cx (G : GT) (A : Nat → Prop) (s : State) : Prop := va_K G.1 vwCl (tyG G) s ∧ NW s ∧ EV G A s s.heap ∧ ∀ q, s.heap.size ≤ q → A q
def Wd (G : GT) (A : Nat → Prop) (s : State) (ws : va_W) (H : Heap) (locs : List Loc) : Prop := va_P G.1 vwCl ws H ∧ va_D A ws ∧ va_S A s.heap H locs
theorem fm_of_map {ws wc : va_W} : ∀ (is : List Nat), is.map (fun i => ws[i]?) = wc.map some → is.filterMap (fun i => ws[i]?) = wc := by
  intro is h
  have e : is.filterMap (fun i => ws[i]?) = (is.map (fun i => ws[i]?)).filterMap id := by rw [List.filterMap_map]; rfl
  rw [e, h, List.filterMap_map]
  simp
theorem Wd.sub {G : GT} {A : Nat → Prop} {s : State} {ws ws' : va_W} {H : Heap} {locs : List Loc} (w : Wd G A s ws H locs) (is : List Nat) (hn : va_nd is = true) (hs : is.map (fun i => ws[i]?) = ws'.map some) : Wd G A s ws' H locs :=
  ⟨w.1.sub is (fm_of_map is hs), w.2.1.sub is hn hs, w.2.2⟩
theorem wPre_at {G : GT} {A : Nat → Prop} {s : State} {ws wc : va_W} {H : Heap} {locs : List Loc} {As : List Value} (C : Cx G A s) (w : Wd G A s ws H locs) (isC : List Nat) (hC : isC.map (fun i => ws[i]?) = wc.map some) (hnd : va_nd isC = true) : ∀ U : State, U.heap = H → s.WarmedH U.vm → va_Pc As (wPre G wc H.size) As.toArray U := by
  intro U hU hW
  have hf := va_free (wc := wc) w.2.1 w.2.2 C.2.2.2 isC hC
  refine ⟨rfl, by rw [hU], by rw [hU]; exact w.1.sub isC (fm_of_map isC hC), va_K.moved hW.alike C.1, (w.2.1.sub isC hnd hC).weaken (fun _ _ _ _ => trivial), NW.warm hW C.2.1, ?_⟩
  rw [hU]
  exact EV.to C.2.2.1 w.2.2 hf hW
/-- a method's body out of its entry -/
theorem met_go {l : Launch} {y : MethodName} {ws ws' : List Cond} {rm : Room} {Qc : Array Value → State → Outcome → State → Prop} {mc ms : Nat} {free : Addr → Prop} {cc : ByteArray} {maxL : Nat} {ret : Option FieldType} {G : GT} {wc : va_W} {sz : Nat} {av : List Value} {own : String}
    (hy : plainName y.cls = true) (hw : ws = Cond.code y cc maxL ret :: ws') (ho : y.cls = own) (hlen : (lg_sl av).length ≤ maxL)
    (body : ∀ (p : Program) (e : Env) (s : State) (m : MethodId) (below : List Frame) (meth : Method) (c : Code) (ls : Array Slot), CallFix p m c cc maxL s av.toArray ws own → meth.sig.returnType = ret → meth.locks = false → meth.name = y.name → s.heap.size = sz → Cx G (va_A wc sz) s → Wd G (va_A wc sz) s wc s.heap [] → lv_has ls maxL (lv_args 0 av) →
      W p l e (headSpec ws rm).room s m av.toArray below meth c s.heap [] 0 0 (MQ below Qc av.toArray s mc ms free) (F0 m 0 ls [])) : Met l y ws rm (va_Pc av (wPre G wc sz)) Qc mc ms free := by
  refine Met.ofW (cc := cc) (maxL := maxL) (ret := ret) hy hw ?_
  intro p e s m args below meth c s₁ B hml hv
  obtain ⟨rfl, hsz, hP, hK, hD0, hN, hE⟩ := hv
  have hts := atoms_spec (ws := ws) B.pre
  have hown : s.vm.findClass own = some m.cls := by rw [← ho]; exact findClass_of_methodNamed B.named
  have hnm : meth.name = y.name := (name_of_methodNamed B.named B.method).1
  have hl := lv_entry av (n := maxL) hlen
  rw [lg_entry_eq]
  have hb := body p e s m below meth c _ ⟨B.exec, B.bytes, hml, hown, hts⟩ B.returns B.notSynchronized hnm hsz ⟨hK, hN, hE, fun q h => Or.inr (by rw [← hsz]; exact h)⟩ ⟨hP, hD0.self, va_S.rf⟩ hl
  exact hb
section BaseCalls
variable {p : Program} {l : Launch} {e : Env} {R : Room} {s : State} {m : MethodId} {args : Array Value} {below : List Frame} {meth : Method} {c : Code} {H : Heap} {locs : List Loc} {cells slots : Nat} {Q : State → Prop}
variable {G : GT} {A : Nat → Prop} {ws : va_W} {cc : ByteArray} {nL pc : Nat} {ls : Array Slot} {rest : List Value} {Ts : List Cond} {own : String}
/-- a field is read -/
theorem w_get (S : CallFix p m c cc nL s args Ts own) (C : Cx G A s) (w : Wd G A s ws H locs) {ref CC : String} {T : u_T} {N ci index a : Nat} (hin : ∀ w ∈ u_ws CC T N, w ∈ Ts) (q0 : Nat) {fs : List Value} (he : ws[q0]? = some (a, .inr (ci, fs))) (hc : vwCl[ci]? = some (CC, T, N)) (k : Nat) (hk : k < N) (hlink : Cond.fieldLink own index ref (T k).2.1 (T k).2.2.1 ∈ Ts) (hsame : ∀ x, s.fieldFound? (T k).1 (T k).2.1 (T k).2.2.1 = some x → s.fieldFound? ref (T k).2.1 (T k).2.2.1 = some x) {v : Value} (hv : fs[k]? = some v) (hdg : decode cc pc = .ok (.getfield index, 3))
    (kk : W p l e R s m args below meth c H locs cells slots Q (F0 m (pc + 3) ls (v :: rest))) : W p l e R s m args below meth c H locs cells slots Q (F0 m pc ls (.ref a :: rest)) :=
  va_get S.1 S.2.1 S.2.2.2.2 hin S.2.2.2.1 C.1 w.1 q0 he hc k hk (S.2.2.2.2 _ hlink) hsame hv hdg kk
/-- a field is written -/
theorem w_put (S : CallFix p m c cc nL s args Ts own) (C : Cx G A s) (w : Wd G A s ws H locs) {ref CC : String} {T : u_T} {N ci index a : Nat} (hin : ∀ w ∈ u_ws CC T N, w ∈ Ts) (ty0 : Nat → FieldType) (hty : ∀ k, k < N → parseFieldDescriptor (T k).2.2.1 = some (ty0 k)) (hnm : ∀ a, a < N → ∀ b, b < N → a ≠ b → (T a).2.1 ≠ (T b).2.1) (q0 : Nat) {fs : List Value} (he : ws[q0]? = some (a, .inr (ci, fs))) (hc : vwCl[ci]? = some (CC, T, N)) (k : Nat) (hk : k < N) (hlink : Cond.fieldLink own index ref (T k).2.1 (T k).2.2.1 ∈ Ts) (hsame : ∀ x, s.fieldFound? (T k).1 (T k).2.1 (T k).2.2.1 = some x → s.fieldFound? ref (T k).2.1 (T k).2.2.1 = some x) (hfin : (T k).2.2.2 = false) {v : Value} {ws2 : va_W} (hn : narrow (ty0 k) v = v) (hfit : fits (ty0 k) v = true) (hl : k < fs.length) (hs2 : ws.set q0 (a, .inr (ci, fs.set k v)) = ws2) (hdg : decode cc pc = .ok (.putfield index, 3))
    (kk : ∀ (H1 : Heap) (locs1 : List Loc), Wd G A s ws2 H1 locs1 → W p l e R s m args below meth c H1 locs1 cells slots Q (F0 m (pc + 3) ls rest)) : W p l e R s m args below meth c H locs cells slots Q (F0 m pc ls (v :: .ref a :: rest)) :=
  va_put S.1 S.2.1 S.2.2.2.2 hin ty0 hty hnm S.2.2.2.1 C.1 w.1 w.2.1 w.2.2 q0 he hc k hk (S.2.2.2.2 _ hlink) hsame hfin (hty k hk) hn hfit hl hdg (fun H1 locs1 hP hD hS => by subst hs2; exact kk H1 locs1 ⟨hP, hD, hS⟩)
/-- a final field is written, in a constructor -/
theorem w_putF (S : CallFix p m c cc nL s args Ts own) (C : Cx G A s) (w : Wd G A s ws H locs) {ref CC : String} {T : u_T} {N ci index a : Nat} (hin : ∀ w ∈ u_ws CC T N, w ∈ Ts) (ty0 : Nat → FieldType) (hty : ∀ k, k < N → parseFieldDescriptor (T k).2.2.1 = some (ty0 k)) (hnm : ∀ a, a < N → ∀ b, b < N → a ≠ b → (T a).2.1 ≠ (T b).2.1) (q0 : Nat) {fs : List Value} (he : ws[q0]? = some (a, .inr (ci, fs))) (hc : vwCl[ci]? = some (CC, T, N)) (k : Nat) (hk : k < N) (hlink : Cond.fieldLink own index ref (T k).2.1 (T k).2.2.1 ∈ Ts) (hsame : ∀ x, s.fieldFound? (T k).1 (T k).2.1 (T k).2.2.1 = some x → s.fieldFound? ref (T k).2.1 (T k).2.2.1 = some x) (hfin : (T k).2.2.2 = true) (hin2 : meth.name = "<init>") (hdecl : (T k).1 = own) {v : Value} {ws2 : va_W} (hn : narrow (ty0 k) v = v) (hfit : fits (ty0 k) v = true) (hl : k < fs.length) (hs2 : ws.set q0 (a, .inr (ci, fs.set k v)) = ws2) (hdg : decode cc pc = .ok (.putfield index, 3))
    (kk : ∀ (H1 : Heap) (locs1 : List Loc), Wd G A s ws2 H1 locs1 → W p l e R s m args below meth c H1 locs1 cells slots Q (F0 m (pc + 3) ls rest)) : W p l e R s m args below meth c H locs cells slots Q (F0 m pc ls (v :: .ref a :: rest)) :=
  va_putF S.1 S.2.1 S.2.2.2.2 hin ty0 hty hnm S.2.2.2.1 C.1 w.1 w.2.1 w.2.2 q0 he hc k hk (S.2.2.2.2 _ hlink) hsame hfin hin2 hdecl (hty k hk) hn hfit hl hdg (fun H1 locs1 hP hD hS => by subst hs2; exact kk H1 locs1 ⟨hP, hD, hS⟩)
theorem w_iald (S : CallFix p m c cc nL s args Ts own) (C : Cx G A s) (w : Wd G A s ws H locs) (q0 : Nat) {a n : Nat} {f : Nat → Int32} (ha : ws[q0]? = some (a, .inl (G.2.1 2, n, .inl f))) {i : Int32} (hin : vp_in i n) (hdg : decode cc pc = .ok (.iaload, 1)) (kk : W p l e R s m args below meth c H locs cells slots Q (F0 m (pc + 1) ls (.int (f i.toNatClampNeg) :: rest))) : W p l e R s m args below meth c H locs cells slots Q (F0 m pc ls (.int i :: .ref a :: rest)) :=
  va_iald S.1 S.2.1 C.1 w.1 q0 2 ha rfl hin hdg kk
theorem w_bald (S : CallFix p m c cc nL s args Ts own) (C : Cx G A s) (w : Wd G A s ws H locs) (q0 : Nat) {a n : Nat} {f : Nat → Int32} (ha : ws[q0]? = some (a, .inl (G.2.1 0, n, .inl f))) {i : Int32} (hin : vp_in i n) (hdg : decode cc pc = .ok (.baload, 1)) (kk : W p l e R s m args below meth c H locs cells slots Q (F0 m (pc + 1) ls (.int (f i.toNatClampNeg) :: rest))) : W p l e R s m args below meth c H locs cells slots Q (F0 m pc ls (.int i :: .ref a :: rest)) :=
  va_bald S.1 S.2.1 C.1 w.1 q0 0 ha rfl hin hdg kk
theorem w_cald (S : CallFix p m c cc nL s args Ts own) (C : Cx G A s) (w : Wd G A s ws H locs) (q0 : Nat) {a n : Nat} {f : Nat → Int32} (ha : ws[q0]? = some (a, .inl (G.2.1 1, n, .inl f))) {i : Int32} (hin : vp_in i n) (hdg : decode cc pc = .ok (.caload, 1)) (kk : W p l e R s m args below meth c H locs cells slots Q (F0 m (pc + 1) ls (.int (f i.toNatClampNeg) :: rest))) : W p l e R s m args below meth c H locs cells slots Q (F0 m pc ls (.int i :: .ref a :: rest)) :=
  va_cald S.1 S.2.1 C.1 w.1 q0 1 ha rfl hin hdg kk
theorem w_lald (S : CallFix p m c cc nL s args Ts own) (C : Cx G A s) (w : Wd G A s ws H locs) (q0 : Nat) {a n : Nat} {f : Nat → Int64} (ha : ws[q0]? = some (a, .inl (G.2.1 3, n, .inr (.inl f)))) {i : Int32} (hin : vp_in i n) (hdg : decode cc pc = .ok (.laload, 1)) (kk : W p l e R s m args below meth c H locs cells slots Q (F0 m (pc + 1) ls (.long (f i.toNatClampNeg) :: rest))) : W p l e R s m args below meth c H locs cells slots Q (F0 m pc ls (.int i :: .ref a :: rest)) :=
  va_lald S.1 S.2.1 C.1 w.1 q0 3 ha rfl hin hdg kk
theorem w_iast (S : CallFix p m c cc nL s args Ts own) (C : Cx G A s) (w : Wd G A s ws H locs) (q0 : Nat) {a n : Nat} {f : Nat → Int32} (ha : ws[q0]? = some (a, .inl (G.2.1 2, n, .inl f))) {i x : Int32} {ws2 : va_W} (hin : vp_in i n) (hs2 : ws.set q0 (a, .inl (G.2.1 2, n, .inl (upd f i.toNatClampNeg x))) = ws2) (hdg : decode cc pc = .ok (.iastore, 1)) (kk : ∀ (H1 : Heap) (locs1 : List Loc), Wd G A s ws2 H1 locs1 → W p l e R s m args below meth c H1 locs1 cells slots Q (F0 m (pc + 1) ls rest)) : W p l e R s m args below meth c H locs cells slots Q (F0 m pc ls (.int x :: .int i :: .ref a :: rest)) :=
  va_iast S.1 S.2.1 C.1 w.1 w.2.1 w.2.2 q0 2 ha rfl hin hdg (fun H1 locs1 hP hD hS => by subst hs2; exact kk H1 locs1 ⟨hP, hD, hS⟩)
theorem w_bast (S : CallFix p m c cc nL s args Ts own) (C : Cx G A s) (w : Wd G A s ws H locs) (q0 : Nat) {a n : Nat} {f : Nat → Int32} (ha : ws[q0]? = some (a, .inl (G.2.1 0, n, .inl f))) {i x : Int32} {ws2 : va_W} (hin : vp_in i n) (hs2 : ws.set q0 (a, .inl (G.2.1 0, n, .inl (upd f i.toNatClampNeg (vp_nar .byte x)))) = ws2) (hdg : decode cc pc = .ok (.bastore, 1)) (kk : ∀ (H1 : Heap) (locs1 : List Loc), Wd G A s ws2 H1 locs1 → W p l e R s m args below meth c H1 locs1 cells slots Q (F0 m (pc + 1) ls rest)) : W p l e R s m args below meth c H locs cells slots Q (F0 m pc ls (.int x :: .int i :: .ref a :: rest)) :=
  va_bast S.1 S.2.1 C.1 w.1 w.2.1 w.2.2 q0 0 ha rfl hin hdg (fun H1 locs1 hP hD hS => by subst hs2; exact kk H1 locs1 ⟨hP, hD, hS⟩)
theorem w_cast (S : CallFix p m c cc nL s args Ts own) (C : Cx G A s) (w : Wd G A s ws H locs) (q0 : Nat) {a n : Nat} {f : Nat → Int32} (ha : ws[q0]? = some (a, .inl (G.2.1 1, n, .inl f))) {i x : Int32} {ws2 : va_W} (hin : vp_in i n) (hs2 : ws.set q0 (a, .inl (G.2.1 1, n, .inl (upd f i.toNatClampNeg (vp_nar .char x)))) = ws2) (hdg : decode cc pc = .ok (.castore, 1)) (kk : ∀ (H1 : Heap) (locs1 : List Loc), Wd G A s ws2 H1 locs1 → W p l e R s m args below meth c H1 locs1 cells slots Q (F0 m (pc + 1) ls rest)) : W p l e R s m args below meth c H locs cells slots Q (F0 m pc ls (.int x :: .int i :: .ref a :: rest)) :=
  va_cast S.1 S.2.1 C.1 w.1 w.2.1 w.2.2 q0 1 ha rfl hin hdg (fun H1 locs1 hP hD hS => by subst hs2; exact kk H1 locs1 ⟨hP, hD, hS⟩)
theorem w_last (S : CallFix p m c cc nL s args Ts own) (C : Cx G A s) (w : Wd G A s ws H locs) (q0 : Nat) {a n : Nat} {f : Nat → Int64} (ha : ws[q0]? = some (a, .inl (G.2.1 3, n, .inr (.inl f)))) {i : Int32} {x : Int64} {ws2 : va_W} (hin : vp_in i n) (hs2 : ws.set q0 (a, .inl (G.2.1 3, n, .inr (.inl (vp_updL f i.toNatClampNeg x)))) = ws2) (hdg : decode cc pc = .ok (.lastore, 1)) (kk : ∀ (H1 : Heap) (locs1 : List Loc), Wd G A s ws2 H1 locs1 → W p l e R s m args below meth c H1 locs1 cells slots Q (F0 m (pc + 1) ls rest)) : W p l e R s m args below meth c H locs cells slots Q (F0 m pc ls (.long x :: .int i :: .ref a :: rest)) :=
  va_last S.1 S.2.1 C.1 w.1 w.2.1 w.2.2 q0 3 ha rfl hin hdg (fun H1 locs1 hP hD hS => by subst hs2; exact kk H1 locs1 ⟨hP, hD, hS⟩)
theorem w_alen (S : CallFix p m c cc nL s args Ts own) (C : Cx G A s) (w : Wd G A s ws H locs) (q0 t0 : Nat) {a : Nat} {cA : ClassId} {x : vp_A} (ha : ws[q0]? = some (a, .inl (cA, x))) {ty : FieldType} (ht : (tyG G)[t0]? = some (cA, ty)) {v : Int32} (hv : Int32.ofNat x.1 = v) (hdg : decode cc pc = .ok (.arraylength, 1)) (kk : W p l e R s m args below meth c H locs cells slots Q (F0 m (pc + 1) ls (.int v :: rest))) : W p l e R s m args below meth c H locs cells slots Q (F0 m pc ls (.ref a :: rest)) :=
  va_alen S.1 S.2.1 C.1 w.1 q0 t0 ha ht hv hdg kk
/-- a static table: its reference, its length, a place of it -/
theorem w_gets (S : CallFix p m c cc nL s args Ts own) (C : Cx G A s) (w : Wd G A s ws H locs) (k : Nat) {q : String × String × String × FieldType × List Value} (hk : stL[k]? = some q) {index : Nat} {ref : String} (hlink : Cond.fieldLink own index ref q.2.1 q.2.2.1 ∈ Ts) (hsame : ∀ x, s.fieldFound? q.1 q.2.1 q.2.2.1 = some x → s.fieldFound? ref q.2.1 q.2.2.1 = some x) (hdg : decode cc pc = .ok (.getstatic index, 3)) (kk : W p l e R s m args below meth c H locs cells slots Q (F0 m (pc + 3) ls (.ref (G.2.2.1 k) :: rest))) : W p l e R s m args below meth c H locs cells slots Q (F0 m pc ls rest) :=
  va_gets S.1 S.2.1 (C.2.2.1.1 k q hk).1 w.2.2 S.2.2.2.1 (S.2.2.2.2 _ hlink) hsame hdg kk
theorem w_tlen (S : CallFix p m c cc nL s args Ts own) (C : Cx G A s) (w : Wd G A s ws H locs) (k : Nat) {q : String × String × String × FieldType × List Value} (hk : stL[k]? = some q) {v : Int32} (hv : Int32.ofNat q.2.2.2.2.length = v) (hdg : decode cc pc = .ok (.arraylength, 1)) (kk : W p l e R s m args below meth c H locs cells slots Q (F0 m (pc + 1) ls (.int v :: rest))) : W p l e R s m args below meth c H locs cells slots Q (F0 m pc ls (.ref (G.2.2.1 k) :: rest)) :=
  va_tlen S.1 S.2.1 (C.2.2.1.1 k q hk).2 w.2.2 hv hdg kk
theorem w_tl (S : CallFix p m c cc nL s args Ts own) (C : Cx G A s) (w : Wd G A s ws H locs) (k : Nat) {C1 n1 d1 : String} {q : List Value} (hk : stL[k]? = some (C1, n1, d1, .long, q)) {i : Int32} (hin : vp_in i q.length) {v : Value} (hv : q.getD i.toNatClampNeg .null = v) (hdg : decode cc pc = .ok (.laload, 1)) (kk : W p l e R s m args below meth c H locs cells slots Q (F0 m (pc + 1) ls (v :: rest))) : W p l e R s m args below meth c H locs cells slots Q (F0 m pc ls (.int i :: .ref (G.2.2.1 k) :: rest)) :=
  va_tl S.1 S.2.1 (C.2.2.1.1 k _ hk).2 w.2.2 hin hv hdg kk
theorem w_ti (S : CallFix p m c cc nL s args Ts own) (C : Cx G A s) (w : Wd G A s ws H locs) (k : Nat) {C1 n1 d1 : String} {q : List Value} (hk : stL[k]? = some (C1, n1, d1, .int, q)) {i : Int32} (hin : vp_in i q.length) {v : Value} (hv : q.getD i.toNatClampNeg .null = v) (hdg : decode cc pc = .ok (.iaload, 1)) (kk : W p l e R s m args below meth c H locs cells slots Q (F0 m (pc + 1) ls (v :: rest))) : W p l e R s m args below meth c H locs cells slots Q (F0 m pc ls (.int i :: .ref (G.2.2.1 k) :: rest)) :=
  va_ti S.1 S.2.1 (C.2.2.1.1 k _ hk).2 w.2.2 hin hv hdg kk
/-- a call that leaves the heap as it is: an int, a long, nothing -/
theorem cs_i {post : Int32 → Prop} {a : Array Value} {st0 : List Value} (hr : va_Run p l e R s m args below meth c H locs cells slots 0 0 (F0 m pc ls st0) rest (vp_Si post a) (fun _ => False)) (kk : ∀ r : Int32, post r → W p l e R s m args below meth c H locs cells slots Q (F0 m (pc + 3) ls (.int r :: rest))) : W p l e R s m args below meth c H locs cells slots Q (F0 m pc ls st0) := vp_callSi hr.run kk
theorem cs_l {post : Int64 → Prop} {a : Array Value} {st0 : List Value} (hr : va_Run p l e R s m args below meth c H locs cells slots 0 0 (F0 m pc ls st0) rest (vp_Sl post a) (fun _ => False)) (kk : ∀ r : Int64, post r → W p l e R s m args below meth c H locs cells slots Q (F0 m (pc + 3) ls (.long r :: rest))) : W p l e R s m args below meth c H locs cells slots Q (F0 m pc ls st0) := vp_callSl hr.run kk
/-- the world behind a contract -/
abbrev bW (G : GT) (A : Nat → Prop) {σ : Type} (w' : σ → va_W) : σ → State → Prop := fun u t => va_P G.1 vwCl (w' u) t.heap ∧ va_D A (w' u)
/-- a call that changes its cells: what it leaves stands beside the rest -/
theorem cq_j {σ : Type} {w' ws2 : σ → va_W} {wc wr : va_W} {t : State} {H1 : Heap} {locs1 : List Loc} {u : σ} (C : Cx G A s) (w : Wd G A s ws H locs) (isC isR perm : List Nat) (hC : isC.map (fun i => ws[i]?) = wc.map some) (hR : isR.map (fun i => ws[i]?) = wr.map some) (hn : va_nd isR = true) (hdis : ∀ i ∈ isR, i ∉ isC) (hpn : va_nd perm = true) (hp : ∀ u, perm.map (fun i => (wr ++ w' u)[i]?) = (ws2 u).map some) (ht : t.heap = H1) (hB : bW G (va_A wc H.size) w' u t) (hk : ∀ q : Nat, q < H.size → ¬ va_A wc H.size q → H1[q]? = H[q]?) (hS : va_S A s.heap H1 locs1) : Wd G A s (ws2 u) H1 locs1 := by
  obtain ⟨hP1, hD1⟩ := hB
  rw [ht] at hP1
  obtain ⟨hP, hD⟩ := va_join (wr := wr) w.1 w.2.1 isC isR hC hR hn hdis hk (va_free w.2.1 w.2.2 C.2.2.2 isC hC) hP1 hD1
  exact Wd.sub (⟨hP, hD, hS⟩ : Wd G A s (wr ++ w' u) H1 locs1) perm hpn (hp u)
theorem cq_i {σ : Type} {post : Int32 → σ → Prop} {w' ws2 : σ → va_W} {wc wr : va_W} {mc ms : Nat} {a : Array Value} {st0 : List Value} (C : Cx G A s) (w : Wd G A s ws H locs) (isC isR perm : List Nat) (hC : isC.map (fun i => ws[i]?) = wc.map some) (hR : isR.map (fun i => ws[i]?) = wr.map some) (hn : va_nd isR = true) (hdis : ∀ i ∈ isR, i ∉ isC) (hpn : va_nd perm = true) (hp : ∀ u, perm.map (fun i => (wr ++ w' u)[i]?) = (ws2 u).map some) (hr : va_Run p l e R s m args below meth c H locs cells slots mc ms (F0 m pc ls st0) rest (va_Qi post (bW G (va_A wc H.size) w') (va_A wc H.size) a) (va_A wc H.size))
    (kk : ∀ (r : Int32) (u : σ) (H1 : Heap) (locs1 : List Loc), post r u → Wd G A s (ws2 u) H1 locs1 → W p l e R s m args below meth c H1 locs1 (cells + mc) (slots + ms) Q (F0 m (pc + 3) ls (.int r :: rest))) : W p l e R s m args below meth c H locs cells slots Q (F0 m pc ls st0) := by
  have hf := va_free (wc := wc) w.2.1 w.2.2 C.2.2.2 isC hC
  exact va_calli hr w.2.2 (fun q _ h => hf q h) hf (fun r u t H1 locs1 ht _ hpst hB _ hk hS => kk r u H1 locs1 hpst (cq_j C w isC isR perm hC hR hn hdis hpn hp ht hB hk hS))
theorem cq_v {σ : Type} {post : σ → Prop} {w' ws2 : σ → va_W} {wc wr : va_W} {mc ms : Nat} {a : Array Value} {st0 : List Value} (C : Cx G A s) (w : Wd G A s ws H locs) (isC isR perm : List Nat) (hC : isC.map (fun i => ws[i]?) = wc.map some) (hR : isR.map (fun i => ws[i]?) = wr.map some) (hn : va_nd isR = true) (hdis : ∀ i ∈ isR, i ∉ isC) (hpn : va_nd perm = true) (hp : ∀ u, perm.map (fun i => (wr ++ w' u)[i]?) = (ws2 u).map some) (hr : va_Run p l e R s m args below meth c H locs cells slots mc ms (F0 m pc ls st0) rest (va_Qv post (bW G (va_A wc H.size) w') (va_A wc H.size) a) (va_A wc H.size))
    (kk : ∀ (u : σ) (H1 : Heap) (locs1 : List Loc), post u → Wd G A s (ws2 u) H1 locs1 → W p l e R s m args below meth c H1 locs1 (cells + mc) (slots + ms) Q (F0 m (pc + 3) ls rest)) : W p l e R s m args below meth c H locs cells slots Q (F0 m pc ls st0) := by
  have hf := va_free (wc := wc) w.2.1 w.2.2 C.2.2.2 isC hC
  exact va_callv hr w.2.2 (fun q _ h => hf q h) hf (fun u t H1 locs1 ht _ hpst hB _ hk hS => kk u H1 locs1 hpst (cq_j C w isC isR perm hC hR hn hdis hpn hp ht hB hk hS))
theorem cq_l {σ : Type} {post : Int64 → σ → Prop} {w' ws2 : σ → va_W} {wc wr : va_W} {mc ms : Nat} {a : Array Value} {st0 : List Value} (C : Cx G A s) (w : Wd G A s ws H locs) (isC isR perm : List Nat) (hC : isC.map (fun i => ws[i]?) = wc.map some) (hR : isR.map (fun i => ws[i]?) = wr.map some) (hn : va_nd isR = true) (hdis : ∀ i ∈ isR, i ∉ isC) (hpn : va_nd perm = true) (hp : ∀ u, perm.map (fun i => (wr ++ w' u)[i]?) = (ws2 u).map some) (hr : va_Run p l e R s m args below meth c H locs cells slots mc ms (F0 m pc ls st0) rest (va_Ql post (bW G (va_A wc H.size) w') (va_A wc H.size) a) (va_A wc H.size))
    (kk : ∀ (r : Int64) (u : σ) (H1 : Heap) (locs1 : List Loc), post r u → Wd G A s (ws2 u) H1 locs1 → W p l e R s m args below meth c H1 locs1 (cells + mc) (slots + ms) Q (F0 m (pc + 3) ls (.long r :: rest))) : W p l e R s m args below meth c H locs cells slots Q (F0 m pc ls st0) := by
  have hf := va_free (wc := wc) w.2.1 w.2.2 C.2.2.2 isC hC
  exact va_calll hr w.2.2 (fun q _ h => hf q h) hf (fun r u t H1 locs1 ht _ hpst hB _ hk hS => kk r u H1 locs1 hpst (cq_j C w isC isR perm hC hR hn hdis hpn hp ht hB hk hS))
/-- a new array of a known class of arrays -/
theorem w_newa (S : CallFix p m c cc nL s args Ts own) (C : Cx G A s) (w : Wd G A s ws H locs) {atype : ArrayType} (harr : Cond.arrayClass (newarray.typeOf atype) ∈ Ts) {ty : FieldType} (hty : newarray.typeOf atype = ty) (t0 : Nat) {cA0 : ClassId} (ht0 : (tyG G)[t0]? = some (cA0, ty)) {n : Int32} {N' : Nat} {a0 : vp_A} {ws2 : Nat → va_W} (ha : ∀ cA : ClassId, vp_cell cA a0 = arrV cA N' (fun _ => defaultValue ty)) (hn : ¬ n < 0) (hN : n.toNatClampNeg = N') (hbytes : N' * componentBytes ty ≤ 536870912) (hcells : cells + 1 ≤ R.cells) (hslots : slots + N' ≤ R.slots) (hs2 : ∀ q, ws ++ [(q, .inl (cA0, a0))] = ws2 q) (hdg : decode cc pc = .ok (.newarray atype, 2))
    (kk : ∀ (q : Nat) (H1 : Heap), Wd G A s (ws2 q) H1 locs → W p l e R s m args below meth c H1 locs (cells + 1) (slots + N') Q (F0 m (pc + 2) ls (.ref q :: rest))) : W p l e R s m args below meth c H locs cells slots Q (F0 m pc ls (.int n :: rest)) := by
  refine va_newa S.1 S.2.1 (S.2.2.2.2 _ harr) hty C.1 w.1 w.2.1 w.2.2 C.2.2.2 ha hn hN hbytes hcells hslots hdg (fun q cA H1 hK hP hD hS => ?_)
  have h1 := (hK.2 (tyG G).length (cA, ty) (by simp)).2
  have h2 := (C.1.2 t0 (cA0, ty) ht0).2
  have he : cA = cA0 := by
    cases atype <;> subst hty <;> exact Option.some.inj (h1.symm.trans h2)
  subst he
  exact kk q H1 (by rw [← hs2 q]; exact ⟨hP, hD, hS⟩)
theorem w_new (S : CallFix p m c cc nL s args Ts own) (C : Cx G A s) (w : Wd G A s ws H locs) {CC : String} {T : u_T} {N ci index : Nat} (hin : ∀ w ∈ u_ws CC T N, w ∈ Ts) (ty : Nat → FieldType) (hty : ∀ k, k < N → parseFieldDescriptor (T k).2.2.1 = some (ty k)) (hcl : Cond.classLink own index CC ∈ Ts) (hinst : Cond.instantiable CC N ∈ Ts) (hini : Cond.initialized CC ∈ Ts) (hc : vwCl[ci]? = some (CC, T, N)) {fs : List Value} {ws2 : Nat → va_W} (hfs : ∀ j, j < N → defaultValue (ty j) = vp_V fs j) (hcells : cells + 1 ≤ R.cells) (hslots : slots + N ≤ R.slots) (hs2 : ∀ q, ws ++ [(q, .inr (ci, fs))] = ws2 q) (hdg : decode cc pc = .ok (.new index, 3))
    (kk : ∀ (q : Nat) (H1 : Heap), Wd G A s (ws2 q) H1 locs → W p l e R s m args below meth c H1 locs (cells + 1) (slots + N) Q (F0 m (pc + 3) ls (.ref q :: rest))) : W p l e R s m args below meth c H locs cells slots Q (F0 m pc ls rest) :=
  va_new S.1 S.2.1 S.2.2.2.2 hin ty hty S.2.2.2.1 (S.2.2.2.2 _ hcl) (S.2.2.2.2 _ hinst) (S.2.2.2.2 _ hini) C.1 w.1 w.2.1 w.2.2 C.2.2.2 hc hfs hcells hslots hdg (fun q H1 hP hD hS => kk q H1 (by rw [← hs2 q]; exact ⟨hP, hD, hS⟩))
/-- Object's constructor -/
theorem w_objI (S : CallFix p m c cc nL s args Ts own) {idx a : Nat} (hlink : Cond.methodLink own idx objectInit ∈ Ts) (hinst : Cond.instanceMethod objectInit ∈ Ts) (hcode : Cond.code objectInit ⟨#[0xb1]⟩ 1 none ∈ Ts) (hsize : ls.size = nL) (hd : decode cc pc = .ok (.invokespecial idx, 3)) (hframes : 1 ≤ R.frames) (hlocals : 2 * (F0 m pc ls (.ref a :: rest)).monitorRoom + (rest.map fun v => v.category).sum + 12 ≤ R.locals) (kk : W p l e R s m args below meth c H locs cells slots Q (F0 m (pc + 3) ls rest)) : W p l e R s m args below meth c H locs cells slots Q (F0 m pc ls (.ref a :: rest)) := by
  refine W.objInit S.1 S.2.1 S.2.2.2.1 (S.2.2.2.2 _ hlink) (S.2.2.2.2 _ hinst) (S.2.2.2.2 _ hcode) rfl (by rw [S.2.2.1]; exact hsize) rfl hd hframes hlocals ?_
  exact kk
end BaseCalls
end
section
section Base2
variable {p : Program} {l : Launch} {e : Env} {R : Room} {s : State} {m : MethodId} {args : Array Value} {below : List Frame} {meth : Method} {c : Code} {H : Heap} {locs : List Loc} {cells slots : Nat} {Q : State → Prop}
variable {G : GT} {A : Nat → Prop} {ws : va_W} {cc : ByteArray} {nL pc pc2 : Nat} {ls : Array Slot} {rest rest2 : List Value}
theorem w_topi {x y : Int32} (h : x = y) (k : W p l e R s m args below meth c H locs cells slots Q (F0 m pc ls (.int y :: rest))) : W p l e R s m args below meth c H locs cells slots Q (F0 m pc ls (.int x :: rest)) := h ▸ k
theorem w_topl {x y : Int64} (h : x = y) (k : W p l e R s m args below meth c H locs cells slots Q (F0 m pc ls (.long y :: rest))) : W p l e R s m args below meth c H locs cells slots Q (F0 m pc ls (.long x :: rest)) := h ▸ k
/-- two ways that meet with a number on the stack -/
theorem w_joini (pc2 : Nat) (rest2 : List Value) (P : Int32 → Prop) {st : List Value} (J : ∀ z : Int32, P z → W p l e R s m args below meth c H locs cells slots Q (F0 m pc2 ls (.int z :: rest2))) (k : (∀ z : Int32, P z → W p l e R s m args below meth c H locs cells slots Q (F0 m pc2 ls (.int z :: rest2))) → W p l e R s m args below meth c H locs cells slots Q (F0 m pc ls st)) : W p l e R s m args below meth c H locs cells slots Q (F0 m pc ls st) := k J
theorem w_joinl (pc2 : Nat) (rest2 : List Value) (P : Int64 → Prop) {st : List Value} (J : ∀ z : Int64, P z → W p l e R s m args below meth c H locs cells slots Q (F0 m pc2 ls (.long z :: rest2))) (k : (∀ z : Int64, P z → W p l e R s m args below meth c H locs cells slots Q (F0 m pc2 ls (.long z :: rest2))) → W p l e R s m args below meth c H locs cells slots Q (F0 m pc ls st)) : W p l e R s m args below meth c H locs cells slots Q (F0 m pc ls st) := k J
/-- ways that meet with the same stack -/
theorem w_join0 (pc2 : Nat) (rest2 : List Value) (P : Prop) {st : List Value} (J : P → W p l e R s m args below meth c H locs cells slots Q (F0 m pc2 ls rest2)) (k : (P → W p l e R s m args below meth c H locs cells slots Q (F0 m pc2 ls rest2)) → W p l e R s m args below meth c H locs cells slots Q (F0 m pc ls st)) : W p l e R s m args below meth c H locs cells slots Q (F0 m pc ls st) := k J
/-- ways that meet with other cells and locals -/
theorem w_joinW {σ : Type} (pc2 : Nat) (P : σ → Prop) (ws1 : σ → va_W) (lv1 : σ → List (Nat × Value)) (st1 : σ → List Value) {st : List Value} (J : ∀ (x : σ) (ls1 : Array Slot) (H1 : Heap) (locs1 : List Loc), P x → Wd G A s (ws1 x) H1 locs1 → lv_has ls1 nL (lv1 x) → W p l e R s m args below meth c H1 locs1 cells slots Q (F0 m pc2 ls1 (st1 x))) (k : (∀ (x : σ) (ls1 : Array Slot) (H1 : Heap) (locs1 : List Loc), P x → Wd G A s (ws1 x) H1 locs1 → lv_has ls1 nL (lv1 x) → W p l e R s m args below meth c H1 locs1 cells slots Q (F0 m pc2 ls1 (st1 x))) → W p l e R s m args below meth c H locs cells slots Q (F0 m pc ls st)) : W p l e R s m args below meth c H locs cells slots Q (F0 m pc ls st) := k J
/-- a loop: cells, locals and stack as they hang on x; the measure falls -/
theorem w_loop {σ : Type} (pc2 : Nat) (μ : σ → Nat) (I : σ → Prop) (ws1 : σ → va_W) (lv1 : σ → List (Nat × Value)) (st1 : σ → List Value)
    (step : ∀ (x : σ) (ls1 : Array Slot) (H1 : Heap) (locs1 : List Loc), I x → Wd G A s (ws1 x) H1 locs1 → lv_has ls1 nL (lv1 x) → (∀ (x2 : σ) (ls2 : Array Slot) (H2 : Heap) (locs2 : List Loc), I x2 → μ x2 < μ x → Wd G A s (ws1 x2) H2 locs2 → lv_has ls2 nL (lv1 x2) → W p l e R s m args below meth c H2 locs2 cells slots Q (F0 m pc2 ls2 (st1 x2))) → W p l e R s m args below meth c H1 locs1 cells slots Q (F0 m pc2 ls1 (st1 x))) :
    ∀ (x : σ) (ls1 : Array Slot) (H1 : Heap) (locs1 : List Loc), I x → Wd G A s (ws1 x) H1 locs1 → lv_has ls1 nL (lv1 x) → W p l e R s m args below meth c H1 locs1 cells slots Q (F0 m pc2 ls1 (st1 x)) := by
  have key : ∀ (n : Nat) (x : σ) (ls1 : Array Slot) (H1 : Heap) (locs1 : List Loc), μ x < n → I x → Wd G A s (ws1 x) H1 locs1 → lv_has ls1 nL (lv1 x) → W p l e R s m args below meth c H1 locs1 cells slots Q (F0 m pc2 ls1 (st1 x)) := by
    intro n
    induction n with
    | zero => exact fun x _ _ _ h => absurd h (Nat.not_lt_zero _)
    | succ n ih => exact fun x ls1 H1 locs1 h hI hw hl => step x ls1 H1 locs1 hI hw hl (fun x2 ls2 H2 locs2 hI2 hm hw2 hl2 => ih x2 ls2 H2 locs2 (by omega) hI2 hw2 hl2)
  exact fun x ls1 H1 locs1 => key (μ x + 1) x ls1 H1 locs1 (Nat.lt_succ_self _)
/-- a loop that leaves the heap as it is -/
theorem w_loopS {σ : Type} (pc2 : Nat) (μ : σ → Nat) (I : σ → Prop) (lv1 : σ → List (Nat × Value)) (st1 : σ → List Value)
    (step : ∀ (x : σ) (ls1 : Array Slot), I x → lv_has ls1 nL (lv1 x) → (∀ (x2 : σ) (ls2 : Array Slot), I x2 → μ x2 < μ x → lv_has ls2 nL (lv1 x2) → W p l e R s m args below meth c H locs cells slots Q (F0 m pc2 ls2 (st1 x2))) → W p l e R s m args below meth c H locs cells slots Q (F0 m pc2 ls1 (st1 x))) :
    ∀ (x : σ) (ls1 : Array Slot), I x → lv_has ls1 nL (lv1 x) → W p l e R s m args below meth c H locs cells slots Q (F0 m pc2 ls1 (st1 x)) := by
  have key : ∀ (n : Nat) (x : σ) (ls1 : Array Slot), μ x < n → I x → lv_has ls1 nL (lv1 x) → W p l e R s m args below meth c H locs cells slots Q (F0 m pc2 ls1 (st1 x)) := by
    intro n
    induction n with
    | zero => exact fun x _ h => absurd h (Nat.not_lt_zero _)
    | succ n ih => exact fun x ls1 h hI hl => step x ls1 hI hl (fun x2 ls2 hI2 hm hl2 => ih x2 ls2 (by omega) hI2 hl2)
  exact fun x ls1 => key (μ x + 1) x ls1 (Nat.lt_succ_self _)
end Base2
/-! ===== pure words ===== -/
def atF (f : Nat → Int32) (n : Nat) (i : Int32) : Int32 := if ¬ i < 0 ∧ i < Int32.ofNat n then f i.toNatClampNeg else -1
def putF (f : Nat → Int32) (n : Nat) (i v : Int32) : Nat → Int32 := if ¬ i < 0 ∧ i < Int32.ofNat n then upd f i.toNatClampNeg v else f
theorem in_of {i : Int32} {n : Nat} (hn : n < 2 ^ 31) (h0 : ¬ i < 0) (h1 : i < Int32.ofNat n) : vp_in i n := by
  rw [vp_in_iff]
  have e : (Int32.ofNat n).toInt = (n : Int) := nI_toInt hn
  have a := Int32.not_lt.mp h0
  rw [Int32.le_iff_toInt_le] at a
  rw [Int32.lt_iff_toInt_lt, e] at h1
  exact ⟨a, h1⟩
theorem in_of2 {i : Int32} {n : Nat} (hn : n < 2 ^ 31) (h0 : ¬ i < 0) (h1 : ¬ Int32.ofNat n ≤ i) : vp_in i n := in_of hn h0 (Int32.not_le.mp h1)
end
section
theorem dX0_init_0 : decode cX0_init 0 = .ok (.aload_n 0, 1) := by decide +kernel
theorem dX0_init_1 : decode cX0_init 1 = .ok (.invokespecial 3, 3) := by decide +kernel
theorem dX0_init_4 : decode cX0_init 4 = .ok (.aload_n 0, 1) := by decide +kernel
theorem dX0_init_5 : decode cX0_init 5 = .ok (.bipush 12, 2) := by decide +kernel
theorem dX0_init_7 : decode cX0_init 7 = .ok (.newarray .int, 2) := by decide +kernel
theorem dX0_init_9 : decode cX0_init 9 = .ok (.putfield 9, 3) := by decide +kernel
theorem dX0_init_12 : decode cX0_init 12 = .ok (.aload_n 0, 1) := by decide +kernel
theorem dX0_init_13 : decode cX0_init 13 = .ok (.bipush 12, 2) := by decide +kernel
theorem dX0_init_15 : decode cX0_init 15 = .ok (.newarray .int, 2) := by decide +kernel
theorem dX0_init_17 : decode cX0_init 17 = .ok (.putfield 15, 3) := by decide +kernel
theorem dX0_init_20 : decode cX0_init 20 = .ok (.aload_n 0, 1) := by decide +kernel
theorem dX0_init_21 : decode cX0_init 21 = .ok (.bipush 12, 2) := by decide +kernel
theorem dX0_init_23 : decode cX0_init 23 = .ok (.newarray .int, 2) := by decide +kernel
theorem dX0_init_25 : decode cX0_init 25 = .ok (.putfield 18, 3) := by decide +kernel
theorem dX0_init_28 : decode cX0_init 28 = .ok (.aload_n 0, 1) := by decide +kernel
theorem dX0_init_29 : decode cX0_init 29 = .ok (.bipush 7, 2) := by decide +kernel
theorem dX0_init_31 : decode cX0_init 31 = .ok (.newarray .int, 2) := by decide +kernel
theorem dX0_init_33 : decode cX0_init 33 = .ok (.putfield 21, 3) := by decide +kernel
theorem dX0_init_36 : decode cX0_init 36 = .ok (.return_, 1) := by decide +kernel
theorem dX0_begin_0 : decode cX0_begin 0 = .ok (.aload_n 0, 1) := by decide +kernel
theorem dX0_begin_1 : decode cX0_begin 1 = .ok (.iconst 0, 1) := by decide +kernel
theorem dX0_begin_2 : decode cX0_begin 2 = .ok (.putfield 24, 3) := by decide +kernel
theorem dX0_begin_5 : decode cX0_begin 5 = .ok (.aload_n 0, 1) := by decide +kernel
theorem dX0_begin_6 : decode cX0_begin 6 = .ok (.iload_n 1, 1) := by decide +kernel
theorem dX0_begin_7 : decode cX0_begin 7 = .ok (.putfield 28, 3) := by decide +kernel
theorem dX0_begin_10 : decode cX0_begin 10 = .ok (.aload_n 0, 1) := by decide +kernel
theorem dX0_begin_11 : decode cX0_begin 11 = .ok (.iconst 0, 1) := by decide +kernel
theorem dX0_begin_12 : decode cX0_begin 12 = .ok (.putfield 32, 3) := by decide +kernel
theorem dX0_begin_15 : decode cX0_begin 15 = .ok (.aload_n 0, 1) := by decide +kernel
theorem dX0_begin_16 : decode cX0_begin 16 = .ok (.iconst 0, 1) := by decide +kernel
theorem dX0_begin_17 : decode cX0_begin 17 = .ok (.putfield 35, 3) := by decide +kernel
theorem dX0_begin_20 : decode cX0_begin 20 = .ok (.return_, 1) := by decide +kernel
theorem dX0_addGate_0 : decode cX0_addGate 0 = .ok (.aload_n 0, 1) := by decide +kernel
theorem dX0_addGate_1 : decode cX0_addGate 1 = .ok (.getfield 32, 3) := by decide +kernel
theorem dX0_addGate_4 : decode cX0_addGate 4 = .ok (.bipush 12, 2) := by decide +kernel
theorem dX0_addGate_6 : decode cX0_addGate 6 = .ok (.if_icmp .lt 5, 3) := by decide +kernel
theorem dX0_addGate_9 : decode cX0_addGate 9 = .ok (.iconst (-1), 1) := by decide +kernel
theorem dX0_addGate_10 : decode cX0_addGate 10 = .ok (.ireturn, 1) := by decide +kernel
theorem dX0_addGate_11 : decode cX0_addGate 11 = .ok (.aload_n 0, 1) := by decide +kernel
theorem dX0_addGate_12 : decode cX0_addGate 12 = .ok (.getfield 9, 3) := by decide +kernel
theorem dX0_addGate_15 : decode cX0_addGate 15 = .ok (.aload_n 0, 1) := by decide +kernel
theorem dX0_addGate_16 : decode cX0_addGate 16 = .ok (.getfield 32, 3) := by decide +kernel
theorem dX0_addGate_19 : decode cX0_addGate 19 = .ok (.iload_n 1, 1) := by decide +kernel
theorem dX0_addGate_20 : decode cX0_addGate 20 = .ok (.invokestatic 38, 3) := by decide +kernel
theorem dX0_addGate_23 : decode cX0_addGate 23 = .ok (.aload_n 0, 1) := by decide +kernel
theorem dX0_addGate_24 : decode cX0_addGate 24 = .ok (.getfield 15, 3) := by decide +kernel
theorem dX0_addGate_27 : decode cX0_addGate 27 = .ok (.aload_n 0, 1) := by decide +kernel
theorem dX0_addGate_28 : decode cX0_addGate 28 = .ok (.getfield 32, 3) := by decide +kernel
theorem dX0_addGate_31 : decode cX0_addGate 31 = .ok (.iload_n 2, 1) := by decide +kernel
theorem dX0_addGate_32 : decode cX0_addGate 32 = .ok (.invokestatic 38, 3) := by decide +kernel
theorem dX0_addGate_35 : decode cX0_addGate 35 = .ok (.aload_n 0, 1) := by decide +kernel
theorem dX0_addGate_36 : decode cX0_addGate 36 = .ok (.getfield 18, 3) := by decide +kernel
theorem dX0_addGate_39 : decode cX0_addGate 39 = .ok (.aload_n 0, 1) := by decide +kernel
theorem dX0_addGate_40 : decode cX0_addGate 40 = .ok (.getfield 32, 3) := by decide +kernel
theorem dX0_addGate_43 : decode cX0_addGate 43 = .ok (.iload_n 3, 1) := by decide +kernel
theorem dX0_addGate_44 : decode cX0_addGate 44 = .ok (.invokestatic 38, 3) := by decide +kernel
theorem dX0_addGate_47 : decode cX0_addGate 47 = .ok (.aload_n 0, 1) := by decide +kernel
theorem dX0_addGate_48 : decode cX0_addGate 48 = .ok (.dup, 1) := by decide +kernel
theorem dX0_addGate_49 : decode cX0_addGate 49 = .ok (.getfield 32, 3) := by decide +kernel
theorem dX0_addGate_52 : decode cX0_addGate 52 = .ok (.iconst 1, 1) := by decide +kernel
theorem dX0_addGate_53 : decode cX0_addGate 53 = .ok (.iadd, 1) := by decide +kernel
theorem dX0_addGate_54 : decode cX0_addGate 54 = .ok (.putfield 32, 3) := by decide +kernel
theorem dX0_addGate_57 : decode cX0_addGate 57 = .ok (.aload_n 0, 1) := by decide +kernel
theorem dX0_addGate_58 : decode cX0_addGate 58 = .ok (.invokevirtual 42, 3) := by decide +kernel
theorem dX0_addGate_61 : decode cX0_addGate 61 = .ok (.iconst 1, 1) := by decide +kernel
theorem dX0_addGate_62 : decode cX0_addGate 62 = .ok (.isub, 1) := by decide +kernel
theorem dX0_addGate_63 : decode cX0_addGate 63 = .ok (.ireturn, 1) := by decide +kernel
theorem dX0_addOutput_0 : decode cX0_addOutput 0 = .ok (.aload_n 0, 1) := by decide +kernel
theorem dX0_addOutput_1 : decode cX0_addOutput 1 = .ok (.getfield 35, 3) := by decide +kernel
theorem dX0_addOutput_4 : decode cX0_addOutput 4 = .ok (.bipush 7, 2) := by decide +kernel
theorem dX0_addOutput_6 : decode cX0_addOutput 6 = .ok (.if_icmp .ge 25, 3) := by decide +kernel
theorem dX0_addOutput_9 : decode cX0_addOutput 9 = .ok (.aload_n 0, 1) := by decide +kernel
theorem dX0_addOutput_10 : decode cX0_addOutput 10 = .ok (.getfield 21, 3) := by decide +kernel
theorem dX0_addOutput_13 : decode cX0_addOutput 13 = .ok (.aload_n 0, 1) := by decide +kernel
theorem dX0_addOutput_14 : decode cX0_addOutput 14 = .ok (.getfield 35, 3) := by decide +kernel
theorem dX0_addOutput_17 : decode cX0_addOutput 17 = .ok (.iload_n 1, 1) := by decide +kernel
theorem dX0_addOutput_18 : decode cX0_addOutput 18 = .ok (.invokestatic 38, 3) := by decide +kernel
theorem dX0_addOutput_21 : decode cX0_addOutput 21 = .ok (.aload_n 0, 1) := by decide +kernel
theorem dX0_addOutput_22 : decode cX0_addOutput 22 = .ok (.dup, 1) := by decide +kernel
theorem dX0_addOutput_23 : decode cX0_addOutput 23 = .ok (.getfield 35, 3) := by decide +kernel
theorem dX0_addOutput_26 : decode cX0_addOutput 26 = .ok (.iconst 1, 1) := by decide +kernel
theorem dX0_addOutput_27 : decode cX0_addOutput 27 = .ok (.iadd, 1) := by decide +kernel
theorem dX0_addOutput_28 : decode cX0_addOutput 28 = .ok (.putfield 35, 3) := by decide +kernel
theorem dX0_addOutput_31 : decode cX0_addOutput 31 = .ok (.return_, 1) := by decide +kernel
theorem dX0_end_0 : decode cX0_end 0 = .ok (.aload_n 0, 1) := by decide +kernel
theorem dX0_end_1 : decode cX0_end 1 = .ok (.iload_n 1, 1) := by decide +kernel
theorem dX0_end_2 : decode cX0_end 2 = .ok (.putfield 46, 3) := by decide +kernel
theorem dX0_end_5 : decode cX0_end 5 = .ok (.aload_n 0, 1) := by decide +kernel
theorem dX0_end_6 : decode cX0_end 6 = .ok (.iload_n 2, 1) := by decide +kernel
theorem dX0_end_7 : decode cX0_end 7 = .ok (.putfield 49, 3) := by decide +kernel
theorem dX0_end_10 : decode cX0_end 10 = .ok (.aload_n 0, 1) := by decide +kernel
theorem dX0_end_11 : decode cX0_end 11 = .ok (.iload_n 3, 1) := by decide +kernel
theorem dX0_end_12 : decode cX0_end 12 = .ok (.putfield 52, 3) := by decide +kernel
theorem dX0_end_15 : decode cX0_end 15 = .ok (.aload_n 0, 1) := by decide +kernel
theorem dX0_end_16 : decode cX0_end 16 = .ok (.iconst 1, 1) := by decide +kernel
theorem dX0_end_17 : decode cX0_end 17 = .ok (.putfield 24, 3) := by decide +kernel
theorem dX0_end_20 : decode cX0_end 20 = .ok (.return_, 1) := by decide +kernel
theorem dX0_become_0 : decode cX0_become 0 = .ok (.aload_n 0, 1) := by decide +kernel
theorem dX0_become_1 : decode cX0_become 1 = .ok (.aload_n 1, 1) := by decide +kernel
theorem dX0_become_2 : decode cX0_become 2 = .ok (.getfield 28, 3) := by decide +kernel
theorem dX0_become_5 : decode cX0_become 5 = .ok (.invokevirtual 55, 3) := by decide +kernel
theorem dX0_become_8 : decode cX0_become 8 = .ok (.iconst 0, 1) := by decide +kernel
theorem dX0_become_9 : decode cX0_become 9 = .ok (.istore_n 2, 1) := by decide +kernel
theorem dX0_become_10 : decode cX0_become 10 = .ok (.iload_n 2, 1) := by decide +kernel
theorem dX0_become_11 : decode cX0_become 11 = .ok (.aload_n 1, 1) := by decide +kernel
theorem dX0_become_12 : decode cX0_become 12 = .ok (.getfield 32, 3) := by decide +kernel
theorem dX0_become_15 : decode cX0_become 15 = .ok (.if_icmp .ge 29, 3) := by decide +kernel
theorem dX0_become_18 : decode cX0_become 18 = .ok (.aload_n 0, 1) := by decide +kernel
theorem dX0_become_19 : decode cX0_become 19 = .ok (.aload_n 1, 1) := by decide +kernel
theorem dX0_become_20 : decode cX0_become 20 = .ok (.iload_n 2, 1) := by decide +kernel
theorem dX0_become_21 : decode cX0_become 21 = .ok (.invokevirtual 59, 3) := by decide +kernel
theorem dX0_become_24 : decode cX0_become 24 = .ok (.aload_n 1, 1) := by decide +kernel
theorem dX0_become_25 : decode cX0_become 25 = .ok (.iload_n 2, 1) := by decide +kernel
theorem dX0_become_26 : decode cX0_become 26 = .ok (.invokevirtual 63, 3) := by decide +kernel
theorem dX0_become_29 : decode cX0_become 29 = .ok (.aload_n 1, 1) := by decide +kernel
theorem dX0_become_30 : decode cX0_become 30 = .ok (.iload_n 2, 1) := by decide +kernel
theorem dX0_become_31 : decode cX0_become 31 = .ok (.invokevirtual 66, 3) := by decide +kernel
theorem dX0_become_34 : decode cX0_become 34 = .ok (.invokevirtual 69, 3) := by decide +kernel
theorem dX0_become_37 : decode cX0_become 37 = .ok (.pop, 1) := by decide +kernel
theorem dX0_become_38 : decode cX0_become 38 = .ok (.iinc 2 1, 3) := by decide +kernel
theorem dX0_become_41 : decode cX0_become 41 = .ok (.goto (-31), 3) := by decide +kernel
theorem dX0_become_44 : decode cX0_become 44 = .ok (.iconst 0, 1) := by decide +kernel
theorem dX0_become_45 : decode cX0_become 45 = .ok (.istore_n 2, 1) := by decide +kernel
theorem dX0_become_46 : decode cX0_become 46 = .ok (.iload_n 2, 1) := by decide +kernel
theorem dX0_become_47 : decode cX0_become 47 = .ok (.aload_n 1, 1) := by decide +kernel
theorem dX0_become_48 : decode cX0_become 48 = .ok (.getfield 35, 3) := by decide +kernel
theorem dX0_become_51 : decode cX0_become 51 = .ok (.if_icmp .ge 18, 3) := by decide +kernel
theorem dX0_become_54 : decode cX0_become 54 = .ok (.aload_n 0, 1) := by decide +kernel
theorem dX0_become_55 : decode cX0_become 55 = .ok (.aload_n 1, 1) := by decide +kernel
theorem dX0_become_56 : decode cX0_become 56 = .ok (.iload_n 2, 1) := by decide +kernel
theorem dX0_become_57 : decode cX0_become 57 = .ok (.invokevirtual 73, 3) := by decide +kernel
theorem dX0_become_60 : decode cX0_become 60 = .ok (.invokevirtual 76, 3) := by decide +kernel
theorem dX0_become_63 : decode cX0_become 63 = .ok (.iinc 2 1, 3) := by decide +kernel
theorem dX0_become_66 : decode cX0_become 66 = .ok (.goto (-20), 3) := by decide +kernel
theorem dX0_become_69 : decode cX0_become 69 = .ok (.aload_n 0, 1) := by decide +kernel
theorem dX0_become_70 : decode cX0_become 70 = .ok (.aload_n 1, 1) := by decide +kernel
theorem dX0_become_71 : decode cX0_become 71 = .ok (.getfield 46, 3) := by decide +kernel
theorem dX0_become_74 : decode cX0_become 74 = .ok (.aload_n 1, 1) := by decide +kernel
theorem dX0_become_75 : decode cX0_become 75 = .ok (.getfield 49, 3) := by decide +kernel
theorem dX0_become_78 : decode cX0_become 78 = .ok (.aload_n 1, 1) := by decide +kernel
theorem dX0_become_79 : decode cX0_become 79 = .ok (.getfield 52, 3) := by decide +kernel
theorem dX0_become_82 : decode cX0_become 82 = .ok (.invokevirtual 79, 3) := by decide +kernel
theorem dX0_become_85 : decode cX0_become 85 = .ok (.return_, 1) := by decide +kernel
theorem dX0_signals_0 : decode cX0_signals 0 = .ok (.aload_n 0, 1) := by decide +kernel
theorem dX0_signals_1 : decode cX0_signals 1 = .ok (.getfield 28, 3) := by decide +kernel
theorem dX0_signals_4 : decode cX0_signals 4 = .ok (.aload_n 0, 1) := by decide +kernel
theorem dX0_signals_5 : decode cX0_signals 5 = .ok (.getfield 32, 3) := by decide +kernel
theorem dX0_signals_8 : decode cX0_signals 8 = .ok (.iadd, 1) := by decide +kernel
theorem dX0_signals_9 : decode cX0_signals 9 = .ok (.ireturn, 1) := by decide +kernel
theorem dX0_kindOf_0 : decode cX0_kindOf 0 = .ok (.aload_n 0, 1) := by decide +kernel
theorem dX0_kindOf_1 : decode cX0_kindOf 1 = .ok (.getfield 9, 3) := by decide +kernel
theorem dX0_kindOf_4 : decode cX0_kindOf 4 = .ok (.iload_n 1, 1) := by decide +kernel
theorem dX0_kindOf_5 : decode cX0_kindOf 5 = .ok (.invokestatic 83, 3) := by decide +kernel
theorem dX0_kindOf_8 : decode cX0_kindOf 8 = .ok (.ireturn, 1) := by decide +kernel
theorem dX0_xOf_0 : decode cX0_xOf 0 = .ok (.aload_n 0, 1) := by decide +kernel
theorem dX0_xOf_1 : decode cX0_xOf 1 = .ok (.getfield 15, 3) := by decide +kernel
theorem dX0_xOf_4 : decode cX0_xOf 4 = .ok (.iload_n 1, 1) := by decide +kernel
theorem dX0_xOf_5 : decode cX0_xOf 5 = .ok (.invokestatic 83, 3) := by decide +kernel
theorem dX0_xOf_8 : decode cX0_xOf 8 = .ok (.ireturn, 1) := by decide +kernel
theorem dX0_yOf_0 : decode cX0_yOf 0 = .ok (.aload_n 0, 1) := by decide +kernel
theorem dX0_yOf_1 : decode cX0_yOf 1 = .ok (.getfield 18, 3) := by decide +kernel
theorem dX0_yOf_4 : decode cX0_yOf 4 = .ok (.iload_n 1, 1) := by decide +kernel
theorem dX0_yOf_5 : decode cX0_yOf 5 = .ok (.invokestatic 83, 3) := by decide +kernel
theorem dX0_yOf_8 : decode cX0_yOf 8 = .ok (.ireturn, 1) := by decide +kernel
theorem dX0_outputAt_0 : decode cX0_outputAt 0 = .ok (.aload_n 0, 1) := by decide +kernel
theorem dX0_outputAt_1 : decode cX0_outputAt 1 = .ok (.getfield 21, 3) := by decide +kernel
theorem dX0_outputAt_4 : decode cX0_outputAt 4 = .ok (.iload_n 1, 1) := by decide +kernel
theorem dX0_outputAt_5 : decode cX0_outputAt 5 = .ok (.invokestatic 83, 3) := by decide +kernel
theorem dX0_outputAt_8 : decode cX0_outputAt 8 = .ok (.ireturn, 1) := by decide +kernel
theorem dX0_mayPut_0 : decode cX0_mayPut 0 = .ok (.iload_n 2, 1) := by decide +kernel
theorem dX0_mayPut_1 : decode cX0_mayPut 1 = .ok (.ifCond .lt 9, 3) := by decide +kernel
theorem dX0_mayPut_4 : decode cX0_mayPut 4 = .ok (.iload_n 2, 1) := by decide +kernel
theorem dX0_mayPut_5 : decode cX0_mayPut 5 = .ok (.bipush 8, 2) := by decide +kernel
theorem dX0_mayPut_7 : decode cX0_mayPut 7 = .ok (.if_icmp .lt 5, 3) := by decide +kernel
theorem dX0_mayPut_10 : decode cX0_mayPut 10 = .ok (.iconst 0, 1) := by decide +kernel
theorem dX0_mayPut_11 : decode cX0_mayPut 11 = .ok (.ireturn, 1) := by decide +kernel
theorem dX0_mayPut_12 : decode cX0_mayPut 12 = .ok (.aload_n 0, 1) := by decide +kernel
theorem dX0_mayPut_13 : decode cX0_mayPut 13 = .ok (.getfield 24, 3) := by decide +kernel
theorem dX0_mayPut_16 : decode cX0_mayPut 16 = .ok (.ifCond .eq 28, 3) := by decide +kernel
theorem dX0_mayPut_19 : decode cX0_mayPut 19 = .ok (.iload_n 2, 1) := by decide +kernel
theorem dX0_mayPut_20 : decode cX0_mayPut 20 = .ok (.ifCond .ne 7, 3) := by decide +kernel
theorem dX0_mayPut_23 : decode cX0_mayPut 23 = .ok (.iconst 1, 1) := by decide +kernel
theorem dX0_mayPut_24 : decode cX0_mayPut 24 = .ok (.goto 4, 3) := by decide +kernel
theorem dX0_mayPut_27 : decode cX0_mayPut 27 = .ok (.iconst 0, 1) := by decide +kernel
theorem dX0_mayPut_28 : decode cX0_mayPut 28 = .ok (.aload_n 0, 1) := by decide +kernel
theorem dX0_mayPut_29 : decode cX0_mayPut 29 = .ok (.iload_n 1, 1) := by decide +kernel
theorem dX0_mayPut_30 : decode cX0_mayPut 30 = .ok (.invokevirtual 59, 3) := by decide +kernel
theorem dX0_mayPut_33 : decode cX0_mayPut 33 = .ok (.ifCond .ne 7, 3) := by decide +kernel
theorem dX0_mayPut_36 : decode cX0_mayPut 36 = .ok (.iconst 1, 1) := by decide +kernel
theorem dX0_mayPut_37 : decode cX0_mayPut 37 = .ok (.goto 4, 3) := by decide +kernel
theorem dX0_mayPut_40 : decode cX0_mayPut 40 = .ok (.iconst 0, 1) := by decide +kernel
theorem dX0_mayPut_41 : decode cX0_mayPut 41 = .ok (.if_icmp .ne 7, 3) := by decide +kernel
theorem dX0_mayPut_44 : decode cX0_mayPut 44 = .ok (.iconst 1, 1) := by decide +kernel
theorem dX0_mayPut_45 : decode cX0_mayPut 45 = .ok (.goto 4, 3) := by decide +kernel
theorem dX0_mayPut_48 : decode cX0_mayPut 48 = .ok (.iconst 0, 1) := by decide +kernel
theorem dX0_mayPut_49 : decode cX0_mayPut 49 = .ok (.ireturn, 1) := by decide +kernel
theorem dX0_usesOf_0 : decode cX0_usesOf 0 = .ok (.iconst 0, 1) := by decide +kernel
theorem dX0_usesOf_1 : decode cX0_usesOf 1 = .ok (.istore_n 2, 1) := by decide +kernel
theorem dX0_usesOf_2 : decode cX0_usesOf 2 = .ok (.iconst 0, 1) := by decide +kernel
theorem dX0_usesOf_3 : decode cX0_usesOf 3 = .ok (.istore_n 3, 1) := by decide +kernel
theorem dX0_usesOf_4 : decode cX0_usesOf 4 = .ok (.iload_n 3, 1) := by decide +kernel
theorem dX0_usesOf_5 : decode cX0_usesOf 5 = .ok (.aload_n 0, 1) := by decide +kernel
theorem dX0_usesOf_6 : decode cX0_usesOf 6 = .ok (.getfield 32, 3) := by decide +kernel
theorem dX0_usesOf_9 : decode cX0_usesOf 9 = .ok (.if_icmp .ge 35, 3) := by decide +kernel
theorem dX0_usesOf_12 : decode cX0_usesOf 12 = .ok (.iload_n 2, 1) := by decide +kernel
theorem dX0_usesOf_13 : decode cX0_usesOf 13 = .ok (.aload_n 0, 1) := by decide +kernel
theorem dX0_usesOf_14 : decode cX0_usesOf 14 = .ok (.iload_n 3, 1) := by decide +kernel
theorem dX0_usesOf_15 : decode cX0_usesOf 15 = .ok (.invokevirtual 63, 3) := by decide +kernel
theorem dX0_usesOf_18 : decode cX0_usesOf 18 = .ok (.iload_n 1, 1) := by decide +kernel
theorem dX0_usesOf_19 : decode cX0_usesOf 19 = .ok (.if_icmp .eq 12, 3) := by decide +kernel
theorem dX0_usesOf_22 : decode cX0_usesOf 22 = .ok (.aload_n 0, 1) := by decide +kernel
theorem dX0_usesOf_23 : decode cX0_usesOf 23 = .ok (.iload_n 3, 1) := by decide +kernel
theorem dX0_usesOf_24 : decode cX0_usesOf 24 = .ok (.invokevirtual 66, 3) := by decide +kernel
theorem dX0_usesOf_27 : decode cX0_usesOf 27 = .ok (.iload_n 1, 1) := by decide +kernel
theorem dX0_usesOf_28 : decode cX0_usesOf 28 = .ok (.if_icmp .ne 7, 3) := by decide +kernel
theorem dX0_usesOf_31 : decode cX0_usesOf 31 = .ok (.iconst 1, 1) := by decide +kernel
theorem dX0_usesOf_32 : decode cX0_usesOf 32 = .ok (.goto 4, 3) := by decide +kernel
theorem dX0_usesOf_35 : decode cX0_usesOf 35 = .ok (.iconst 0, 1) := by decide +kernel
theorem dX0_usesOf_36 : decode cX0_usesOf 36 = .ok (.iadd, 1) := by decide +kernel
theorem dX0_usesOf_37 : decode cX0_usesOf 37 = .ok (.istore_n 2, 1) := by decide +kernel
theorem dX0_usesOf_38 : decode cX0_usesOf 38 = .ok (.iinc 3 1, 3) := by decide +kernel
theorem dX0_usesOf_41 : decode cX0_usesOf 41 = .ok (.goto (-37), 3) := by decide +kernel
theorem dX0_usesOf_44 : decode cX0_usesOf 44 = .ok (.iconst 0, 1) := by decide +kernel
theorem dX0_usesOf_45 : decode cX0_usesOf 45 = .ok (.istore_n 3, 1) := by decide +kernel
theorem dX0_usesOf_46 : decode cX0_usesOf 46 = .ok (.iload_n 3, 1) := by decide +kernel
theorem dX0_usesOf_47 : decode cX0_usesOf 47 = .ok (.aload_n 0, 1) := by decide +kernel
theorem dX0_usesOf_48 : decode cX0_usesOf 48 = .ok (.getfield 35, 3) := by decide +kernel
theorem dX0_usesOf_51 : decode cX0_usesOf 51 = .ok (.if_icmp .ge 26, 3) := by decide +kernel
theorem dX0_usesOf_54 : decode cX0_usesOf 54 = .ok (.iload_n 2, 1) := by decide +kernel
theorem dX0_usesOf_55 : decode cX0_usesOf 55 = .ok (.aload_n 0, 1) := by decide +kernel
theorem dX0_usesOf_56 : decode cX0_usesOf 56 = .ok (.iload_n 3, 1) := by decide +kernel
theorem dX0_usesOf_57 : decode cX0_usesOf 57 = .ok (.invokevirtual 73, 3) := by decide +kernel
theorem dX0_usesOf_60 : decode cX0_usesOf 60 = .ok (.iload_n 1, 1) := by decide +kernel
theorem dX0_usesOf_61 : decode cX0_usesOf 61 = .ok (.if_icmp .ne 7, 3) := by decide +kernel
theorem dX0_usesOf_64 : decode cX0_usesOf 64 = .ok (.iconst 1, 1) := by decide +kernel
theorem dX0_usesOf_65 : decode cX0_usesOf 65 = .ok (.goto 4, 3) := by decide +kernel
theorem dX0_usesOf_68 : decode cX0_usesOf 68 = .ok (.iconst 0, 1) := by decide +kernel
theorem dX0_usesOf_69 : decode cX0_usesOf 69 = .ok (.iadd, 1) := by decide +kernel
theorem dX0_usesOf_70 : decode cX0_usesOf 70 = .ok (.istore_n 2, 1) := by decide +kernel
theorem dX0_usesOf_71 : decode cX0_usesOf 71 = .ok (.iinc 3 1, 3) := by decide +kernel
theorem dX0_usesOf_74 : decode cX0_usesOf 74 = .ok (.goto (-28), 3) := by decide +kernel
theorem dX0_usesOf_77 : decode cX0_usesOf 77 = .ok (.iload_n 2, 1) := by decide +kernel
theorem dX0_usesOf_78 : decode cX0_usesOf 78 = .ok (.ireturn, 1) := by decide +kernel
theorem dX0_taskFor_0 : decode cX0_taskFor 0 = .ok (.iload_n 1, 1) := by decide +kernel
theorem dX0_taskFor_1 : decode cX0_taskFor 1 = .ok (.iconst 1, 1) := by decide +kernel
theorem dX0_taskFor_2 : decode cX0_taskFor 2 = .ok (.aload_n 0, 1) := by decide +kernel
theorem dX0_taskFor_3 : decode cX0_taskFor 3 = .ok (.getfield 49, 3) := by decide +kernel
theorem dX0_taskFor_6 : decode cX0_taskFor 6 = .ok (.ishl, 1) := by decide +kernel
theorem dX0_taskFor_7 : decode cX0_taskFor 7 = .ok (.iconst 1, 1) := by decide +kernel
theorem dX0_taskFor_8 : decode cX0_taskFor 8 = .ok (.isub, 1) := by decide +kernel
theorem dX0_taskFor_9 : decode cX0_taskFor 9 = .ok (.iand, 1) := by decide +kernel
theorem dX0_taskFor_10 : decode cX0_taskFor 10 = .ok (.istore_n 2, 1) := by decide +kernel
theorem dX0_taskFor_11 : decode cX0_taskFor 11 = .ok (.iload_n 1, 1) := by decide +kernel
theorem dX0_taskFor_12 : decode cX0_taskFor 12 = .ok (.aload_n 0, 1) := by decide +kernel
theorem dX0_taskFor_13 : decode cX0_taskFor 13 = .ok (.getfield 49, 3) := by decide +kernel
theorem dX0_taskFor_16 : decode cX0_taskFor 16 = .ok (.ishr, 1) := by decide +kernel
theorem dX0_taskFor_17 : decode cX0_taskFor 17 = .ok (.iconst 1, 1) := by decide +kernel
theorem dX0_taskFor_18 : decode cX0_taskFor 18 = .ok (.aload_n 0, 1) := by decide +kernel
theorem dX0_taskFor_19 : decode cX0_taskFor 19 = .ok (.getfield 52, 3) := by decide +kernel
theorem dX0_taskFor_22 : decode cX0_taskFor 22 = .ok (.ishl, 1) := by decide +kernel
theorem dX0_taskFor_23 : decode cX0_taskFor 23 = .ok (.iconst 1, 1) := by decide +kernel
theorem dX0_taskFor_24 : decode cX0_taskFor 24 = .ok (.isub, 1) := by decide +kernel
theorem dX0_taskFor_25 : decode cX0_taskFor 25 = .ok (.iand, 1) := by decide +kernel
theorem dX0_taskFor_26 : decode cX0_taskFor 26 = .ok (.istore_n 3, 1) := by decide +kernel
theorem dX0_taskFor_27 : decode cX0_taskFor 27 = .ok (.aload_n 0, 1) := by decide +kernel
theorem dX0_taskFor_28 : decode cX0_taskFor 28 = .ok (.getfield 46, 3) := by decide +kernel
theorem dX0_taskFor_31 : decode cX0_taskFor 31 = .ok (.tableswitch 39 0 2 #[25, 29, 33], 25) := by decide +kernel
theorem dX0_taskFor_56 : decode cX0_taskFor 56 = .ok (.iload_n 2, 1) := by decide +kernel
theorem dX0_taskFor_57 : decode cX0_taskFor 57 = .ok (.iload_n 3, 1) := by decide +kernel
theorem dX0_taskFor_58 : decode cX0_taskFor 58 = .ok (.iadd, 1) := by decide +kernel
theorem dX0_taskFor_59 : decode cX0_taskFor 59 = .ok (.ireturn, 1) := by decide +kernel
theorem dX0_taskFor_60 : decode cX0_taskFor 60 = .ok (.iload_n 2, 1) := by decide +kernel
theorem dX0_taskFor_61 : decode cX0_taskFor 61 = .ok (.iload_n 3, 1) := by decide +kernel
theorem dX0_taskFor_62 : decode cX0_taskFor 62 = .ok (.imul, 1) := by decide +kernel
theorem dX0_taskFor_63 : decode cX0_taskFor 63 = .ok (.ireturn, 1) := by decide +kernel
theorem dX0_taskFor_64 : decode cX0_taskFor 64 = .ok (.iload_n 2, 1) := by decide +kernel
theorem dX0_taskFor_65 : decode cX0_taskFor 65 = .ok (.iload_n 2, 1) := by decide +kernel
theorem dX0_taskFor_66 : decode cX0_taskFor 66 = .ok (.imul, 1) := by decide +kernel
theorem dX0_taskFor_67 : decode cX0_taskFor 67 = .ok (.iload_n 3, 1) := by decide +kernel
theorem dX0_taskFor_68 : decode cX0_taskFor 68 = .ok (.iadd, 1) := by decide +kernel
theorem dX0_taskFor_69 : decode cX0_taskFor 69 = .ok (.ireturn, 1) := by decide +kernel
theorem dX0_taskFor_70 : decode cX0_taskFor 70 = .ok (.iconst 3, 1) := by decide +kernel
theorem dX0_taskFor_71 : decode cX0_taskFor 71 = .ok (.iload_n 2, 1) := by decide +kernel
theorem dX0_taskFor_72 : decode cX0_taskFor 72 = .ok (.imul, 1) := by decide +kernel
theorem dX0_taskFor_73 : decode cX0_taskFor 73 = .ok (.iload_n 3, 1) := by decide +kernel
theorem dX0_taskFor_74 : decode cX0_taskFor 74 = .ok (.isub, 1) := by decide +kernel
theorem dX0_taskFor_75 : decode cX0_taskFor 75 = .ok (.ireturn, 1) := by decide +kernel
theorem dX1_init_0 : decode cX1_init 0 = .ok (.aload_n 0, 1) := by decide +kernel
theorem dX1_init_1 : decode cX1_init 1 = .ok (.invokespecial 3, 3) := by decide +kernel
theorem dX1_init_4 : decode cX1_init 4 = .ok (.aload_n 0, 1) := by decide +kernel
theorem dX1_init_5 : decode cX1_init 5 = .ok (.bipush 18, 2) := by decide +kernel
theorem dX1_init_7 : decode cX1_init 7 = .ok (.newarray .long, 2) := by decide +kernel
theorem dX1_init_9 : decode cX1_init 9 = .ok (.putfield 9, 3) := by decide +kernel
theorem dX1_init_12 : decode cX1_init 12 = .ok (.return_, 1) := by decide +kernel
theorem dX1_fill_0 : decode cX1_fill 0 = .ok (.iconst 0, 1) := by decide +kernel
theorem dX1_fill_1 : decode cX1_fill 1 = .ok (.istore 4, 2) := by decide +kernel
theorem dX1_fill_3 : decode cX1_fill 3 = .ok (.iload 4, 2) := by decide +kernel
theorem dX1_fill_5 : decode cX1_fill 5 = .ok (.aload_n 1, 1) := by decide +kernel
theorem dX1_fill_6 : decode cX1_fill 6 = .ok (.getfield 15, 3) := by decide +kernel
theorem dX1_fill_9 : decode cX1_fill 9 = .ok (.if_icmp .ge 41, 3) := by decide +kernel
theorem dX1_fill_12 : decode cX1_fill 12 = .ok (.iload 4, 2) := by decide +kernel
theorem dX1_fill_14 : decode cX1_fill 14 = .ok (.getstatic 21, 3) := by decide +kernel
theorem dX1_fill_17 : decode cX1_fill 17 = .ok (.arraylength, 1) := by decide +kernel
theorem dX1_fill_18 : decode cX1_fill 18 = .ok (.if_icmp .ge 32, 3) := by decide +kernel
theorem dX1_fill_21 : decode cX1_fill 21 = .ok (.iload 4, 2) := by decide +kernel
theorem dX1_fill_23 : decode cX1_fill 23 = .ok (.aload_n 0, 1) := by decide +kernel
theorem dX1_fill_24 : decode cX1_fill 24 = .ok (.getfield 9, 3) := by decide +kernel
theorem dX1_fill_27 : decode cX1_fill 27 = .ok (.arraylength, 1) := by decide +kernel
theorem dX1_fill_28 : decode cX1_fill 28 = .ok (.if_icmp .ge 22, 3) := by decide +kernel
theorem dX1_fill_31 : decode cX1_fill 31 = .ok (.aload_n 0, 1) := by decide +kernel
theorem dX1_fill_32 : decode cX1_fill 32 = .ok (.getfield 9, 3) := by decide +kernel
theorem dX1_fill_35 : decode cX1_fill 35 = .ok (.iload 4, 2) := by decide +kernel
theorem dX1_fill_37 : decode cX1_fill 37 = .ok (.getstatic 21, 3) := by decide +kernel
theorem dX1_fill_40 : decode cX1_fill 40 = .ok (.iload 4, 2) := by decide +kernel
theorem dX1_fill_42 : decode cX1_fill 42 = .ok (.laload, 1) := by decide +kernel
theorem dX1_fill_43 : decode cX1_fill 43 = .ok (.lastore, 1) := by decide +kernel
theorem dX1_fill_44 : decode cX1_fill 44 = .ok (.iinc 4 1, 3) := by decide +kernel
theorem dX1_fill_47 : decode cX1_fill 47 = .ok (.goto (-44), 3) := by decide +kernel
theorem dX1_fill_50 : decode cX1_fill 50 = .ok (.iconst 0, 1) := by decide +kernel
theorem dX1_fill_51 : decode cX1_fill 51 = .ok (.istore 4, 2) := by decide +kernel
theorem dX1_fill_53 : decode cX1_fill 53 = .ok (.iload 4, 2) := by decide +kernel
theorem dX1_fill_55 : decode cX1_fill 55 = .ok (.aload_n 1, 1) := by decide +kernel
theorem dX1_fill_56 : decode cX1_fill 56 = .ok (.getfield 24, 3) := by decide +kernel
theorem dX1_fill_59 : decode cX1_fill 59 = .ok (.if_icmp .ge 63, 3) := by decide +kernel
theorem dX1_fill_62 : decode cX1_fill 62 = .ok (.aload_n 1, 1) := by decide +kernel
theorem dX1_fill_63 : decode cX1_fill 63 = .ok (.getfield 15, 3) := by decide +kernel
theorem dX1_fill_66 : decode cX1_fill 66 = .ok (.iload 4, 2) := by decide +kernel
theorem dX1_fill_68 : decode cX1_fill 68 = .ok (.iadd, 1) := by decide +kernel
theorem dX1_fill_69 : decode cX1_fill 69 = .ok (.istore 5, 2) := by decide +kernel
theorem dX1_fill_71 : decode cX1_fill 71 = .ok (.iload 5, 2) := by decide +kernel
theorem dX1_fill_73 : decode cX1_fill 73 = .ok (.ifCond .lt 43, 3) := by decide +kernel
theorem dX1_fill_76 : decode cX1_fill 76 = .ok (.iload 5, 2) := by decide +kernel
theorem dX1_fill_78 : decode cX1_fill 78 = .ok (.aload_n 0, 1) := by decide +kernel
theorem dX1_fill_79 : decode cX1_fill 79 = .ok (.getfield 9, 3) := by decide +kernel
theorem dX1_fill_82 : decode cX1_fill 82 = .ok (.arraylength, 1) := by decide +kernel
theorem dX1_fill_83 : decode cX1_fill 83 = .ok (.if_icmp .ge 33, 3) := by decide +kernel
theorem dX1_fill_86 : decode cX1_fill 86 = .ok (.aload_n 0, 1) := by decide +kernel
theorem dX1_fill_87 : decode cX1_fill 87 = .ok (.getfield 9, 3) := by decide +kernel
theorem dX1_fill_90 : decode cX1_fill 90 = .ok (.iload 5, 2) := by decide +kernel
theorem dX1_fill_92 : decode cX1_fill 92 = .ok (.aload_n 0, 1) := by decide +kernel
theorem dX1_fill_93 : decode cX1_fill 93 = .ok (.aload_n 1, 1) := by decide +kernel
theorem dX1_fill_94 : decode cX1_fill 94 = .ok (.iload 4, 2) := by decide +kernel
theorem dX1_fill_96 : decode cX1_fill 96 = .ok (.iload 4, 2) := by decide +kernel
theorem dX1_fill_98 : decode cX1_fill 98 = .ok (.iload_n 2, 1) := by decide +kernel
theorem dX1_fill_99 : decode cX1_fill 99 = .ok (.if_icmp .ne 7, 3) := by decide +kernel
theorem dX1_fill_102 : decode cX1_fill 102 = .ok (.iload_n 3, 1) := by decide +kernel
theorem dX1_fill_103 : decode cX1_fill 103 = .ok (.goto 9, 3) := by decide +kernel
theorem dX1_fill_106 : decode cX1_fill 106 = .ok (.aload_n 1, 1) := by decide +kernel
theorem dX1_fill_107 : decode cX1_fill 107 = .ok (.iload 4, 2) := by decide +kernel
theorem dX1_fill_109 : decode cX1_fill 109 = .ok (.invokevirtual 27, 3) := by decide +kernel
theorem dX1_fill_112 : decode cX1_fill 112 = .ok (.invokevirtual 31, 3) := by decide +kernel
theorem dX1_fill_115 : decode cX1_fill 115 = .ok (.lastore, 1) := by decide +kernel
theorem dX1_fill_116 : decode cX1_fill 116 = .ok (.iinc 4 1, 3) := by decide +kernel
theorem dX1_fill_119 : decode cX1_fill 119 = .ok (.goto (-66), 3) := by decide +kernel
theorem dX1_fill_122 : decode cX1_fill 122 = .ok (.return_, 1) := by decide +kernel
theorem dX1_column_0 : decode cX1_column 0 = .ok (.aload_n 0, 1) := by decide +kernel
theorem dX1_column_1 : decode cX1_column 1 = .ok (.aload_n 1, 1) := by decide +kernel
theorem dX1_column_2 : decode cX1_column 2 = .ok (.iload_n 2, 1) := by decide +kernel
theorem dX1_column_3 : decode cX1_column 3 = .ok (.invokevirtual 35, 3) := by decide +kernel
theorem dX1_column_6 : decode cX1_column 6 = .ok (.invokevirtual 38, 3) := by decide +kernel
theorem dX1_column_9 : decode cX1_column 9 = .ok (.lstore 4, 2) := by decide +kernel
theorem dX1_column_11 : decode cX1_column 11 = .ok (.aload_n 0, 1) := by decide +kernel
theorem dX1_column_12 : decode cX1_column 12 = .ok (.aload_n 1, 1) := by decide +kernel
theorem dX1_column_13 : decode cX1_column 13 = .ok (.iload_n 2, 1) := by decide +kernel
theorem dX1_column_14 : decode cX1_column 14 = .ok (.invokevirtual 42, 3) := by decide +kernel
theorem dX1_column_17 : decode cX1_column 17 = .ok (.invokevirtual 38, 3) := by decide +kernel
theorem dX1_column_20 : decode cX1_column 20 = .ok (.lstore 6, 2) := by decide +kernel
theorem dX1_column_22 : decode cX1_column 22 = .ok (.iload_n 3, 1) := by decide +kernel
theorem dX1_column_23 : decode cX1_column 23 = .ok (.tableswitch 96 0 6 #[41, 48, 54, 60, 66, 76, 86], 41) := by decide +kernel
theorem dX1_column_64 : decode cX1_column 64 = .ok (.lload 4, 2) := by decide +kernel
theorem dX1_column_66 : decode cX1_column 66 = .ok (.ldc2_w 45, 3) := by decide +kernel
theorem dX1_column_69 : decode cX1_column 69 = .ok (.lxor, 1) := by decide +kernel
theorem dX1_column_70 : decode cX1_column 70 = .ok (.lreturn, 1) := by decide +kernel
theorem dX1_column_71 : decode cX1_column 71 = .ok (.lload 4, 2) := by decide +kernel
theorem dX1_column_73 : decode cX1_column 73 = .ok (.lload 6, 2) := by decide +kernel
theorem dX1_column_75 : decode cX1_column 75 = .ok (.land, 1) := by decide +kernel
theorem dX1_column_76 : decode cX1_column 76 = .ok (.lreturn, 1) := by decide +kernel
theorem dX1_column_77 : decode cX1_column 77 = .ok (.lload 4, 2) := by decide +kernel
theorem dX1_column_79 : decode cX1_column 79 = .ok (.lload 6, 2) := by decide +kernel
theorem dX1_column_81 : decode cX1_column 81 = .ok (.lor, 1) := by decide +kernel
theorem dX1_column_82 : decode cX1_column 82 = .ok (.lreturn, 1) := by decide +kernel
theorem dX1_column_83 : decode cX1_column 83 = .ok (.lload 4, 2) := by decide +kernel
theorem dX1_column_85 : decode cX1_column 85 = .ok (.lload 6, 2) := by decide +kernel
theorem dX1_column_87 : decode cX1_column 87 = .ok (.lxor, 1) := by decide +kernel
theorem dX1_column_88 : decode cX1_column 88 = .ok (.lreturn, 1) := by decide +kernel
theorem dX1_column_89 : decode cX1_column 89 = .ok (.lload 4, 2) := by decide +kernel
theorem dX1_column_91 : decode cX1_column 91 = .ok (.lload 6, 2) := by decide +kernel
theorem dX1_column_93 : decode cX1_column 93 = .ok (.land, 1) := by decide +kernel
theorem dX1_column_94 : decode cX1_column 94 = .ok (.ldc2_w 45, 3) := by decide +kernel
theorem dX1_column_97 : decode cX1_column 97 = .ok (.lxor, 1) := by decide +kernel
theorem dX1_column_98 : decode cX1_column 98 = .ok (.lreturn, 1) := by decide +kernel
theorem dX1_column_99 : decode cX1_column 99 = .ok (.lload 4, 2) := by decide +kernel
theorem dX1_column_101 : decode cX1_column 101 = .ok (.lload 6, 2) := by decide +kernel
theorem dX1_column_103 : decode cX1_column 103 = .ok (.lor, 1) := by decide +kernel
theorem dX1_column_104 : decode cX1_column 104 = .ok (.ldc2_w 45, 3) := by decide +kernel
theorem dX1_column_107 : decode cX1_column 107 = .ok (.lxor, 1) := by decide +kernel
theorem dX1_column_108 : decode cX1_column 108 = .ok (.lreturn, 1) := by decide +kernel
theorem dX1_column_109 : decode cX1_column 109 = .ok (.lload 4, 2) := by decide +kernel
theorem dX1_column_111 : decode cX1_column 111 = .ok (.lload 6, 2) := by decide +kernel
theorem dX1_column_113 : decode cX1_column 113 = .ok (.lxor, 1) := by decide +kernel
theorem dX1_column_114 : decode cX1_column 114 = .ok (.ldc2_w 45, 3) := by decide +kernel
theorem dX1_column_117 : decode cX1_column 117 = .ok (.lxor, 1) := by decide +kernel
theorem dX1_column_118 : decode cX1_column 118 = .ok (.lreturn, 1) := by decide +kernel
theorem dX1_column_119 : decode cX1_column 119 = .ok (.lload 4, 2) := by decide +kernel
theorem dX1_column_121 : decode cX1_column 121 = .ok (.lload 6, 2) := by decide +kernel
theorem dX1_column_123 : decode cX1_column 123 = .ok (.ldc2_w 45, 3) := by decide +kernel
theorem dX1_column_126 : decode cX1_column 126 = .ok (.lxor, 1) := by decide +kernel
theorem dX1_column_127 : decode cX1_column 127 = .ok (.land, 1) := by decide +kernel
theorem dX1_column_128 : decode cX1_column 128 = .ok (.lreturn, 1) := by decide +kernel
theorem dX1_row_0 : decode cX1_row 0 = .ok (.iload_n 1, 1) := by decide +kernel
theorem dX1_row_1 : decode cX1_row 1 = .ok (.ifCond .lt 21, 3) := by decide +kernel
theorem dX1_row_4 : decode cX1_row 4 = .ok (.iload_n 1, 1) := by decide +kernel
theorem dX1_row_5 : decode cX1_row 5 = .ok (.aload_n 0, 1) := by decide +kernel
theorem dX1_row_6 : decode cX1_row 6 = .ok (.getfield 9, 3) := by decide +kernel
theorem dX1_row_9 : decode cX1_row 9 = .ok (.arraylength, 1) := by decide +kernel
theorem dX1_row_10 : decode cX1_row 10 = .ok (.if_icmp .ge 12, 3) := by decide +kernel
theorem dX1_row_13 : decode cX1_row 13 = .ok (.aload_n 0, 1) := by decide +kernel
theorem dX1_row_14 : decode cX1_row 14 = .ok (.getfield 9, 3) := by decide +kernel
theorem dX1_row_17 : decode cX1_row 17 = .ok (.iload_n 1, 1) := by decide +kernel
theorem dX1_row_18 : decode cX1_row 18 = .ok (.laload, 1) := by decide +kernel
theorem dX1_row_19 : decode cX1_row 19 = .ok (.goto 4, 3) := by decide +kernel
theorem dX1_row_22 : decode cX1_row 22 = .ok (.lconst 0, 1) := by decide +kernel
theorem dX1_row_23 : decode cX1_row 23 = .ok (.lreturn, 1) := by decide +kernel
theorem dX1_bit_0 : decode cX1_bit 0 = .ok (.aload_n 0, 1) := by decide +kernel
theorem dX1_bit_1 : decode cX1_bit 1 = .ok (.iload_n 1, 1) := by decide +kernel
theorem dX1_bit_2 : decode cX1_bit 2 = .ok (.invokevirtual 38, 3) := by decide +kernel
theorem dX1_bit_5 : decode cX1_bit 5 = .ok (.iload_n 2, 1) := by decide +kernel
theorem dX1_bit_6 : decode cX1_bit 6 = .ok (.lushr, 1) := by decide +kernel
theorem dX1_bit_7 : decode cX1_bit 7 = .ok (.lconst 1, 1) := by decide +kernel
theorem dX1_bit_8 : decode cX1_bit 8 = .ok (.land, 1) := by decide +kernel
theorem dX1_bit_9 : decode cX1_bit 9 = .ok (.l2i, 1) := by decide +kernel
theorem dX1_bit_10 : decode cX1_bit 10 = .ok (.ireturn, 1) := by decide +kernel
theorem dX1_outputsFor_0 : decode cX1_outputsFor 0 = .ok (.iconst 0, 1) := by decide +kernel
theorem dX1_outputsFor_1 : decode cX1_outputsFor 1 = .ok (.istore_n 3, 1) := by decide +kernel
theorem dX1_outputsFor_2 : decode cX1_outputsFor 2 = .ok (.iconst 0, 1) := by decide +kernel
theorem dX1_outputsFor_3 : decode cX1_outputsFor 3 = .ok (.istore 4, 2) := by decide +kernel
theorem dX1_outputsFor_5 : decode cX1_outputsFor 5 = .ok (.iload 4, 2) := by decide +kernel
theorem dX1_outputsFor_7 : decode cX1_outputsFor 7 = .ok (.aload_n 1, 1) := by decide +kernel
theorem dX1_outputsFor_8 : decode cX1_outputsFor 8 = .ok (.getfield 47, 3) := by decide +kernel
theorem dX1_outputsFor_11 : decode cX1_outputsFor 11 = .ok (.if_icmp .ge 26, 3) := by decide +kernel
theorem dX1_outputsFor_14 : decode cX1_outputsFor 14 = .ok (.iload_n 3, 1) := by decide +kernel
theorem dX1_outputsFor_15 : decode cX1_outputsFor 15 = .ok (.aload_n 0, 1) := by decide +kernel
theorem dX1_outputsFor_16 : decode cX1_outputsFor 16 = .ok (.aload_n 1, 1) := by decide +kernel
theorem dX1_outputsFor_17 : decode cX1_outputsFor 17 = .ok (.iload 4, 2) := by decide +kernel
theorem dX1_outputsFor_19 : decode cX1_outputsFor 19 = .ok (.invokevirtual 50, 3) := by decide +kernel
theorem dX1_outputsFor_22 : decode cX1_outputsFor 22 = .ok (.iload_n 2, 1) := by decide +kernel
theorem dX1_outputsFor_23 : decode cX1_outputsFor 23 = .ok (.invokevirtual 53, 3) := by decide +kernel
theorem dX1_outputsFor_26 : decode cX1_outputsFor 26 = .ok (.iload 4, 2) := by decide +kernel
theorem dX1_outputsFor_28 : decode cX1_outputsFor 28 = .ok (.ishl, 1) := by decide +kernel
theorem dX1_outputsFor_29 : decode cX1_outputsFor 29 = .ok (.iadd, 1) := by decide +kernel
theorem dX1_outputsFor_30 : decode cX1_outputsFor 30 = .ok (.istore_n 3, 1) := by decide +kernel
theorem dX1_outputsFor_31 : decode cX1_outputsFor 31 = .ok (.iinc 4 1, 3) := by decide +kernel
theorem dX1_outputsFor_34 : decode cX1_outputsFor 34 = .ok (.goto (-29), 3) := by decide +kernel
theorem dX1_outputsFor_37 : decode cX1_outputsFor 37 = .ok (.iload_n 3, 1) := by decide +kernel
theorem dX1_outputsFor_38 : decode cX1_outputsFor 38 = .ok (.ireturn, 1) := by decide +kernel
theorem dX1_trueSignals_0 : decode cX1_trueSignals 0 = .ok (.iconst 0, 1) := by decide +kernel
theorem dX1_trueSignals_1 : decode cX1_trueSignals 1 = .ok (.istore_n 3, 1) := by decide +kernel
theorem dX1_trueSignals_2 : decode cX1_trueSignals 2 = .ok (.iconst 0, 1) := by decide +kernel
theorem dX1_trueSignals_3 : decode cX1_trueSignals 3 = .ok (.istore 4, 2) := by decide +kernel
theorem dX1_trueSignals_5 : decode cX1_trueSignals 5 = .ok (.iload 4, 2) := by decide +kernel
theorem dX1_trueSignals_7 : decode cX1_trueSignals 7 = .ok (.aload_n 1, 1) := by decide +kernel
theorem dX1_trueSignals_8 : decode cX1_trueSignals 8 = .ok (.invokevirtual 57, 3) := by decide +kernel
theorem dX1_trueSignals_11 : decode cX1_trueSignals 11 = .ok (.if_icmp .ge 22, 3) := by decide +kernel
theorem dX1_trueSignals_14 : decode cX1_trueSignals 14 = .ok (.iload_n 3, 1) := by decide +kernel
theorem dX1_trueSignals_15 : decode cX1_trueSignals 15 = .ok (.aload_n 0, 1) := by decide +kernel
theorem dX1_trueSignals_16 : decode cX1_trueSignals 16 = .ok (.iload 4, 2) := by decide +kernel
theorem dX1_trueSignals_18 : decode cX1_trueSignals 18 = .ok (.iload_n 2, 1) := by decide +kernel
theorem dX1_trueSignals_19 : decode cX1_trueSignals 19 = .ok (.invokevirtual 53, 3) := by decide +kernel
theorem dX1_trueSignals_22 : decode cX1_trueSignals 22 = .ok (.iload 4, 2) := by decide +kernel
theorem dX1_trueSignals_24 : decode cX1_trueSignals 24 = .ok (.ishl, 1) := by decide +kernel
theorem dX1_trueSignals_25 : decode cX1_trueSignals 25 = .ok (.ior, 1) := by decide +kernel
theorem dX1_trueSignals_26 : decode cX1_trueSignals 26 = .ok (.istore_n 3, 1) := by decide +kernel
theorem dX1_trueSignals_27 : decode cX1_trueSignals 27 = .ok (.iinc 4 1, 3) := by decide +kernel
theorem dX1_trueSignals_30 : decode cX1_trueSignals 30 = .ok (.goto (-25), 3) := by decide +kernel
theorem dX1_trueSignals_33 : decode cX1_trueSignals 33 = .ok (.iload_n 3, 1) := by decide +kernel
theorem dX1_trueSignals_34 : decode cX1_trueSignals 34 = .ok (.ireturn, 1) := by decide +kernel
theorem dX1_isWrong_0 : decode cX1_isWrong 0 = .ok (.aload_n 0, 1) := by decide +kernel
theorem dX1_isWrong_1 : decode cX1_isWrong 1 = .ok (.aload_n 1, 1) := by decide +kernel
theorem dX1_isWrong_2 : decode cX1_isWrong 2 = .ok (.iload_n 2, 1) := by decide +kernel
theorem dX1_isWrong_3 : decode cX1_isWrong 3 = .ok (.invokevirtual 61, 3) := by decide +kernel
theorem dX1_isWrong_6 : decode cX1_isWrong 6 = .ok (.aload_n 1, 1) := by decide +kernel
theorem dX1_isWrong_7 : decode cX1_isWrong 7 = .ok (.iload_n 2, 1) := by decide +kernel
theorem dX1_isWrong_8 : decode cX1_isWrong 8 = .ok (.invokevirtual 65, 3) := by decide +kernel
theorem dX1_isWrong_11 : decode cX1_isWrong 11 = .ok (.if_icmp .eq 7, 3) := by decide +kernel
theorem dX1_isWrong_14 : decode cX1_isWrong 14 = .ok (.iconst 1, 1) := by decide +kernel
theorem dX1_isWrong_15 : decode cX1_isWrong 15 = .ok (.goto 4, 3) := by decide +kernel
theorem dX1_isWrong_18 : decode cX1_isWrong 18 = .ok (.iconst 0, 1) := by decide +kernel
theorem dX1_isWrong_19 : decode cX1_isWrong 19 = .ok (.ireturn, 1) := by decide +kernel
theorem dX1_firstWrong_0 : decode cX1_firstWrong 0 = .ok (.iconst 1, 1) := by decide +kernel
theorem dX1_firstWrong_1 : decode cX1_firstWrong 1 = .ok (.aload_n 1, 1) := by decide +kernel
theorem dX1_firstWrong_2 : decode cX1_firstWrong 2 = .ok (.getfield 15, 3) := by decide +kernel
theorem dX1_firstWrong_5 : decode cX1_firstWrong 5 = .ok (.ishl, 1) := by decide +kernel
theorem dX1_firstWrong_6 : decode cX1_firstWrong 6 = .ok (.istore_n 2, 1) := by decide +kernel
theorem dX1_firstWrong_7 : decode cX1_firstWrong 7 = .ok (.iconst 0, 1) := by decide +kernel
theorem dX1_firstWrong_8 : decode cX1_firstWrong 8 = .ok (.istore_n 3, 1) := by decide +kernel
theorem dX1_firstWrong_9 : decode cX1_firstWrong 9 = .ok (.iload_n 3, 1) := by decide +kernel
theorem dX1_firstWrong_10 : decode cX1_firstWrong 10 = .ok (.iload_n 2, 1) := by decide +kernel
theorem dX1_firstWrong_11 : decode cX1_firstWrong 11 = .ok (.if_icmp .ge 20, 3) := by decide +kernel
theorem dX1_firstWrong_14 : decode cX1_firstWrong 14 = .ok (.aload_n 0, 1) := by decide +kernel
theorem dX1_firstWrong_15 : decode cX1_firstWrong 15 = .ok (.aload_n 1, 1) := by decide +kernel
theorem dX1_firstWrong_16 : decode cX1_firstWrong 16 = .ok (.iload_n 3, 1) := by decide +kernel
theorem dX1_firstWrong_17 : decode cX1_firstWrong 17 = .ok (.invokevirtual 68, 3) := by decide +kernel
theorem dX1_firstWrong_20 : decode cX1_firstWrong 20 = .ok (.ifCond .eq 5, 3) := by decide +kernel
theorem dX1_firstWrong_23 : decode cX1_firstWrong 23 = .ok (.iload_n 3, 1) := by decide +kernel
theorem dX1_firstWrong_24 : decode cX1_firstWrong 24 = .ok (.ireturn, 1) := by decide +kernel
theorem dX1_firstWrong_25 : decode cX1_firstWrong 25 = .ok (.iinc 3 1, 3) := by decide +kernel
theorem dX1_firstWrong_28 : decode cX1_firstWrong 28 = .ok (.goto (-19), 3) := by decide +kernel
theorem dX1_firstWrong_31 : decode cX1_firstWrong 31 = .ok (.iconst (-1), 1) := by decide +kernel
theorem dX1_firstWrong_32 : decode cX1_firstWrong 32 = .ok (.ireturn, 1) := by decide +kernel
theorem dX1_countWrong_0 : decode cX1_countWrong 0 = .ok (.iconst 1, 1) := by decide +kernel
theorem dX1_countWrong_1 : decode cX1_countWrong 1 = .ok (.aload_n 1, 1) := by decide +kernel
theorem dX1_countWrong_2 : decode cX1_countWrong 2 = .ok (.getfield 15, 3) := by decide +kernel
theorem dX1_countWrong_5 : decode cX1_countWrong 5 = .ok (.ishl, 1) := by decide +kernel
theorem dX1_countWrong_6 : decode cX1_countWrong 6 = .ok (.istore_n 2, 1) := by decide +kernel
theorem dX1_countWrong_7 : decode cX1_countWrong 7 = .ok (.iconst 0, 1) := by decide +kernel
theorem dX1_countWrong_8 : decode cX1_countWrong 8 = .ok (.istore_n 3, 1) := by decide +kernel
theorem dX1_countWrong_9 : decode cX1_countWrong 9 = .ok (.iconst 0, 1) := by decide +kernel
theorem dX1_countWrong_10 : decode cX1_countWrong 10 = .ok (.istore 4, 2) := by decide +kernel
theorem dX1_countWrong_12 : decode cX1_countWrong 12 = .ok (.iload 4, 2) := by decide +kernel
theorem dX1_countWrong_14 : decode cX1_countWrong 14 = .ok (.iload_n 2, 1) := by decide +kernel
theorem dX1_countWrong_15 : decode cX1_countWrong 15 = .ok (.if_icmp .ge 27, 3) := by decide +kernel
theorem dX1_countWrong_18 : decode cX1_countWrong 18 = .ok (.iload_n 3, 1) := by decide +kernel
theorem dX1_countWrong_19 : decode cX1_countWrong 19 = .ok (.aload_n 0, 1) := by decide +kernel
theorem dX1_countWrong_20 : decode cX1_countWrong 20 = .ok (.aload_n 1, 1) := by decide +kernel
theorem dX1_countWrong_21 : decode cX1_countWrong 21 = .ok (.iload 4, 2) := by decide +kernel
theorem dX1_countWrong_23 : decode cX1_countWrong 23 = .ok (.invokevirtual 68, 3) := by decide +kernel
theorem dX1_countWrong_26 : decode cX1_countWrong 26 = .ok (.ifCond .eq 7, 3) := by decide +kernel
theorem dX1_countWrong_29 : decode cX1_countWrong 29 = .ok (.iconst 1, 1) := by decide +kernel
theorem dX1_countWrong_30 : decode cX1_countWrong 30 = .ok (.goto 4, 3) := by decide +kernel
theorem dX1_countWrong_33 : decode cX1_countWrong 33 = .ok (.iconst 0, 1) := by decide +kernel
theorem dX1_countWrong_34 : decode cX1_countWrong 34 = .ok (.iadd, 1) := by decide +kernel
theorem dX1_countWrong_35 : decode cX1_countWrong 35 = .ok (.istore_n 3, 1) := by decide +kernel
theorem dX1_countWrong_36 : decode cX1_countWrong 36 = .ok (.iinc 4 1, 3) := by decide +kernel
theorem dX1_countWrong_39 : decode cX1_countWrong 39 = .ok (.goto (-27), 3) := by decide +kernel
theorem dX1_countWrong_42 : decode cX1_countWrong 42 = .ok (.iload_n 3, 1) := by decide +kernel
theorem dX1_countWrong_43 : decode cX1_countWrong 43 = .ok (.ireturn, 1) := by decide +kernel
theorem dX2_init_0 : decode cX2_init 0 = .ok (.aload_n 0, 1) := by decide +kernel
theorem dX2_init_1 : decode cX2_init 1 = .ok (.invokespecial 3, 3) := by decide +kernel
theorem dX2_init_4 : decode cX2_init 4 = .ok (.aload_n 0, 1) := by decide +kernel
theorem dX2_init_5 : decode cX2_init 5 = .ok (.sipush 160, 3) := by decide +kernel
theorem dX2_init_8 : decode cX2_init 8 = .ok (.newarray .int, 2) := by decide +kernel
theorem dX2_init_10 : decode cX2_init 10 = .ok (.putfield 11, 3) := by decide +kernel
theorem dX2_init_13 : decode cX2_init 13 = .ok (.aload_n 0, 1) := by decide +kernel
theorem dX2_init_14 : decode cX2_init 14 = .ok (.sipush 160, 3) := by decide +kernel
theorem dX2_init_17 : decode cX2_init 17 = .ok (.newarray .int, 2) := by decide +kernel
theorem dX2_init_19 : decode cX2_init 19 = .ok (.putfield 15, 3) := by decide +kernel
theorem dX2_init_22 : decode cX2_init 22 = .ok (.return_, 1) := by decide +kernel
theorem dX2_add_0 : decode cX2_add 0 = .ok (.iload_n 2, 1) := by decide +kernel
theorem dX2_add_1 : decode cX2_add 1 = .ok (.ifCond .ne 4, 3) := by decide +kernel
theorem dX2_add_4 : decode cX2_add 4 = .ok (.return_, 1) := by decide +kernel
theorem dX2_add_5 : decode cX2_add 5 = .ok (.aload_n 0, 1) := by decide +kernel
theorem dX2_add_6 : decode cX2_add 6 = .ok (.iload_n 1, 1) := by decide +kernel
theorem dX2_add_7 : decode cX2_add 7 = .ok (.invokevirtual 18, 3) := by decide +kernel
theorem dX2_add_10 : decode cX2_add 10 = .ok (.istore_n 3, 1) := by decide +kernel
theorem dX2_add_11 : decode cX2_add 11 = .ok (.iload_n 3, 1) := by decide +kernel
theorem dX2_add_12 : decode cX2_add 12 = .ok (.aload_n 0, 1) := by decide +kernel
theorem dX2_add_13 : decode cX2_add 13 = .ok (.getfield 22, 3) := by decide +kernel
theorem dX2_add_16 : decode cX2_add 16 = .ok (.if_icmp .ge 15, 3) := by decide +kernel
theorem dX2_add_19 : decode cX2_add 19 = .ok (.aload_n 0, 1) := by decide +kernel
theorem dX2_add_20 : decode cX2_add 20 = .ok (.getfield 11, 3) := by decide +kernel
theorem dX2_add_23 : decode cX2_add 23 = .ok (.iload_n 3, 1) := by decide +kernel
theorem dX2_add_24 : decode cX2_add 24 = .ok (.invokestatic 26, 3) := by decide +kernel
theorem dX2_add_27 : decode cX2_add 27 = .ok (.iload_n 1, 1) := by decide +kernel
theorem dX2_add_28 : decode cX2_add 28 = .ok (.if_icmp .eq 11, 3) := by decide +kernel
theorem dX2_add_31 : decode cX2_add 31 = .ok (.aload_n 0, 1) := by decide +kernel
theorem dX2_add_32 : decode cX2_add 32 = .ok (.iload_n 3, 1) := by decide +kernel
theorem dX2_add_33 : decode cX2_add 33 = .ok (.iload_n 1, 1) := by decide +kernel
theorem dX2_add_34 : decode cX2_add 34 = .ok (.iload_n 2, 1) := by decide +kernel
theorem dX2_add_35 : decode cX2_add 35 = .ok (.invokevirtual 30, 3) := by decide +kernel
theorem dX2_add_38 : decode cX2_add 38 = .ok (.return_, 1) := by decide +kernel
theorem dX2_add_39 : decode cX2_add 39 = .ok (.aload_n 0, 1) := by decide +kernel
theorem dX2_add_40 : decode cX2_add 40 = .ok (.getfield 15, 3) := by decide +kernel
theorem dX2_add_43 : decode cX2_add 43 = .ok (.iload_n 3, 1) := by decide +kernel
theorem dX2_add_44 : decode cX2_add 44 = .ok (.invokestatic 26, 3) := by decide +kernel
theorem dX2_add_47 : decode cX2_add 47 = .ok (.iload_n 2, 1) := by decide +kernel
theorem dX2_add_48 : decode cX2_add 48 = .ok (.iadd, 1) := by decide +kernel
theorem dX2_add_49 : decode cX2_add 49 = .ok (.istore 4, 2) := by decide +kernel
theorem dX2_add_51 : decode cX2_add 51 = .ok (.iload 4, 2) := by decide +kernel
theorem dX2_add_53 : decode cX2_add 53 = .ok (.ifCond .ne 11, 3) := by decide +kernel
theorem dX2_add_56 : decode cX2_add 56 = .ok (.aload_n 0, 1) := by decide +kernel
theorem dX2_add_57 : decode cX2_add 57 = .ok (.iload_n 3, 1) := by decide +kernel
theorem dX2_add_58 : decode cX2_add 58 = .ok (.invokevirtual 34, 3) := by decide +kernel
theorem dX2_add_61 : decode cX2_add 61 = .ok (.goto 13, 3) := by decide +kernel
theorem dX2_add_64 : decode cX2_add 64 = .ok (.aload_n 0, 1) := by decide +kernel
theorem dX2_add_65 : decode cX2_add 65 = .ok (.getfield 15, 3) := by decide +kernel
theorem dX2_add_68 : decode cX2_add 68 = .ok (.iload_n 3, 1) := by decide +kernel
theorem dX2_add_69 : decode cX2_add 69 = .ok (.iload 4, 2) := by decide +kernel
theorem dX2_add_71 : decode cX2_add 71 = .ok (.invokestatic 38, 3) := by decide +kernel
theorem dX2_add_74 : decode cX2_add 74 = .ok (.return_, 1) := by decide +kernel
theorem dX2_placeOf_0 : decode cX2_placeOf 0 = .ok (.iconst 0, 1) := by decide +kernel
theorem dX2_placeOf_1 : decode cX2_placeOf 1 = .ok (.istore_n 2, 1) := by decide +kernel
theorem dX2_placeOf_2 : decode cX2_placeOf 2 = .ok (.aload_n 0, 1) := by decide +kernel
theorem dX2_placeOf_3 : decode cX2_placeOf 3 = .ok (.getfield 22, 3) := by decide +kernel
theorem dX2_placeOf_6 : decode cX2_placeOf 6 = .ok (.istore_n 3, 1) := by decide +kernel
theorem dX2_placeOf_7 : decode cX2_placeOf 7 = .ok (.iconst 0, 1) := by decide +kernel
theorem dX2_placeOf_8 : decode cX2_placeOf 8 = .ok (.istore 4, 2) := by decide +kernel
theorem dX2_placeOf_10 : decode cX2_placeOf 10 = .ok (.iload 4, 2) := by decide +kernel
theorem dX2_placeOf_12 : decode cX2_placeOf 12 = .ok (.bipush 8, 2) := by decide +kernel
theorem dX2_placeOf_14 : decode cX2_placeOf 14 = .ok (.if_icmp .ge 45, 3) := by decide +kernel
theorem dX2_placeOf_17 : decode cX2_placeOf 17 = .ok (.iload_n 2, 1) := by decide +kernel
theorem dX2_placeOf_18 : decode cX2_placeOf 18 = .ok (.iload_n 3, 1) := by decide +kernel
theorem dX2_placeOf_19 : decode cX2_placeOf 19 = .ok (.if_icmp .ge 40, 3) := by decide +kernel
theorem dX2_placeOf_22 : decode cX2_placeOf 22 = .ok (.iload_n 2, 1) := by decide +kernel
theorem dX2_placeOf_23 : decode cX2_placeOf 23 = .ok (.iload_n 3, 1) := by decide +kernel
theorem dX2_placeOf_24 : decode cX2_placeOf 24 = .ok (.iadd, 1) := by decide +kernel
theorem dX2_placeOf_25 : decode cX2_placeOf 25 = .ok (.iconst 1, 1) := by decide +kernel
theorem dX2_placeOf_26 : decode cX2_placeOf 26 = .ok (.iushr, 1) := by decide +kernel
theorem dX2_placeOf_27 : decode cX2_placeOf 27 = .ok (.istore 5, 2) := by decide +kernel
theorem dX2_placeOf_29 : decode cX2_placeOf 29 = .ok (.aload_n 0, 1) := by decide +kernel
theorem dX2_placeOf_30 : decode cX2_placeOf 30 = .ok (.getfield 11, 3) := by decide +kernel
theorem dX2_placeOf_33 : decode cX2_placeOf 33 = .ok (.iload 5, 2) := by decide +kernel
theorem dX2_placeOf_35 : decode cX2_placeOf 35 = .ok (.invokestatic 26, 3) := by decide +kernel
theorem dX2_placeOf_38 : decode cX2_placeOf 38 = .ok (.iload_n 1, 1) := by decide +kernel
theorem dX2_placeOf_39 : decode cX2_placeOf 39 = .ok (.if_icmp .le 11, 3) := by decide +kernel
theorem dX2_placeOf_42 : decode cX2_placeOf 42 = .ok (.iload 5, 2) := by decide +kernel
theorem dX2_placeOf_44 : decode cX2_placeOf 44 = .ok (.iconst 1, 1) := by decide +kernel
theorem dX2_placeOf_45 : decode cX2_placeOf 45 = .ok (.iadd, 1) := by decide +kernel
theorem dX2_placeOf_46 : decode cX2_placeOf 46 = .ok (.istore_n 2, 1) := by decide +kernel
theorem dX2_placeOf_47 : decode cX2_placeOf 47 = .ok (.goto 6, 3) := by decide +kernel
theorem dX2_placeOf_50 : decode cX2_placeOf 50 = .ok (.iload 5, 2) := by decide +kernel
theorem dX2_placeOf_52 : decode cX2_placeOf 52 = .ok (.istore_n 3, 1) := by decide +kernel
theorem dX2_placeOf_53 : decode cX2_placeOf 53 = .ok (.iinc 4 1, 3) := by decide +kernel
theorem dX2_placeOf_56 : decode cX2_placeOf 56 = .ok (.goto (-46), 3) := by decide +kernel
theorem dX2_placeOf_59 : decode cX2_placeOf 59 = .ok (.iload_n 2, 1) := by decide +kernel
theorem dX2_placeOf_60 : decode cX2_placeOf 60 = .ok (.ireturn, 1) := by decide +kernel
theorem dX2_insert_0 : decode cX2_insert 0 = .ok (.iload_n 1, 1) := by decide +kernel
theorem dX2_insert_1 : decode cX2_insert 1 = .ok (.ifCond .lt 21, 3) := by decide +kernel
theorem dX2_insert_4 : decode cX2_insert 4 = .ok (.iload_n 1, 1) := by decide +kernel
theorem dX2_insert_5 : decode cX2_insert 5 = .ok (.aload_n 0, 1) := by decide +kernel
theorem dX2_insert_6 : decode cX2_insert 6 = .ok (.getfield 22, 3) := by decide +kernel
theorem dX2_insert_9 : decode cX2_insert 9 = .ok (.if_icmp .gt 13, 3) := by decide +kernel
theorem dX2_insert_12 : decode cX2_insert 12 = .ok (.aload_n 0, 1) := by decide +kernel
theorem dX2_insert_13 : decode cX2_insert 13 = .ok (.getfield 22, 3) := by decide +kernel
theorem dX2_insert_16 : decode cX2_insert 16 = .ok (.sipush 160, 3) := by decide +kernel
theorem dX2_insert_19 : decode cX2_insert 19 = .ok (.if_icmp .lt 4, 3) := by decide +kernel
theorem dX2_insert_22 : decode cX2_insert 22 = .ok (.return_, 1) := by decide +kernel
theorem dX2_insert_23 : decode cX2_insert 23 = .ok (.aload_n 0, 1) := by decide +kernel
theorem dX2_insert_24 : decode cX2_insert 24 = .ok (.getfield 11, 3) := by decide +kernel
theorem dX2_insert_27 : decode cX2_insert 27 = .ok (.iload_n 1, 1) := by decide +kernel
theorem dX2_insert_28 : decode cX2_insert 28 = .ok (.aload_n 0, 1) := by decide +kernel
theorem dX2_insert_29 : decode cX2_insert 29 = .ok (.getfield 11, 3) := by decide +kernel
theorem dX2_insert_32 : decode cX2_insert 32 = .ok (.iload_n 1, 1) := by decide +kernel
theorem dX2_insert_33 : decode cX2_insert 33 = .ok (.iconst 1, 1) := by decide +kernel
theorem dX2_insert_34 : decode cX2_insert 34 = .ok (.iadd, 1) := by decide +kernel
theorem dX2_insert_35 : decode cX2_insert 35 = .ok (.aload_n 0, 1) := by decide +kernel
theorem dX2_insert_36 : decode cX2_insert 36 = .ok (.getfield 22, 3) := by decide +kernel
theorem dX2_insert_39 : decode cX2_insert 39 = .ok (.iload_n 1, 1) := by decide +kernel
theorem dX2_insert_40 : decode cX2_insert 40 = .ok (.isub, 1) := by decide +kernel
theorem dX2_insert_41 : decode cX2_insert 41 = .ok (.invokestatic 42, 3) := by decide +kernel
theorem dX2_insert_44 : decode cX2_insert 44 = .ok (.aload_n 0, 1) := by decide +kernel
theorem dX2_insert_45 : decode cX2_insert 45 = .ok (.getfield 15, 3) := by decide +kernel
theorem dX2_insert_48 : decode cX2_insert 48 = .ok (.iload_n 1, 1) := by decide +kernel
theorem dX2_insert_49 : decode cX2_insert 49 = .ok (.aload_n 0, 1) := by decide +kernel
theorem dX2_insert_50 : decode cX2_insert 50 = .ok (.getfield 15, 3) := by decide +kernel
theorem dX2_insert_53 : decode cX2_insert 53 = .ok (.iload_n 1, 1) := by decide +kernel
theorem dX2_insert_54 : decode cX2_insert 54 = .ok (.iconst 1, 1) := by decide +kernel
theorem dX2_insert_55 : decode cX2_insert 55 = .ok (.iadd, 1) := by decide +kernel
theorem dX2_insert_56 : decode cX2_insert 56 = .ok (.aload_n 0, 1) := by decide +kernel
theorem dX2_insert_57 : decode cX2_insert 57 = .ok (.getfield 22, 3) := by decide +kernel
theorem dX2_insert_60 : decode cX2_insert 60 = .ok (.iload_n 1, 1) := by decide +kernel
theorem dX2_insert_61 : decode cX2_insert 61 = .ok (.isub, 1) := by decide +kernel
theorem dX2_insert_62 : decode cX2_insert 62 = .ok (.invokestatic 42, 3) := by decide +kernel
theorem dX2_insert_65 : decode cX2_insert 65 = .ok (.aload_n 0, 1) := by decide +kernel
theorem dX2_insert_66 : decode cX2_insert 66 = .ok (.getfield 11, 3) := by decide +kernel
theorem dX2_insert_69 : decode cX2_insert 69 = .ok (.iload_n 1, 1) := by decide +kernel
theorem dX2_insert_70 : decode cX2_insert 70 = .ok (.iload_n 2, 1) := by decide +kernel
theorem dX2_insert_71 : decode cX2_insert 71 = .ok (.invokestatic 38, 3) := by decide +kernel
theorem dX2_insert_74 : decode cX2_insert 74 = .ok (.aload_n 0, 1) := by decide +kernel
theorem dX2_insert_75 : decode cX2_insert 75 = .ok (.getfield 15, 3) := by decide +kernel
theorem dX2_insert_78 : decode cX2_insert 78 = .ok (.iload_n 1, 1) := by decide +kernel
theorem dX2_insert_79 : decode cX2_insert 79 = .ok (.iload_n 3, 1) := by decide +kernel
theorem dX2_insert_80 : decode cX2_insert 80 = .ok (.invokestatic 38, 3) := by decide +kernel
theorem dX2_insert_83 : decode cX2_insert 83 = .ok (.aload_n 0, 1) := by decide +kernel
theorem dX2_insert_84 : decode cX2_insert 84 = .ok (.dup, 1) := by decide +kernel
theorem dX2_insert_85 : decode cX2_insert 85 = .ok (.getfield 22, 3) := by decide +kernel
theorem dX2_insert_88 : decode cX2_insert 88 = .ok (.iconst 1, 1) := by decide +kernel
theorem dX2_insert_89 : decode cX2_insert 89 = .ok (.iadd, 1) := by decide +kernel
theorem dX2_insert_90 : decode cX2_insert 90 = .ok (.putfield 22, 3) := by decide +kernel
theorem dX2_insert_93 : decode cX2_insert 93 = .ok (.return_, 1) := by decide +kernel
theorem dX2_remove_0 : decode cX2_remove 0 = .ok (.iload_n 1, 1) := by decide +kernel
theorem dX2_remove_1 : decode cX2_remove 1 = .ok (.ifCond .lt 21, 3) := by decide +kernel
theorem dX2_remove_4 : decode cX2_remove 4 = .ok (.iload_n 1, 1) := by decide +kernel
theorem dX2_remove_5 : decode cX2_remove 5 = .ok (.aload_n 0, 1) := by decide +kernel
theorem dX2_remove_6 : decode cX2_remove 6 = .ok (.getfield 22, 3) := by decide +kernel
theorem dX2_remove_9 : decode cX2_remove 9 = .ok (.if_icmp .ge 13, 3) := by decide +kernel
theorem dX2_remove_12 : decode cX2_remove 12 = .ok (.aload_n 0, 1) := by decide +kernel
theorem dX2_remove_13 : decode cX2_remove 13 = .ok (.getfield 22, 3) := by decide +kernel
theorem dX2_remove_16 : decode cX2_remove 16 = .ok (.sipush 160, 3) := by decide +kernel
theorem dX2_remove_19 : decode cX2_remove 19 = .ok (.if_icmp .le 4, 3) := by decide +kernel
theorem dX2_remove_22 : decode cX2_remove 22 = .ok (.return_, 1) := by decide +kernel
theorem dX2_remove_23 : decode cX2_remove 23 = .ok (.aload_n 0, 1) := by decide +kernel
theorem dX2_remove_24 : decode cX2_remove 24 = .ok (.getfield 22, 3) := by decide +kernel
theorem dX2_remove_27 : decode cX2_remove 27 = .ok (.iload_n 1, 1) := by decide +kernel
theorem dX2_remove_28 : decode cX2_remove 28 = .ok (.isub, 1) := by decide +kernel
theorem dX2_remove_29 : decode cX2_remove 29 = .ok (.iconst 1, 1) := by decide +kernel
theorem dX2_remove_30 : decode cX2_remove 30 = .ok (.isub, 1) := by decide +kernel
theorem dX2_remove_31 : decode cX2_remove 31 = .ok (.istore_n 2, 1) := by decide +kernel
theorem dX2_remove_32 : decode cX2_remove 32 = .ok (.aload_n 0, 1) := by decide +kernel
theorem dX2_remove_33 : decode cX2_remove 33 = .ok (.getfield 11, 3) := by decide +kernel
theorem dX2_remove_36 : decode cX2_remove 36 = .ok (.iload_n 1, 1) := by decide +kernel
theorem dX2_remove_37 : decode cX2_remove 37 = .ok (.iconst 1, 1) := by decide +kernel
theorem dX2_remove_38 : decode cX2_remove 38 = .ok (.iadd, 1) := by decide +kernel
theorem dX2_remove_39 : decode cX2_remove 39 = .ok (.aload_n 0, 1) := by decide +kernel
theorem dX2_remove_40 : decode cX2_remove 40 = .ok (.getfield 11, 3) := by decide +kernel
theorem dX2_remove_43 : decode cX2_remove 43 = .ok (.iload_n 1, 1) := by decide +kernel
theorem dX2_remove_44 : decode cX2_remove 44 = .ok (.iload_n 2, 1) := by decide +kernel
theorem dX2_remove_45 : decode cX2_remove 45 = .ok (.invokestatic 42, 3) := by decide +kernel
theorem dX2_remove_48 : decode cX2_remove 48 = .ok (.aload_n 0, 1) := by decide +kernel
theorem dX2_remove_49 : decode cX2_remove 49 = .ok (.getfield 15, 3) := by decide +kernel
theorem dX2_remove_52 : decode cX2_remove 52 = .ok (.iload_n 1, 1) := by decide +kernel
theorem dX2_remove_53 : decode cX2_remove 53 = .ok (.iconst 1, 1) := by decide +kernel
theorem dX2_remove_54 : decode cX2_remove 54 = .ok (.iadd, 1) := by decide +kernel
theorem dX2_remove_55 : decode cX2_remove 55 = .ok (.aload_n 0, 1) := by decide +kernel
theorem dX2_remove_56 : decode cX2_remove 56 = .ok (.getfield 15, 3) := by decide +kernel
theorem dX2_remove_59 : decode cX2_remove 59 = .ok (.iload_n 1, 1) := by decide +kernel
theorem dX2_remove_60 : decode cX2_remove 60 = .ok (.iload_n 2, 1) := by decide +kernel
theorem dX2_remove_61 : decode cX2_remove 61 = .ok (.invokestatic 42, 3) := by decide +kernel
theorem dX2_remove_64 : decode cX2_remove 64 = .ok (.aload_n 0, 1) := by decide +kernel
theorem dX2_remove_65 : decode cX2_remove 65 = .ok (.dup, 1) := by decide +kernel
theorem dX2_remove_66 : decode cX2_remove 66 = .ok (.getfield 22, 3) := by decide +kernel
theorem dX2_remove_69 : decode cX2_remove 69 = .ok (.iconst 1, 1) := by decide +kernel
theorem dX2_remove_70 : decode cX2_remove 70 = .ok (.isub, 1) := by decide +kernel
theorem dX2_remove_71 : decode cX2_remove 71 = .ok (.putfield 22, 3) := by decide +kernel
theorem dX2_remove_74 : decode cX2_remove 74 = .ok (.return_, 1) := by decide +kernel
theorem dX3_init_0 : decode cX3_init 0 = .ok (.aload_n 0, 1) := by decide +kernel
theorem dX3_init_1 : decode cX3_init 1 = .ok (.invokespecial 3, 3) := by decide +kernel
theorem dX3_init_4 : decode cX3_init 4 = .ok (.aload_n 0, 1) := by decide +kernel
theorem dX3_init_5 : decode cX3_init 5 = .ok (.new 9, 3) := by decide +kernel
theorem dX3_init_8 : decode cX3_init 8 = .ok (.dup, 1) := by decide +kernel
theorem dX3_init_9 : decode cX3_init 9 = .ok (.invokespecial 11, 3) := by decide +kernel
theorem dX3_init_12 : decode cX3_init 12 = .ok (.putfield 12, 3) := by decide +kernel
theorem dX3_init_15 : decode cX3_init 15 = .ok (.return_, 1) := by decide +kernel
theorem dX3_faultOf_0 : decode cX3_faultOf 0 = .ok (.aload_n 0, 1) := by decide +kernel
theorem dX3_faultOf_1 : decode cX3_faultOf 1 = .ok (.iconst 0, 1) := by decide +kernel
theorem dX3_faultOf_2 : decode cX3_faultOf 2 = .ok (.putfield 18, 3) := by decide +kernel
theorem dX3_faultOf_5 : decode cX3_faultOf 5 = .ok (.aload_n 0, 1) := by decide +kernel
theorem dX3_faultOf_6 : decode cX3_faultOf 6 = .ok (.invokevirtual 22, 3) := by decide +kernel
theorem dX3_faultOf_9 : decode cX3_faultOf 9 = .ok (.aload_n 0, 1) := by decide +kernel
theorem dX3_faultOf_10 : decode cX3_faultOf 10 = .ok (.aload_n 1, 1) := by decide +kernel
theorem dX3_faultOf_11 : decode cX3_faultOf 11 = .ok (.invokevirtual 25, 3) := by decide +kernel
theorem dX3_faultOf_14 : decode cX3_faultOf 14 = .ok (.ifCond .eq 31, 3) := by decide +kernel
theorem dX3_faultOf_17 : decode cX3_faultOf 17 = .ok (.aload_n 0, 1) := by decide +kernel
theorem dX3_faultOf_18 : decode cX3_faultOf 18 = .ok (.aload_n 1, 1) := by decide +kernel
theorem dX3_faultOf_19 : decode cX3_faultOf 19 = .ok (.invokevirtual 29, 3) := by decide +kernel
theorem dX3_faultOf_22 : decode cX3_faultOf 22 = .ok (.ifCond .eq 23, 3) := by decide +kernel
theorem dX3_faultOf_25 : decode cX3_faultOf 25 = .ok (.aload_n 0, 1) := by decide +kernel
theorem dX3_faultOf_26 : decode cX3_faultOf 26 = .ok (.aload_n 1, 1) := by decide +kernel
theorem dX3_faultOf_27 : decode cX3_faultOf 27 = .ok (.invokevirtual 32, 3) := by decide +kernel
theorem dX3_faultOf_30 : decode cX3_faultOf 30 = .ok (.ifCond .eq 15, 3) := by decide +kernel
theorem dX3_faultOf_33 : decode cX3_faultOf 33 = .ok (.aload_n 0, 1) := by decide +kernel
theorem dX3_faultOf_34 : decode cX3_faultOf 34 = .ok (.aload_n 1, 1) := by decide +kernel
theorem dX3_faultOf_35 : decode cX3_faultOf 35 = .ok (.invokevirtual 35, 3) := by decide +kernel
theorem dX3_faultOf_38 : decode cX3_faultOf 38 = .ok (.ifCond .eq 7, 3) := by decide +kernel
theorem dX3_faultOf_41 : decode cX3_faultOf 41 = .ok (.iconst 1, 1) := by decide +kernel
theorem dX3_faultOf_42 : decode cX3_faultOf 42 = .ok (.goto 4, 3) := by decide +kernel
theorem dX3_faultOf_45 : decode cX3_faultOf 45 = .ok (.iconst 0, 1) := by decide +kernel
theorem dX3_faultOf_46 : decode cX3_faultOf 46 = .ok (.istore_n 2, 1) := by decide +kernel
theorem dX3_faultOf_47 : decode cX3_faultOf 47 = .ok (.iload_n 2, 1) := by decide +kernel
theorem dX3_faultOf_48 : decode cX3_faultOf 48 = .ok (.ifCond .eq 14, 3) := by decide +kernel
theorem dX3_faultOf_51 : decode cX3_faultOf 51 = .ok (.aload_n 0, 1) := by decide +kernel
theorem dX3_faultOf_52 : decode cX3_faultOf 52 = .ok (.getfield 38, 3) := by decide +kernel
theorem dX3_faultOf_55 : decode cX3_faultOf 55 = .ok (.ifCond .ne 7, 3) := by decide +kernel
theorem dX3_faultOf_58 : decode cX3_faultOf 58 = .ok (.iconst (-1), 1) := by decide +kernel
theorem dX3_faultOf_59 : decode cX3_faultOf 59 = .ok (.goto 7, 3) := by decide +kernel
theorem dX3_faultOf_62 : decode cX3_faultOf 62 = .ok (.aload_n 0, 1) := by decide +kernel
theorem dX3_faultOf_63 : decode cX3_faultOf 63 = .ok (.getfield 41, 3) := by decide +kernel
theorem dX3_faultOf_66 : decode cX3_faultOf 66 = .ok (.ireturn, 1) := by decide +kernel
theorem dX3_readInputs_0 : decode cX3_readInputs 0 = .ok (.aload_n 0, 1) := by decide +kernel
theorem dX3_readInputs_1 : decode cX3_readInputs 1 = .ok (.ldc 44, 2) := by decide +kernel
theorem dX3_readInputs_3 : decode cX3_readInputs 3 = .ok (.invokevirtual 46, 3) := by decide +kernel
theorem dX3_readInputs_6 : decode cX3_readInputs 6 = .ok (.ifCond .ne 5, 3) := by decide +kernel
theorem dX3_readInputs_9 : decode cX3_readInputs 9 = .ok (.iconst 0, 1) := by decide +kernel
theorem dX3_readInputs_10 : decode cX3_readInputs 10 = .ok (.ireturn, 1) := by decide +kernel
theorem dX3_readInputs_11 : decode cX3_readInputs 11 = .ok (.aload_n 0, 1) := by decide +kernel
theorem dX3_readInputs_12 : decode cX3_readInputs 12 = .ok (.iconst 1, 1) := by decide +kernel
theorem dX3_readInputs_13 : decode cX3_readInputs 13 = .ok (.bipush 6, 2) := by decide +kernel
theorem dX3_readInputs_15 : decode cX3_readInputs 15 = .ok (.invokevirtual 50, 3) := by decide +kernel
theorem dX3_readInputs_18 : decode cX3_readInputs 18 = .ok (.istore_n 2, 1) := by decide +kernel
theorem dX3_readInputs_19 : decode cX3_readInputs 19 = .ok (.iload_n 2, 1) := by decide +kernel
theorem dX3_readInputs_20 : decode cX3_readInputs 20 = .ok (.iconst (-1), 1) := by decide +kernel
theorem dX3_readInputs_21 : decode cX3_readInputs 21 = .ok (.if_icmp .ne 5, 3) := by decide +kernel
theorem dX3_readInputs_24 : decode cX3_readInputs 24 = .ok (.iconst 0, 1) := by decide +kernel
theorem dX3_readInputs_25 : decode cX3_readInputs 25 = .ok (.ireturn, 1) := by decide +kernel
theorem dX3_readInputs_26 : decode cX3_readInputs 26 = .ok (.aload_n 1, 1) := by decide +kernel
theorem dX3_readInputs_27 : decode cX3_readInputs 27 = .ok (.iload_n 2, 1) := by decide +kernel
theorem dX3_readInputs_28 : decode cX3_readInputs 28 = .ok (.invokevirtual 54, 3) := by decide +kernel
theorem dX3_readInputs_31 : decode cX3_readInputs 31 = .ok (.aload_n 0, 1) := by decide +kernel
theorem dX3_readInputs_32 : decode cX3_readInputs 32 = .ok (.invokevirtual 60, 3) := by decide +kernel
theorem dX3_readInputs_35 : decode cX3_readInputs 35 = .ok (.ireturn, 1) := by decide +kernel
theorem dX3_readGates_0 : decode cX3_readGates 0 = .ok (.iconst 0, 1) := by decide +kernel
theorem dX3_readGates_1 : decode cX3_readGates 1 = .ok (.istore_n 2, 1) := by decide +kernel
theorem dX3_readGates_2 : decode cX3_readGates 2 = .ok (.iload_n 2, 1) := by decide +kernel
theorem dX3_readGates_3 : decode cX3_readGates 3 = .ok (.bipush 12, 2) := by decide +kernel
theorem dX3_readGates_5 : decode cX3_readGates 5 = .ok (.if_icmp .ge 28, 3) := by decide +kernel
theorem dX3_readGates_8 : decode cX3_readGates 8 = .ok (.aload_n 0, 1) := by decide +kernel
theorem dX3_readGates_9 : decode cX3_readGates 9 = .ok (.ldc 64, 2) := by decide +kernel
theorem dX3_readGates_11 : decode cX3_readGates 11 = .ok (.invokevirtual 46, 3) := by decide +kernel
theorem dX3_readGates_14 : decode cX3_readGates 14 = .ok (.ifCond .eq 19, 3) := by decide +kernel
theorem dX3_readGates_17 : decode cX3_readGates 17 = .ok (.aload_n 0, 1) := by decide +kernel
theorem dX3_readGates_18 : decode cX3_readGates 18 = .ok (.aload_n 1, 1) := by decide +kernel
theorem dX3_readGates_19 : decode cX3_readGates 19 = .ok (.invokevirtual 66, 3) := by decide +kernel
theorem dX3_readGates_22 : decode cX3_readGates 22 = .ok (.ifCond .ne 5, 3) := by decide +kernel
theorem dX3_readGates_25 : decode cX3_readGates 25 = .ok (.iconst 0, 1) := by decide +kernel
theorem dX3_readGates_26 : decode cX3_readGates 26 = .ok (.ireturn, 1) := by decide +kernel
theorem dX3_readGates_27 : decode cX3_readGates 27 = .ok (.iinc 2 1, 3) := by decide +kernel
theorem dX3_readGates_30 : decode cX3_readGates 30 = .ok (.goto (-28), 3) := by decide +kernel
theorem dX3_readGates_33 : decode cX3_readGates 33 = .ok (.iconst 1, 1) := by decide +kernel
theorem dX3_readGates_34 : decode cX3_readGates 34 = .ok (.ireturn, 1) := by decide +kernel
theorem dX3_readGate_0 : decode cX3_readGate 0 = .ok (.aload_n 0, 1) := by decide +kernel
theorem dX3_readGate_1 : decode cX3_readGate 1 = .ok (.invokevirtual 69, 3) := by decide +kernel
theorem dX3_readGate_4 : decode cX3_readGate 4 = .ok (.istore_n 2, 1) := by decide +kernel
theorem dX3_readGate_5 : decode cX3_readGate 5 = .ok (.iload_n 2, 1) := by decide +kernel
theorem dX3_readGate_6 : decode cX3_readGate 6 = .ok (.iconst (-1), 1) := by decide +kernel
theorem dX3_readGate_7 : decode cX3_readGate 7 = .ok (.if_icmp .ne 5, 3) := by decide +kernel
theorem dX3_readGate_10 : decode cX3_readGate 10 = .ok (.iconst 0, 1) := by decide +kernel
theorem dX3_readGate_11 : decode cX3_readGate 11 = .ok (.ireturn, 1) := by decide +kernel
theorem dX3_readGate_12 : decode cX3_readGate 12 = .ok (.aload_n 0, 1) := by decide +kernel
theorem dX3_readGate_13 : decode cX3_readGate 13 = .ok (.invokevirtual 22, 3) := by decide +kernel
theorem dX3_readGate_16 : decode cX3_readGate 16 = .ok (.aload_n 1, 1) := by decide +kernel
theorem dX3_readGate_17 : decode cX3_readGate 17 = .ok (.invokevirtual 73, 3) := by decide +kernel
theorem dX3_readGate_20 : decode cX3_readGate 20 = .ok (.iconst 1, 1) := by decide +kernel
theorem dX3_readGate_21 : decode cX3_readGate 21 = .ok (.isub, 1) := by decide +kernel
theorem dX3_readGate_22 : decode cX3_readGate 22 = .ok (.istore_n 3, 1) := by decide +kernel
theorem dX3_readGate_23 : decode cX3_readGate 23 = .ok (.aload_n 0, 1) := by decide +kernel
theorem dX3_readGate_24 : decode cX3_readGate 24 = .ok (.iconst 0, 1) := by decide +kernel
theorem dX3_readGate_25 : decode cX3_readGate 25 = .ok (.iload_n 3, 1) := by decide +kernel
theorem dX3_readGate_26 : decode cX3_readGate 26 = .ok (.invokevirtual 50, 3) := by decide +kernel
theorem dX3_readGate_29 : decode cX3_readGate 29 = .ok (.istore 4, 2) := by decide +kernel
theorem dX3_readGate_31 : decode cX3_readGate 31 = .ok (.iload 4, 2) := by decide +kernel
theorem dX3_readGate_33 : decode cX3_readGate 33 = .ok (.iconst (-1), 1) := by decide +kernel
theorem dX3_readGate_34 : decode cX3_readGate 34 = .ok (.if_icmp .ne 5, 3) := by decide +kernel
theorem dX3_readGate_37 : decode cX3_readGate 37 = .ok (.iconst 0, 1) := by decide +kernel
theorem dX3_readGate_38 : decode cX3_readGate 38 = .ok (.ireturn, 1) := by decide +kernel
theorem dX3_readGate_39 : decode cX3_readGate 39 = .ok (.iload_n 2, 1) := by decide +kernel
theorem dX3_readGate_40 : decode cX3_readGate 40 = .ok (.ifCond .ne 7, 3) := by decide +kernel
theorem dX3_readGate_43 : decode cX3_readGate 43 = .ok (.iconst (-1), 1) := by decide +kernel
theorem dX3_readGate_44 : decode cX3_readGate 44 = .ok (.goto 9, 3) := by decide +kernel
theorem dX3_readGate_47 : decode cX3_readGate 47 = .ok (.aload_n 0, 1) := by decide +kernel
theorem dX3_readGate_48 : decode cX3_readGate 48 = .ok (.iconst 0, 1) := by decide +kernel
theorem dX3_readGate_49 : decode cX3_readGate 49 = .ok (.iload_n 3, 1) := by decide +kernel
theorem dX3_readGate_50 : decode cX3_readGate 50 = .ok (.invokevirtual 50, 3) := by decide +kernel
theorem dX3_readGate_53 : decode cX3_readGate 53 = .ok (.istore 5, 2) := by decide +kernel
theorem dX3_readGate_55 : decode cX3_readGate 55 = .ok (.iload_n 2, 1) := by decide +kernel
theorem dX3_readGate_56 : decode cX3_readGate 56 = .ok (.ifCond .eq 11, 3) := by decide +kernel
theorem dX3_readGate_59 : decode cX3_readGate 59 = .ok (.iload 5, 2) := by decide +kernel
theorem dX3_readGate_61 : decode cX3_readGate 61 = .ok (.iconst (-1), 1) := by decide +kernel
theorem dX3_readGate_62 : decode cX3_readGate 62 = .ok (.if_icmp .ne 5, 3) := by decide +kernel
theorem dX3_readGate_65 : decode cX3_readGate 65 = .ok (.iconst 0, 1) := by decide +kernel
theorem dX3_readGate_66 : decode cX3_readGate 66 = .ok (.ireturn, 1) := by decide +kernel
theorem dX3_readGate_67 : decode cX3_readGate 67 = .ok (.aload_n 1, 1) := by decide +kernel
theorem dX3_readGate_68 : decode cX3_readGate 68 = .ok (.iload_n 2, 1) := by decide +kernel
theorem dX3_readGate_69 : decode cX3_readGate 69 = .ok (.iload 4, 2) := by decide +kernel
theorem dX3_readGate_71 : decode cX3_readGate 71 = .ok (.iload 5, 2) := by decide +kernel
theorem dX3_readGate_73 : decode cX3_readGate 73 = .ok (.invokevirtual 76, 3) := by decide +kernel
theorem dX3_readGate_76 : decode cX3_readGate 76 = .ok (.pop, 1) := by decide +kernel
theorem dX3_readGate_77 : decode cX3_readGate 77 = .ok (.aload_n 0, 1) := by decide +kernel
theorem dX3_readGate_78 : decode cX3_readGate 78 = .ok (.invokevirtual 60, 3) := by decide +kernel
theorem dX3_readGate_81 : decode cX3_readGate 81 = .ok (.ireturn, 1) := by decide +kernel
theorem dX3_readOutputs_0 : decode cX3_readOutputs 0 = .ok (.aload_n 0, 1) := by decide +kernel
theorem dX3_readOutputs_1 : decode cX3_readOutputs 1 = .ok (.ldc 80, 2) := by decide +kernel
theorem dX3_readOutputs_3 : decode cX3_readOutputs 3 = .ok (.invokevirtual 46, 3) := by decide +kernel
theorem dX3_readOutputs_6 : decode cX3_readOutputs 6 = .ok (.ifCond .ne 5, 3) := by decide +kernel
theorem dX3_readOutputs_9 : decode cX3_readOutputs 9 = .ok (.iconst 0, 1) := by decide +kernel
theorem dX3_readOutputs_10 : decode cX3_readOutputs 10 = .ok (.ireturn, 1) := by decide +kernel
theorem dX3_readOutputs_11 : decode cX3_readOutputs 11 = .ok (.aload_n 1, 1) := by decide +kernel
theorem dX3_readOutputs_12 : decode cX3_readOutputs 12 = .ok (.invokevirtual 73, 3) := by decide +kernel
theorem dX3_readOutputs_15 : decode cX3_readOutputs 15 = .ok (.iconst 1, 1) := by decide +kernel
theorem dX3_readOutputs_16 : decode cX3_readOutputs 16 = .ok (.isub, 1) := by decide +kernel
theorem dX3_readOutputs_17 : decode cX3_readOutputs 17 = .ok (.istore_n 2, 1) := by decide +kernel
theorem dX3_readOutputs_18 : decode cX3_readOutputs 18 = .ok (.iconst 0, 1) := by decide +kernel
theorem dX3_readOutputs_19 : decode cX3_readOutputs 19 = .ok (.istore_n 3, 1) := by decide +kernel
theorem dX3_readOutputs_20 : decode cX3_readOutputs 20 = .ok (.iload_n 3, 1) := by decide +kernel
theorem dX3_readOutputs_21 : decode cX3_readOutputs 21 = .ok (.bipush 7, 2) := by decide +kernel
theorem dX3_readOutputs_23 : decode cX3_readOutputs 23 = .ok (.if_icmp .ge 43, 3) := by decide +kernel
theorem dX3_readOutputs_26 : decode cX3_readOutputs 26 = .ok (.iload_n 3, 1) := by decide +kernel
theorem dX3_readOutputs_27 : decode cX3_readOutputs 27 = .ok (.ifCond .eq 11, 3) := by decide +kernel
theorem dX3_readOutputs_30 : decode cX3_readOutputs 30 = .ok (.aload_n 0, 1) := by decide +kernel
theorem dX3_readOutputs_31 : decode cX3_readOutputs 31 = .ok (.getfield 38, 3) := by decide +kernel
theorem dX3_readOutputs_34 : decode cX3_readOutputs 34 = .ok (.iconst 2, 1) := by decide +kernel
theorem dX3_readOutputs_35 : decode cX3_readOutputs 35 = .ok (.if_icmp .ne 31, 3) := by decide +kernel
theorem dX3_readOutputs_38 : decode cX3_readOutputs 38 = .ok (.aload_n 0, 1) := by decide +kernel
theorem dX3_readOutputs_39 : decode cX3_readOutputs 39 = .ok (.iconst 0, 1) := by decide +kernel
theorem dX3_readOutputs_40 : decode cX3_readOutputs 40 = .ok (.iload_n 2, 1) := by decide +kernel
theorem dX3_readOutputs_41 : decode cX3_readOutputs 41 = .ok (.invokevirtual 50, 3) := by decide +kernel
theorem dX3_readOutputs_44 : decode cX3_readOutputs 44 = .ok (.istore 4, 2) := by decide +kernel
theorem dX3_readOutputs_46 : decode cX3_readOutputs 46 = .ok (.iload 4, 2) := by decide +kernel
theorem dX3_readOutputs_48 : decode cX3_readOutputs 48 = .ok (.iconst (-1), 1) := by decide +kernel
theorem dX3_readOutputs_49 : decode cX3_readOutputs 49 = .ok (.if_icmp .ne 5, 3) := by decide +kernel
theorem dX3_readOutputs_52 : decode cX3_readOutputs 52 = .ok (.iconst 0, 1) := by decide +kernel
theorem dX3_readOutputs_53 : decode cX3_readOutputs 53 = .ok (.ireturn, 1) := by decide +kernel
theorem dX3_readOutputs_54 : decode cX3_readOutputs 54 = .ok (.aload_n 1, 1) := by decide +kernel
theorem dX3_readOutputs_55 : decode cX3_readOutputs 55 = .ok (.iload 4, 2) := by decide +kernel
theorem dX3_readOutputs_57 : decode cX3_readOutputs 57 = .ok (.invokevirtual 82, 3) := by decide +kernel
theorem dX3_readOutputs_60 : decode cX3_readOutputs 60 = .ok (.iinc 3 1, 3) := by decide +kernel
theorem dX3_readOutputs_63 : decode cX3_readOutputs 63 = .ok (.goto (-43), 3) := by decide +kernel
theorem dX3_readOutputs_66 : decode cX3_readOutputs 66 = .ok (.aload_n 0, 1) := by decide +kernel
theorem dX3_readOutputs_67 : decode cX3_readOutputs 67 = .ok (.invokevirtual 60, 3) := by decide +kernel
theorem dX3_readOutputs_70 : decode cX3_readOutputs 70 = .ok (.ireturn, 1) := by decide +kernel
theorem dX3_readTask_0 : decode cX3_readTask 0 = .ok (.aload_n 0, 1) := by decide +kernel
theorem dX3_readTask_1 : decode cX3_readTask 1 = .ok (.ldc 85, 2) := by decide +kernel
theorem dX3_readTask_3 : decode cX3_readTask 3 = .ok (.invokevirtual 46, 3) := by decide +kernel
theorem dX3_readTask_6 : decode cX3_readTask 6 = .ok (.ifCond .ne 5, 3) := by decide +kernel
theorem dX3_readTask_9 : decode cX3_readTask 9 = .ok (.iconst 0, 1) := by decide +kernel
theorem dX3_readTask_10 : decode cX3_readTask 10 = .ok (.ireturn, 1) := by decide +kernel
theorem dX3_readTask_11 : decode cX3_readTask 11 = .ok (.aload_n 0, 1) := by decide +kernel
theorem dX3_readTask_12 : decode cX3_readTask 12 = .ok (.invokevirtual 87, 3) := by decide +kernel
theorem dX3_readTask_15 : decode cX3_readTask 15 = .ok (.istore_n 2, 1) := by decide +kernel
theorem dX3_readTask_16 : decode cX3_readTask 16 = .ok (.iload_n 2, 1) := by decide +kernel
theorem dX3_readTask_17 : decode cX3_readTask 17 = .ok (.iconst (-1), 1) := by decide +kernel
theorem dX3_readTask_18 : decode cX3_readTask 18 = .ok (.if_icmp .ne 5, 3) := by decide +kernel
theorem dX3_readTask_21 : decode cX3_readTask 21 = .ok (.iconst 0, 1) := by decide +kernel
theorem dX3_readTask_22 : decode cX3_readTask 22 = .ok (.ireturn, 1) := by decide +kernel
theorem dX3_readTask_23 : decode cX3_readTask 23 = .ok (.aload_n 0, 1) := by decide +kernel
theorem dX3_readTask_24 : decode cX3_readTask 24 = .ok (.invokevirtual 22, 3) := by decide +kernel
theorem dX3_readTask_27 : decode cX3_readTask 27 = .ok (.aload_n 0, 1) := by decide +kernel
theorem dX3_readTask_28 : decode cX3_readTask 28 = .ok (.iconst 1, 1) := by decide +kernel
theorem dX3_readTask_29 : decode cX3_readTask 29 = .ok (.aload_n 1, 1) := by decide +kernel
theorem dX3_readTask_30 : decode cX3_readTask 30 = .ok (.getfield 90, 3) := by decide +kernel
theorem dX3_readTask_33 : decode cX3_readTask 33 = .ok (.invokevirtual 50, 3) := by decide +kernel
theorem dX3_readTask_36 : decode cX3_readTask 36 = .ok (.istore_n 3, 1) := by decide +kernel
theorem dX3_readTask_37 : decode cX3_readTask 37 = .ok (.iload_n 3, 1) := by decide +kernel
theorem dX3_readTask_38 : decode cX3_readTask 38 = .ok (.iconst (-1), 1) := by decide +kernel
theorem dX3_readTask_39 : decode cX3_readTask 39 = .ok (.if_icmp .ne 5, 3) := by decide +kernel
theorem dX3_readTask_42 : decode cX3_readTask 42 = .ok (.iconst 0, 1) := by decide +kernel
theorem dX3_readTask_43 : decode cX3_readTask 43 = .ok (.ireturn, 1) := by decide +kernel
theorem dX3_readTask_44 : decode cX3_readTask 44 = .ok (.aload_n 0, 1) := by decide +kernel
theorem dX3_readTask_45 : decode cX3_readTask 45 = .ok (.iconst 0, 1) := by decide +kernel
theorem dX3_readTask_46 : decode cX3_readTask 46 = .ok (.aload_n 1, 1) := by decide +kernel
theorem dX3_readTask_47 : decode cX3_readTask 47 = .ok (.getfield 90, 3) := by decide +kernel
theorem dX3_readTask_50 : decode cX3_readTask 50 = .ok (.iload_n 3, 1) := by decide +kernel
theorem dX3_readTask_51 : decode cX3_readTask 51 = .ok (.isub, 1) := by decide +kernel
theorem dX3_readTask_52 : decode cX3_readTask 52 = .ok (.invokevirtual 50, 3) := by decide +kernel
theorem dX3_readTask_55 : decode cX3_readTask 55 = .ok (.istore 4, 2) := by decide +kernel
theorem dX3_readTask_57 : decode cX3_readTask 57 = .ok (.iload 4, 2) := by decide +kernel
theorem dX3_readTask_59 : decode cX3_readTask 59 = .ok (.iconst (-1), 1) := by decide +kernel
theorem dX3_readTask_60 : decode cX3_readTask 60 = .ok (.if_icmp .ne 5, 3) := by decide +kernel
theorem dX3_readTask_63 : decode cX3_readTask 63 = .ok (.iconst 0, 1) := by decide +kernel
theorem dX3_readTask_64 : decode cX3_readTask 64 = .ok (.ireturn, 1) := by decide +kernel
theorem dX3_readTask_65 : decode cX3_readTask 65 = .ok (.aload_n 1, 1) := by decide +kernel
theorem dX3_readTask_66 : decode cX3_readTask 66 = .ok (.iload_n 2, 1) := by decide +kernel
theorem dX3_readTask_67 : decode cX3_readTask 67 = .ok (.iload_n 3, 1) := by decide +kernel
theorem dX3_readTask_68 : decode cX3_readTask 68 = .ok (.iload 4, 2) := by decide +kernel
theorem dX3_readTask_70 : decode cX3_readTask 70 = .ok (.invokevirtual 93, 3) := by decide +kernel
theorem dX3_readTask_73 : decode cX3_readTask 73 = .ok (.aload_n 0, 1) := by decide +kernel
theorem dX3_readTask_74 : decode cX3_readTask 74 = .ok (.invokevirtual 60, 3) := by decide +kernel
theorem dX3_readTask_77 : decode cX3_readTask 77 = .ok (.ireturn, 1) := by decide +kernel
theorem dX3_gateKind_0 : decode cX3_gateKind 0 = .ok (.iconst 0, 1) := by decide +kernel
theorem dX3_gateKind_1 : decode cX3_gateKind 1 = .ok (.istore_n 1, 1) := by decide +kernel
theorem dX3_gateKind_2 : decode cX3_gateKind 2 = .ok (.iload_n 1, 1) := by decide +kernel
theorem dX3_gateKind_3 : decode cX3_gateKind 3 = .ok (.bipush 8, 2) := by decide +kernel
theorem dX3_gateKind_5 : decode cX3_gateKind 5 = .ok (.if_icmp .ge 22, 3) := by decide +kernel
theorem dX3_gateKind_8 : decode cX3_gateKind 8 = .ok (.aload_n 0, 1) := by decide +kernel
theorem dX3_gateKind_9 : decode cX3_gateKind 9 = .ok (.iload_n 1, 1) := by decide +kernel
theorem dX3_gateKind_10 : decode cX3_gateKind 10 = .ok (.invokestatic 97, 3) := by decide +kernel
theorem dX3_gateKind_13 : decode cX3_gateKind 13 = .ok (.invokevirtual 101, 3) := by decide +kernel
theorem dX3_gateKind_16 : decode cX3_gateKind 16 = .ok (.ifCond .eq 5, 3) := by decide +kernel
theorem dX3_gateKind_19 : decode cX3_gateKind 19 = .ok (.iload_n 1, 1) := by decide +kernel
theorem dX3_gateKind_20 : decode cX3_gateKind 20 = .ok (.ireturn, 1) := by decide +kernel
theorem dX3_gateKind_21 : decode cX3_gateKind 21 = .ok (.iinc 1 1, 3) := by decide +kernel
theorem dX3_gateKind_24 : decode cX3_gateKind 24 = .ok (.goto (-22), 3) := by decide +kernel
theorem dX3_gateKind_27 : decode cX3_gateKind 27 = .ok (.iconst (-1), 1) := by decide +kernel
theorem dX3_gateKind_28 : decode cX3_gateKind 28 = .ok (.ireturn, 1) := by decide +kernel
theorem dX3_taskKind_0 : decode cX3_taskKind 0 = .ok (.iconst 0, 1) := by decide +kernel
theorem dX3_taskKind_1 : decode cX3_taskKind 1 = .ok (.istore_n 1, 1) := by decide +kernel
theorem dX3_taskKind_2 : decode cX3_taskKind 2 = .ok (.iload_n 1, 1) := by decide +kernel
theorem dX3_taskKind_3 : decode cX3_taskKind 3 = .ok (.iconst 4, 1) := by decide +kernel
theorem dX3_taskKind_4 : decode cX3_taskKind 4 = .ok (.if_icmp .ge 22, 3) := by decide +kernel
theorem dX3_taskKind_7 : decode cX3_taskKind 7 = .ok (.aload_n 0, 1) := by decide +kernel
theorem dX3_taskKind_8 : decode cX3_taskKind 8 = .ok (.iload_n 1, 1) := by decide +kernel
theorem dX3_taskKind_9 : decode cX3_taskKind 9 = .ok (.invokestatic 104, 3) := by decide +kernel
theorem dX3_taskKind_12 : decode cX3_taskKind 12 = .ok (.invokevirtual 101, 3) := by decide +kernel
theorem dX3_taskKind_15 : decode cX3_taskKind 15 = .ok (.ifCond .eq 5, 3) := by decide +kernel
theorem dX3_taskKind_18 : decode cX3_taskKind 18 = .ok (.iload_n 1, 1) := by decide +kernel
theorem dX3_taskKind_19 : decode cX3_taskKind 19 = .ok (.ireturn, 1) := by decide +kernel
theorem dX3_taskKind_20 : decode cX3_taskKind 20 = .ok (.iinc 1 1, 3) := by decide +kernel
theorem dX3_taskKind_23 : decode cX3_taskKind 23 = .ok (.goto (-21), 3) := by decide +kernel
theorem dX3_taskKind_26 : decode cX3_taskKind 26 = .ok (.iconst (-1), 1) := by decide +kernel
theorem dX3_taskKind_27 : decode cX3_taskKind 27 = .ok (.ireturn, 1) := by decide +kernel
theorem dX3_gateWord_0 : decode cX3_gateWord 0 = .ok (.iload_n 0, 1) := by decide +kernel
theorem dX3_gateWord_1 : decode cX3_gateWord 1 = .ok (.tableswitch 64 0 6 #[43, 46, 49, 52, 55, 58, 61], 43) := by decide +kernel
theorem dX3_gateWord_44 : decode cX3_gateWord 44 = .ok (.ldc 107, 2) := by decide +kernel
theorem dX3_gateWord_46 : decode cX3_gateWord 46 = .ok (.areturn, 1) := by decide +kernel
theorem dX3_gateWord_47 : decode cX3_gateWord 47 = .ok (.ldc 109, 2) := by decide +kernel
theorem dX3_gateWord_49 : decode cX3_gateWord 49 = .ok (.areturn, 1) := by decide +kernel
theorem dX3_gateWord_50 : decode cX3_gateWord 50 = .ok (.ldc 111, 2) := by decide +kernel
theorem dX3_gateWord_52 : decode cX3_gateWord 52 = .ok (.areturn, 1) := by decide +kernel
theorem dX3_gateWord_53 : decode cX3_gateWord 53 = .ok (.ldc 113, 2) := by decide +kernel
theorem dX3_gateWord_55 : decode cX3_gateWord 55 = .ok (.areturn, 1) := by decide +kernel
theorem dX3_gateWord_56 : decode cX3_gateWord 56 = .ok (.ldc 115, 2) := by decide +kernel
theorem dX3_gateWord_58 : decode cX3_gateWord 58 = .ok (.areturn, 1) := by decide +kernel
theorem dX3_gateWord_59 : decode cX3_gateWord 59 = .ok (.ldc 117, 2) := by decide +kernel
theorem dX3_gateWord_61 : decode cX3_gateWord 61 = .ok (.areturn, 1) := by decide +kernel
theorem dX3_gateWord_62 : decode cX3_gateWord 62 = .ok (.ldc 119, 2) := by decide +kernel
theorem dX3_gateWord_64 : decode cX3_gateWord 64 = .ok (.areturn, 1) := by decide +kernel
theorem dX3_gateWord_65 : decode cX3_gateWord 65 = .ok (.ldc 121, 2) := by decide +kernel
theorem dX3_gateWord_67 : decode cX3_gateWord 67 = .ok (.areturn, 1) := by decide +kernel
theorem dX3_taskWord_0 : decode cX3_taskWord 0 = .ok (.iload_n 0, 1) := by decide +kernel
theorem dX3_taskWord_1 : decode cX3_taskWord 1 = .ok (.tableswitch 36 0 2 #[27, 30, 33], 27) := by decide +kernel
theorem dX3_taskWord_28 : decode cX3_taskWord 28 = .ok (.ldc 123, 2) := by decide +kernel
theorem dX3_taskWord_30 : decode cX3_taskWord 30 = .ok (.areturn, 1) := by decide +kernel
theorem dX3_taskWord_31 : decode cX3_taskWord 31 = .ok (.ldc 125, 2) := by decide +kernel
theorem dX3_taskWord_33 : decode cX3_taskWord 33 = .ok (.areturn, 1) := by decide +kernel
theorem dX3_taskWord_34 : decode cX3_taskWord 34 = .ok (.ldc 127, 2) := by decide +kernel
theorem dX3_taskWord_36 : decode cX3_taskWord 36 = .ok (.areturn, 1) := by decide +kernel
theorem dX3_taskWord_37 : decode cX3_taskWord 37 = .ok (.ldc 129, 2) := by decide +kernel
theorem dX3_taskWord_39 : decode cX3_taskWord 39 = .ok (.areturn, 1) := by decide +kernel
theorem dX3_isWord_0 : decode cX3_isWord 0 = .ok (.aload_n 0, 1) := by decide +kernel
theorem dX3_isWord_1 : decode cX3_isWord 1 = .ok (.getfield 38, 3) := by decide +kernel
theorem dX3_isWord_4 : decode cX3_isWord 4 = .ok (.iconst 1, 1) := by decide +kernel
theorem dX3_isWord_5 : decode cX3_isWord 5 = .ok (.if_icmp .ne 19, 3) := by decide +kernel
theorem dX3_isWord_8 : decode cX3_isWord 8 = .ok (.aload_n 0, 1) := by decide +kernel
theorem dX3_isWord_9 : decode cX3_isWord 9 = .ok (.getfield 18, 3) := by decide +kernel
theorem dX3_isWord_12 : decode cX3_isWord 12 = .ok (.aload_n 0, 1) := by decide +kernel
theorem dX3_isWord_13 : decode cX3_isWord 13 = .ok (.getfield 41, 3) := by decide +kernel
theorem dX3_isWord_16 : decode cX3_isWord 16 = .ok (.isub, 1) := by decide +kernel
theorem dX3_isWord_17 : decode cX3_isWord 17 = .ok (.aload_n 1, 1) := by decide +kernel
theorem dX3_isWord_18 : decode cX3_isWord 18 = .ok (.invokevirtual 131, 3) := by decide +kernel
theorem dX3_isWord_21 : decode cX3_isWord 21 = .ok (.if_icmp .eq 5, 3) := by decide +kernel
theorem dX3_isWord_24 : decode cX3_isWord 24 = .ok (.iconst 0, 1) := by decide +kernel
theorem dX3_isWord_25 : decode cX3_isWord 25 = .ok (.ireturn, 1) := by decide +kernel
theorem dX3_isWord_26 : decode cX3_isWord 26 = .ok (.iconst 0, 1) := by decide +kernel
theorem dX3_isWord_27 : decode cX3_isWord 27 = .ok (.istore_n 2, 1) := by decide +kernel
theorem dX3_isWord_28 : decode cX3_isWord 28 = .ok (.iload_n 2, 1) := by decide +kernel
theorem dX3_isWord_29 : decode cX3_isWord 29 = .ok (.aload_n 1, 1) := by decide +kernel
theorem dX3_isWord_30 : decode cX3_isWord 30 = .ok (.invokevirtual 131, 3) := by decide +kernel
theorem dX3_isWord_33 : decode cX3_isWord 33 = .ok (.if_icmp .ge 32, 3) := by decide +kernel
theorem dX3_isWord_36 : decode cX3_isWord 36 = .ok (.aload_n 0, 1) := by decide +kernel
theorem dX3_isWord_37 : decode cX3_isWord 37 = .ok (.getfield 12, 3) := by decide +kernel
theorem dX3_isWord_40 : decode cX3_isWord 40 = .ok (.aload_n 0, 1) := by decide +kernel
theorem dX3_isWord_41 : decode cX3_isWord 41 = .ok (.getfield 41, 3) := by decide +kernel
theorem dX3_isWord_44 : decode cX3_isWord 44 = .ok (.iload_n 2, 1) := by decide +kernel
theorem dX3_isWord_45 : decode cX3_isWord 45 = .ok (.iadd, 1) := by decide +kernel
theorem dX3_isWord_46 : decode cX3_isWord 46 = .ok (.invokevirtual 136, 3) := by decide +kernel
theorem dX3_isWord_49 : decode cX3_isWord 49 = .ok (.aload_n 1, 1) := by decide +kernel
theorem dX3_isWord_50 : decode cX3_isWord 50 = .ok (.iload_n 2, 1) := by decide +kernel
theorem dX3_isWord_51 : decode cX3_isWord 51 = .ok (.invokevirtual 140, 3) := by decide +kernel
theorem dX3_isWord_54 : decode cX3_isWord 54 = .ok (.if_icmp .eq 5, 3) := by decide +kernel
theorem dX3_isWord_57 : decode cX3_isWord 57 = .ok (.iconst 0, 1) := by decide +kernel
theorem dX3_isWord_58 : decode cX3_isWord 58 = .ok (.ireturn, 1) := by decide +kernel
theorem dX3_isWord_59 : decode cX3_isWord 59 = .ok (.iinc 2 1, 3) := by decide +kernel
theorem dX3_isWord_62 : decode cX3_isWord 62 = .ok (.goto (-34), 3) := by decide +kernel
theorem dX3_isWord_65 : decode cX3_isWord 65 = .ok (.iconst 1, 1) := by decide +kernel
theorem dX3_isWord_66 : decode cX3_isWord 66 = .ok (.ireturn, 1) := by decide +kernel
theorem dX3_takeWord_0 : decode cX3_takeWord 0 = .ok (.aload_n 0, 1) := by decide +kernel
theorem dX3_takeWord_1 : decode cX3_takeWord 1 = .ok (.aload_n 1, 1) := by decide +kernel
theorem dX3_takeWord_2 : decode cX3_takeWord 2 = .ok (.invokevirtual 101, 3) := by decide +kernel
theorem dX3_takeWord_5 : decode cX3_takeWord 5 = .ok (.ifCond .ne 5, 3) := by decide +kernel
theorem dX3_takeWord_8 : decode cX3_takeWord 8 = .ok (.iconst 0, 1) := by decide +kernel
theorem dX3_takeWord_9 : decode cX3_takeWord 9 = .ok (.ireturn, 1) := by decide +kernel
theorem dX3_takeWord_10 : decode cX3_takeWord 10 = .ok (.aload_n 0, 1) := by decide +kernel
theorem dX3_takeWord_11 : decode cX3_takeWord 11 = .ok (.invokevirtual 22, 3) := by decide +kernel
theorem dX3_takeWord_14 : decode cX3_takeWord 14 = .ok (.iconst 1, 1) := by decide +kernel
theorem dX3_takeWord_15 : decode cX3_takeWord 15 = .ok (.ireturn, 1) := by decide +kernel
theorem dX3_takeNumber_0 : decode cX3_takeNumber 0 = .ok (.aload_n 0, 1) := by decide +kernel
theorem dX3_takeNumber_1 : decode cX3_takeNumber 1 = .ok (.getfield 38, 3) := by decide +kernel
theorem dX3_takeNumber_4 : decode cX3_takeNumber 4 = .ok (.iconst 2, 1) := by decide +kernel
theorem dX3_takeNumber_5 : decode cX3_takeNumber 5 = .ok (.if_icmp .ne 16, 3) := by decide +kernel
theorem dX3_takeNumber_8 : decode cX3_takeNumber 8 = .ok (.aload_n 0, 1) := by decide +kernel
theorem dX3_takeNumber_9 : decode cX3_takeNumber 9 = .ok (.getfield 18, 3) := by decide +kernel
theorem dX3_takeNumber_12 : decode cX3_takeNumber 12 = .ok (.aload_n 0, 1) := by decide +kernel
theorem dX3_takeNumber_13 : decode cX3_takeNumber 13 = .ok (.getfield 41, 3) := by decide +kernel
theorem dX3_takeNumber_16 : decode cX3_takeNumber 16 = .ok (.isub, 1) := by decide +kernel
theorem dX3_takeNumber_17 : decode cX3_takeNumber 17 = .ok (.iconst 2, 1) := by decide +kernel
theorem dX3_takeNumber_18 : decode cX3_takeNumber 18 = .ok (.if_icmp .le 5, 3) := by decide +kernel
theorem dX3_takeNumber_21 : decode cX3_takeNumber 21 = .ok (.iconst (-1), 1) := by decide +kernel
theorem dX3_takeNumber_22 : decode cX3_takeNumber 22 = .ok (.ireturn, 1) := by decide +kernel
theorem dX3_takeNumber_23 : decode cX3_takeNumber 23 = .ok (.iconst 0, 1) := by decide +kernel
theorem dX3_takeNumber_24 : decode cX3_takeNumber 24 = .ok (.istore_n 3, 1) := by decide +kernel
theorem dX3_takeNumber_25 : decode cX3_takeNumber 25 = .ok (.aload_n 0, 1) := by decide +kernel
theorem dX3_takeNumber_26 : decode cX3_takeNumber 26 = .ok (.getfield 41, 3) := by decide +kernel
theorem dX3_takeNumber_29 : decode cX3_takeNumber 29 = .ok (.istore 4, 2) := by decide +kernel
theorem dX3_takeNumber_31 : decode cX3_takeNumber 31 = .ok (.iload 4, 2) := by decide +kernel
theorem dX3_takeNumber_33 : decode cX3_takeNumber 33 = .ok (.aload_n 0, 1) := by decide +kernel
theorem dX3_takeNumber_34 : decode cX3_takeNumber 34 = .ok (.getfield 18, 3) := by decide +kernel
theorem dX3_takeNumber_37 : decode cX3_takeNumber 37 = .ok (.if_icmp .ge 27, 3) := by decide +kernel
theorem dX3_takeNumber_40 : decode cX3_takeNumber 40 = .ok (.bipush 10, 2) := by decide +kernel
theorem dX3_takeNumber_42 : decode cX3_takeNumber 42 = .ok (.iload_n 3, 1) := by decide +kernel
theorem dX3_takeNumber_43 : decode cX3_takeNumber 43 = .ok (.imul, 1) := by decide +kernel
theorem dX3_takeNumber_44 : decode cX3_takeNumber 44 = .ok (.aload_n 0, 1) := by decide +kernel
theorem dX3_takeNumber_45 : decode cX3_takeNumber 45 = .ok (.getfield 12, 3) := by decide +kernel
theorem dX3_takeNumber_48 : decode cX3_takeNumber 48 = .ok (.iload 4, 2) := by decide +kernel
theorem dX3_takeNumber_50 : decode cX3_takeNumber 50 = .ok (.invokevirtual 136, 3) := by decide +kernel
theorem dX3_takeNumber_53 : decode cX3_takeNumber 53 = .ok (.iadd, 1) := by decide +kernel
theorem dX3_takeNumber_54 : decode cX3_takeNumber 54 = .ok (.bipush 48, 2) := by decide +kernel
theorem dX3_takeNumber_56 : decode cX3_takeNumber 56 = .ok (.isub, 1) := by decide +kernel
theorem dX3_takeNumber_57 : decode cX3_takeNumber 57 = .ok (.istore_n 3, 1) := by decide +kernel
theorem dX3_takeNumber_58 : decode cX3_takeNumber 58 = .ok (.iinc 4 1, 3) := by decide +kernel
theorem dX3_takeNumber_61 : decode cX3_takeNumber 61 = .ok (.goto (-30), 3) := by decide +kernel
theorem dX3_takeNumber_64 : decode cX3_takeNumber 64 = .ok (.iload_n 3, 1) := by decide +kernel
theorem dX3_takeNumber_65 : decode cX3_takeNumber 65 = .ok (.iload_n 1, 1) := by decide +kernel
theorem dX3_takeNumber_66 : decode cX3_takeNumber 66 = .ok (.if_icmp .lt 8, 3) := by decide +kernel
theorem dX3_takeNumber_69 : decode cX3_takeNumber 69 = .ok (.iload_n 3, 1) := by decide +kernel
theorem dX3_takeNumber_70 : decode cX3_takeNumber 70 = .ok (.iload_n 2, 1) := by decide +kernel
theorem dX3_takeNumber_71 : decode cX3_takeNumber 71 = .ok (.if_icmp .le 5, 3) := by decide +kernel
theorem dX3_takeNumber_74 : decode cX3_takeNumber 74 = .ok (.iconst (-1), 1) := by decide +kernel
theorem dX3_takeNumber_75 : decode cX3_takeNumber 75 = .ok (.ireturn, 1) := by decide +kernel
theorem dX3_takeNumber_76 : decode cX3_takeNumber 76 = .ok (.aload_n 0, 1) := by decide +kernel
theorem dX3_takeNumber_77 : decode cX3_takeNumber 77 = .ok (.invokevirtual 22, 3) := by decide +kernel
theorem dX3_takeNumber_80 : decode cX3_takeNumber 80 = .ok (.iload_n 3, 1) := by decide +kernel
theorem dX3_takeNumber_81 : decode cX3_takeNumber 81 = .ok (.ireturn, 1) := by decide +kernel
theorem dX3_takeSemicolon_0 : decode cX3_takeSemicolon 0 = .ok (.aload_n 0, 1) := by decide +kernel
theorem dX3_takeSemicolon_1 : decode cX3_takeSemicolon 1 = .ok (.getfield 38, 3) := by decide +kernel
theorem dX3_takeSemicolon_4 : decode cX3_takeSemicolon 4 = .ok (.iconst 3, 1) := by decide +kernel
theorem dX3_takeSemicolon_5 : decode cX3_takeSemicolon 5 = .ok (.if_icmp .ne 19, 3) := by decide +kernel
theorem dX3_takeSemicolon_8 : decode cX3_takeSemicolon 8 = .ok (.aload_n 0, 1) := by decide +kernel
theorem dX3_takeSemicolon_9 : decode cX3_takeSemicolon 9 = .ok (.getfield 12, 3) := by decide +kernel
theorem dX3_takeSemicolon_12 : decode cX3_takeSemicolon 12 = .ok (.aload_n 0, 1) := by decide +kernel
theorem dX3_takeSemicolon_13 : decode cX3_takeSemicolon 13 = .ok (.getfield 41, 3) := by decide +kernel
theorem dX3_takeSemicolon_16 : decode cX3_takeSemicolon 16 = .ok (.invokevirtual 136, 3) := by decide +kernel
theorem dX3_takeSemicolon_19 : decode cX3_takeSemicolon 19 = .ok (.bipush 59, 2) := by decide +kernel
theorem dX3_takeSemicolon_21 : decode cX3_takeSemicolon 21 = .ok (.if_icmp .eq 5, 3) := by decide +kernel
theorem dX3_takeSemicolon_24 : decode cX3_takeSemicolon 24 = .ok (.iconst 0, 1) := by decide +kernel
theorem dX3_takeSemicolon_25 : decode cX3_takeSemicolon 25 = .ok (.ireturn, 1) := by decide +kernel
theorem dX3_takeSemicolon_26 : decode cX3_takeSemicolon 26 = .ok (.aload_n 0, 1) := by decide +kernel
theorem dX3_takeSemicolon_27 : decode cX3_takeSemicolon 27 = .ok (.invokevirtual 22, 3) := by decide +kernel
theorem dX3_takeSemicolon_30 : decode cX3_takeSemicolon 30 = .ok (.iconst 1, 1) := by decide +kernel
theorem dX3_takeSemicolon_31 : decode cX3_takeSemicolon 31 = .ok (.ireturn, 1) := by decide +kernel
theorem dX3_advance_0 : decode cX3_advance 0 = .ok (.aload_n 0, 1) := by decide +kernel
theorem dX3_advance_1 : decode cX3_advance 1 = .ok (.aload_n 0, 1) := by decide +kernel
theorem dX3_advance_2 : decode cX3_advance 2 = .ok (.getfield 18, 3) := by decide +kernel
theorem dX3_advance_5 : decode cX3_advance 5 = .ok (.putfield 41, 3) := by decide +kernel
theorem dX3_advance_8 : decode cX3_advance 8 = .ok (.aload_n 0, 1) := by decide +kernel
theorem dX3_advance_9 : decode cX3_advance 9 = .ok (.getfield 41, 3) := by decide +kernel
theorem dX3_advance_12 : decode cX3_advance 12 = .ok (.aload_n 0, 1) := by decide +kernel
theorem dX3_advance_13 : decode cX3_advance 13 = .ok (.getfield 12, 3) := by decide +kernel
theorem dX3_advance_16 : decode cX3_advance 16 = .ok (.getfield 144, 3) := by decide +kernel
theorem dX3_advance_19 : decode cX3_advance 19 = .ok (.if_icmp .ge 32, 3) := by decide +kernel
theorem dX3_advance_22 : decode cX3_advance 22 = .ok (.aload_n 0, 1) := by decide +kernel
theorem dX3_advance_23 : decode cX3_advance 23 = .ok (.getfield 12, 3) := by decide +kernel
theorem dX3_advance_26 : decode cX3_advance 26 = .ok (.aload_n 0, 1) := by decide +kernel
theorem dX3_advance_27 : decode cX3_advance 27 = .ok (.getfield 41, 3) := by decide +kernel
theorem dX3_advance_30 : decode cX3_advance 30 = .ok (.invokevirtual 136, 3) := by decide +kernel
theorem dX3_advance_33 : decode cX3_advance 33 = .ok (.bipush 32, 2) := by decide +kernel
theorem dX3_advance_35 : decode cX3_advance 35 = .ok (.if_icmp .ne 16, 3) := by decide +kernel
theorem dX3_advance_38 : decode cX3_advance 38 = .ok (.aload_n 0, 1) := by decide +kernel
theorem dX3_advance_39 : decode cX3_advance 39 = .ok (.dup, 1) := by decide +kernel
theorem dX3_advance_40 : decode cX3_advance 40 = .ok (.getfield 41, 3) := by decide +kernel
theorem dX3_advance_43 : decode cX3_advance 43 = .ok (.iconst 1, 1) := by decide +kernel
theorem dX3_advance_44 : decode cX3_advance 44 = .ok (.iadd, 1) := by decide +kernel
theorem dX3_advance_45 : decode cX3_advance 45 = .ok (.putfield 41, 3) := by decide +kernel
theorem dX3_advance_48 : decode cX3_advance 48 = .ok (.goto (-40), 3) := by decide +kernel
theorem dX3_advance_51 : decode cX3_advance 51 = .ok (.aload_n 0, 1) := by decide +kernel
theorem dX3_advance_52 : decode cX3_advance 52 = .ok (.aload_n 0, 1) := by decide +kernel
theorem dX3_advance_53 : decode cX3_advance 53 = .ok (.getfield 12, 3) := by decide +kernel
theorem dX3_advance_56 : decode cX3_advance 56 = .ok (.aload_n 0, 1) := by decide +kernel
theorem dX3_advance_57 : decode cX3_advance 57 = .ok (.getfield 41, 3) := by decide +kernel
theorem dX3_advance_60 : decode cX3_advance 60 = .ok (.invokevirtual 136, 3) := by decide +kernel
theorem dX3_advance_63 : decode cX3_advance 63 = .ok (.invokestatic 146, 3) := by decide +kernel
theorem dX3_advance_66 : decode cX3_advance 66 = .ok (.putfield 38, 3) := by decide +kernel
theorem dX3_advance_69 : decode cX3_advance 69 = .ok (.aload_n 0, 1) := by decide +kernel
theorem dX3_advance_70 : decode cX3_advance 70 = .ok (.aload_n 0, 1) := by decide +kernel
theorem dX3_advance_71 : decode cX3_advance 71 = .ok (.getfield 38, 3) := by decide +kernel
theorem dX3_advance_74 : decode cX3_advance 74 = .ok (.ifCond .ne 10, 3) := by decide +kernel
theorem dX3_advance_77 : decode cX3_advance 77 = .ok (.aload_n 0, 1) := by decide +kernel
theorem dX3_advance_78 : decode cX3_advance 78 = .ok (.getfield 41, 3) := by decide +kernel
theorem dX3_advance_81 : decode cX3_advance 81 = .ok (.goto 9, 3) := by decide +kernel
theorem dX3_advance_84 : decode cX3_advance 84 = .ok (.aload_n 0, 1) := by decide +kernel
theorem dX3_advance_85 : decode cX3_advance 85 = .ok (.getfield 41, 3) := by decide +kernel
theorem dX3_advance_88 : decode cX3_advance 88 = .ok (.iconst 1, 1) := by decide +kernel
theorem dX3_advance_89 : decode cX3_advance 89 = .ok (.iadd, 1) := by decide +kernel
theorem dX3_advance_90 : decode cX3_advance 90 = .ok (.putfield 18, 3) := by decide +kernel
theorem dX3_advance_93 : decode cX3_advance 93 = .ok (.aload_n 0, 1) := by decide +kernel
theorem dX3_advance_94 : decode cX3_advance 94 = .ok (.getfield 38, 3) := by decide +kernel
theorem dX3_advance_97 : decode cX3_advance 97 = .ok (.iconst 1, 1) := by decide +kernel
theorem dX3_advance_98 : decode cX3_advance 98 = .ok (.if_icmp .eq 11, 3) := by decide +kernel
theorem dX3_advance_101 : decode cX3_advance 101 = .ok (.aload_n 0, 1) := by decide +kernel
theorem dX3_advance_102 : decode cX3_advance 102 = .ok (.getfield 38, 3) := by decide +kernel
theorem dX3_advance_105 : decode cX3_advance 105 = .ok (.iconst 2, 1) := by decide +kernel
theorem dX3_advance_106 : decode cX3_advance 106 = .ok (.if_icmp .ne 7, 3) := by decide +kernel
theorem dX3_advance_109 : decode cX3_advance 109 = .ok (.iconst 1, 1) := by decide +kernel
theorem dX3_advance_110 : decode cX3_advance 110 = .ok (.goto 4, 3) := by decide +kernel
theorem dX3_advance_113 : decode cX3_advance 113 = .ok (.iconst 0, 1) := by decide +kernel
theorem dX3_advance_114 : decode cX3_advance 114 = .ok (.istore_n 1, 1) := by decide +kernel
theorem dX3_advance_115 : decode cX3_advance 115 = .ok (.iload_n 1, 1) := by decide +kernel
theorem dX3_advance_116 : decode cX3_advance 116 = .ok (.ifCond .eq 51, 3) := by decide +kernel
theorem dX3_advance_119 : decode cX3_advance 119 = .ok (.aload_n 0, 1) := by decide +kernel
theorem dX3_advance_120 : decode cX3_advance 120 = .ok (.getfield 18, 3) := by decide +kernel
theorem dX3_advance_123 : decode cX3_advance 123 = .ok (.aload_n 0, 1) := by decide +kernel
theorem dX3_advance_124 : decode cX3_advance 124 = .ok (.getfield 12, 3) := by decide +kernel
theorem dX3_advance_127 : decode cX3_advance 127 = .ok (.getfield 144, 3) := by decide +kernel
theorem dX3_advance_130 : decode cX3_advance 130 = .ok (.if_icmp .ge 37, 3) := by decide +kernel
theorem dX3_advance_133 : decode cX3_advance 133 = .ok (.aload_n 0, 1) := by decide +kernel
theorem dX3_advance_134 : decode cX3_advance 134 = .ok (.getfield 12, 3) := by decide +kernel
theorem dX3_advance_137 : decode cX3_advance 137 = .ok (.aload_n 0, 1) := by decide +kernel
theorem dX3_advance_138 : decode cX3_advance 138 = .ok (.getfield 18, 3) := by decide +kernel
theorem dX3_advance_141 : decode cX3_advance 141 = .ok (.invokevirtual 136, 3) := by decide +kernel
theorem dX3_advance_144 : decode cX3_advance 144 = .ok (.invokestatic 146, 3) := by decide +kernel
theorem dX3_advance_147 : decode cX3_advance 147 = .ok (.aload_n 0, 1) := by decide +kernel
theorem dX3_advance_148 : decode cX3_advance 148 = .ok (.getfield 38, 3) := by decide +kernel
theorem dX3_advance_151 : decode cX3_advance 151 = .ok (.if_icmp .ne 16, 3) := by decide +kernel
theorem dX3_advance_154 : decode cX3_advance 154 = .ok (.aload_n 0, 1) := by decide +kernel
theorem dX3_advance_155 : decode cX3_advance 155 = .ok (.dup, 1) := by decide +kernel
theorem dX3_advance_156 : decode cX3_advance 156 = .ok (.getfield 18, 3) := by decide +kernel
theorem dX3_advance_159 : decode cX3_advance 159 = .ok (.iconst 1, 1) := by decide +kernel
theorem dX3_advance_160 : decode cX3_advance 160 = .ok (.iadd, 1) := by decide +kernel
theorem dX3_advance_161 : decode cX3_advance 161 = .ok (.putfield 18, 3) := by decide +kernel
theorem dX3_advance_164 : decode cX3_advance 164 = .ok (.goto (-49), 3) := by decide +kernel
theorem dX3_advance_167 : decode cX3_advance 167 = .ok (.return_, 1) := by decide +kernel
theorem dX3_sortOf_0 : decode cX3_sortOf 0 = .ok (.iload_n 0, 1) := by decide +kernel
theorem dX3_sortOf_1 : decode cX3_sortOf 1 = .ok (.iconst (-1), 1) := by decide +kernel
theorem dX3_sortOf_2 : decode cX3_sortOf 2 = .ok (.if_icmp .ne 5, 3) := by decide +kernel
theorem dX3_sortOf_5 : decode cX3_sortOf 5 = .ok (.iconst 0, 1) := by decide +kernel
theorem dX3_sortOf_6 : decode cX3_sortOf 6 = .ok (.ireturn, 1) := by decide +kernel
theorem dX3_sortOf_7 : decode cX3_sortOf 7 = .ok (.iload_n 0, 1) := by decide +kernel
theorem dX3_sortOf_8 : decode cX3_sortOf 8 = .ok (.bipush 48, 2) := by decide +kernel
theorem dX3_sortOf_10 : decode cX3_sortOf 10 = .ok (.if_icmp .lt 11, 3) := by decide +kernel
theorem dX3_sortOf_13 : decode cX3_sortOf 13 = .ok (.iload_n 0, 1) := by decide +kernel
theorem dX3_sortOf_14 : decode cX3_sortOf 14 = .ok (.bipush 57, 2) := by decide +kernel
theorem dX3_sortOf_16 : decode cX3_sortOf 16 = .ok (.if_icmp .gt 5, 3) := by decide +kernel
theorem dX3_sortOf_19 : decode cX3_sortOf 19 = .ok (.iconst 2, 1) := by decide +kernel
theorem dX3_sortOf_20 : decode cX3_sortOf 20 = .ok (.ireturn, 1) := by decide +kernel
theorem dX3_sortOf_21 : decode cX3_sortOf 21 = .ok (.iload_n 0, 1) := by decide +kernel
theorem dX3_sortOf_22 : decode cX3_sortOf 22 = .ok (.bipush 97, 2) := by decide +kernel
theorem dX3_sortOf_24 : decode cX3_sortOf 24 = .ok (.if_icmp .lt 9, 3) := by decide +kernel
theorem dX3_sortOf_27 : decode cX3_sortOf 27 = .ok (.iload_n 0, 1) := by decide +kernel
theorem dX3_sortOf_28 : decode cX3_sortOf 28 = .ok (.bipush 122, 2) := by decide +kernel
theorem dX3_sortOf_30 : decode cX3_sortOf 30 = .ok (.if_icmp .le 15, 3) := by decide +kernel
theorem dX3_sortOf_33 : decode cX3_sortOf 33 = .ok (.iload_n 0, 1) := by decide +kernel
theorem dX3_sortOf_34 : decode cX3_sortOf 34 = .ok (.bipush 65, 2) := by decide +kernel
theorem dX3_sortOf_36 : decode cX3_sortOf 36 = .ok (.if_icmp .lt 13, 3) := by decide +kernel
theorem dX3_sortOf_39 : decode cX3_sortOf 39 = .ok (.iload_n 0, 1) := by decide +kernel
theorem dX3_sortOf_40 : decode cX3_sortOf 40 = .ok (.bipush 90, 2) := by decide +kernel
theorem dX3_sortOf_42 : decode cX3_sortOf 42 = .ok (.if_icmp .gt 7, 3) := by decide +kernel
theorem dX3_sortOf_45 : decode cX3_sortOf 45 = .ok (.iconst 1, 1) := by decide +kernel
theorem dX3_sortOf_46 : decode cX3_sortOf 46 = .ok (.goto 4, 3) := by decide +kernel
theorem dX3_sortOf_49 : decode cX3_sortOf 49 = .ok (.iconst 0, 1) := by decide +kernel
theorem dX3_sortOf_50 : decode cX3_sortOf 50 = .ok (.istore_n 1, 1) := by decide +kernel
theorem dX3_sortOf_51 : decode cX3_sortOf 51 = .ok (.iload_n 1, 1) := by decide +kernel
theorem dX3_sortOf_52 : decode cX3_sortOf 52 = .ok (.ifCond .eq 7, 3) := by decide +kernel
theorem dX3_sortOf_55 : decode cX3_sortOf 55 = .ok (.iconst 1, 1) := by decide +kernel
theorem dX3_sortOf_56 : decode cX3_sortOf 56 = .ok (.goto 4, 3) := by decide +kernel
theorem dX3_sortOf_59 : decode cX3_sortOf 59 = .ok (.iconst 3, 1) := by decide +kernel
theorem dX3_sortOf_60 : decode cX3_sortOf 60 = .ok (.ireturn, 1) := by decide +kernel
theorem dX4_init_0 : decode cX4_init 0 = .ok (.aload_n 0, 1) := by decide +kernel
theorem dX4_init_1 : decode cX4_init 1 = .ok (.invokespecial 3, 3) := by decide +kernel
theorem dX4_init_4 : decode cX4_init 4 = .ok (.aload_n 0, 1) := by decide +kernel
theorem dX4_init_5 : decode cX4_init 5 = .ok (.bipush 13, 2) := by decide +kernel
theorem dX4_init_7 : decode cX4_init 7 = .ok (.newarray .int, 2) := by decide +kernel
theorem dX4_init_9 : decode cX4_init 9 = .ok (.putfield 9, 3) := by decide +kernel
theorem dX4_init_12 : decode cX4_init 12 = .ok (.aload_n 0, 1) := by decide +kernel
theorem dX4_init_13 : decode cX4_init 13 = .ok (.sipush 520, 3) := by decide +kernel
theorem dX4_init_16 : decode cX4_init 16 = .ok (.newarray .int, 2) := by decide +kernel
theorem dX4_init_18 : decode cX4_init 18 = .ok (.putfield 15, 3) := by decide +kernel
theorem dX4_init_21 : decode cX4_init 21 = .ok (.aload_n 0, 1) := by decide +kernel
theorem dX4_init_22 : decode cX4_init 22 = .ok (.sipush 520, 3) := by decide +kernel
theorem dX4_init_25 : decode cX4_init 25 = .ok (.newarray .int, 2) := by decide +kernel
theorem dX4_init_27 : decode cX4_init 27 = .ok (.putfield 18, 3) := by decide +kernel
theorem dX4_init_30 : decode cX4_init 30 = .ok (.aload_n 0, 1) := by decide +kernel
theorem dX4_init_31 : decode cX4_init 31 = .ok (.new 21, 3) := by decide +kernel
theorem dX4_init_34 : decode cX4_init 34 = .ok (.dup, 1) := by decide +kernel
theorem dX4_init_35 : decode cX4_init 35 = .ok (.invokespecial 23, 3) := by decide +kernel
theorem dX4_init_38 : decode cX4_init 38 = .ok (.putfield 24, 3) := by decide +kernel
theorem dX4_init_41 : decode cX4_init 41 = .ok (.return_, 1) := by decide +kernel
theorem dX4_forget_0 : decode cX4_forget 0 = .ok (.aload_n 0, 1) := by decide +kernel
theorem dX4_forget_1 : decode cX4_forget 1 = .ok (.iconst 0, 1) := by decide +kernel
theorem dX4_forget_2 : decode cX4_forget 2 = .ok (.putfield 28, 3) := by decide +kernel
theorem dX4_forget_5 : decode cX4_forget 5 = .ok (.aload_n 0, 1) := by decide +kernel
theorem dX4_forget_6 : decode cX4_forget 6 = .ok (.iconst 0, 1) := by decide +kernel
theorem dX4_forget_7 : decode cX4_forget 7 = .ok (.putfield 32, 3) := by decide +kernel
theorem dX4_forget_10 : decode cX4_forget 10 = .ok (.return_, 1) := by decide +kernel
theorem dX4_reach_0 : decode cX4_reach 0 = .ok (.aload_n 0, 1) := by decide +kernel
theorem dX4_reach_1 : decode cX4_reach 1 = .ok (.getfield 28, 3) := by decide +kernel
theorem dX4_reach_4 : decode cX4_reach 4 = .ok (.istore_n 3, 1) := by decide +kernel
theorem dX4_reach_5 : decode cX4_reach 5 = .ok (.iload_n 3, 1) := by decide +kernel
theorem dX4_reach_6 : decode cX4_reach 6 = .ok (.iload_n 2, 1) := by decide +kernel
theorem dX4_reach_7 : decode cX4_reach 7 = .ok (.if_icmp .gt 69, 3) := by decide +kernel
theorem dX4_reach_10 : decode cX4_reach 10 = .ok (.iload_n 3, 1) := by decide +kernel
theorem dX4_reach_11 : decode cX4_reach 11 = .ok (.aload_n 0, 1) := by decide +kernel
theorem dX4_reach_12 : decode cX4_reach 12 = .ok (.getfield 9, 3) := by decide +kernel
theorem dX4_reach_15 : decode cX4_reach 15 = .ok (.arraylength, 1) := by decide +kernel
theorem dX4_reach_16 : decode cX4_reach 16 = .ok (.if_icmp .ge 60, 3) := by decide +kernel
theorem dX4_reach_19 : decode cX4_reach 19 = .ok (.aload_n 0, 1) := by decide +kernel
theorem dX4_reach_20 : decode cX4_reach 20 = .ok (.getfield 32, 3) := by decide +kernel
theorem dX4_reach_23 : decode cX4_reach 23 = .ok (.ifCond .ne 53, 3) := by decide +kernel
theorem dX4_reach_26 : decode cX4_reach 26 = .ok (.aload_n 0, 1) := by decide +kernel
theorem dX4_reach_27 : decode cX4_reach 27 = .ok (.getfield 24, 3) := by decide +kernel
theorem dX4_reach_30 : decode cX4_reach 30 = .ok (.iconst 0, 1) := by decide +kernel
theorem dX4_reach_31 : decode cX4_reach 31 = .ok (.putfield 36, 3) := by decide +kernel
theorem dX4_reach_34 : decode cX4_reach 34 = .ok (.iload_n 3, 1) := by decide +kernel
theorem dX4_reach_35 : decode cX4_reach 35 = .ok (.ifCond .ne 16, 3) := by decide +kernel
theorem dX4_reach_38 : decode cX4_reach 38 = .ok (.aload_n 0, 1) := by decide +kernel
theorem dX4_reach_39 : decode cX4_reach 39 = .ok (.aload_n 1, 1) := by decide +kernel
theorem dX4_reach_40 : decode cX4_reach 40 = .ok (.invokevirtual 39, 3) := by decide +kernel
theorem dX4_reach_43 : decode cX4_reach 43 = .ok (.aload_n 0, 1) := by decide +kernel
theorem dX4_reach_44 : decode cX4_reach 44 = .ok (.aload_n 1, 1) := by decide +kernel
theorem dX4_reach_45 : decode cX4_reach 45 = .ok (.invokevirtual 43, 3) := by decide +kernel
theorem dX4_reach_48 : decode cX4_reach 48 = .ok (.goto 17, 3) := by decide +kernel
theorem dX4_reach_51 : decode cX4_reach 51 = .ok (.aload_n 0, 1) := by decide +kernel
theorem dX4_reach_52 : decode cX4_reach 52 = .ok (.aload_n 1, 1) := by decide +kernel
theorem dX4_reach_53 : decode cX4_reach 53 = .ok (.iload_n 3, 1) := by decide +kernel
theorem dX4_reach_54 : decode cX4_reach 54 = .ok (.iconst 1, 1) := by decide +kernel
theorem dX4_reach_55 : decode cX4_reach 55 = .ok (.isub, 1) := by decide +kernel
theorem dX4_reach_56 : decode cX4_reach 56 = .ok (.aload_n 1, 1) := by decide +kernel
theorem dX4_reach_57 : decode cX4_reach 57 = .ok (.getfield 46, 3) := by decide +kernel
theorem dX4_reach_60 : decode cX4_reach 60 = .ok (.iload_n 3, 1) := by decide +kernel
theorem dX4_reach_61 : decode cX4_reach 61 = .ok (.isub, 1) := by decide +kernel
theorem dX4_reach_62 : decode cX4_reach 62 = .ok (.invokevirtual 51, 3) := by decide +kernel
theorem dX4_reach_65 : decode cX4_reach 65 = .ok (.aload_n 0, 1) := by decide +kernel
theorem dX4_reach_66 : decode cX4_reach 66 = .ok (.iload_n 3, 1) := by decide +kernel
theorem dX4_reach_67 : decode cX4_reach 67 = .ok (.invokevirtual 55, 3) := by decide +kernel
theorem dX4_reach_70 : decode cX4_reach 70 = .ok (.iinc 3 1, 3) := by decide +kernel
theorem dX4_reach_73 : decode cX4_reach 73 = .ok (.goto (-68), 3) := by decide +kernel
theorem dX4_reach_76 : decode cX4_reach 76 = .ok (.iload_n 2, 1) := by decide +kernel
theorem dX4_reach_77 : decode cX4_reach 77 = .ok (.aload_n 0, 1) := by decide +kernel
theorem dX4_reach_78 : decode cX4_reach 78 = .ok (.getfield 28, 3) := by decide +kernel
theorem dX4_reach_81 : decode cX4_reach 81 = .ok (.if_icmp .ge 7, 3) := by decide +kernel
theorem dX4_reach_84 : decode cX4_reach 84 = .ok (.iconst 1, 1) := by decide +kernel
theorem dX4_reach_85 : decode cX4_reach 85 = .ok (.goto 4, 3) := by decide +kernel
theorem dX4_reach_88 : decode cX4_reach 88 = .ok (.iconst 0, 1) := by decide +kernel
theorem dX4_reach_89 : decode cX4_reach 89 = .ok (.ireturn, 1) := by decide +kernel
theorem dX4_keep_0 : decode cX4_keep 0 = .ok (.aload_n 0, 1) := by decide +kernel
theorem dX4_keep_1 : decode cX4_keep 1 = .ok (.getfield 24, 3) := by decide +kernel
theorem dX4_keep_4 : decode cX4_keep 4 = .ok (.getfield 36, 3) := by decide +kernel
theorem dX4_keep_7 : decode cX4_keep 7 = .ok (.bipush 40, 2) := by decide +kernel
theorem dX4_keep_9 : decode cX4_keep 9 = .ok (.if_icmp .le 9, 3) := by decide +kernel
theorem dX4_keep_12 : decode cX4_keep 12 = .ok (.aload_n 0, 1) := by decide +kernel
theorem dX4_keep_13 : decode cX4_keep 13 = .ok (.iconst 1, 1) := by decide +kernel
theorem dX4_keep_14 : decode cX4_keep 14 = .ok (.putfield 32, 3) := by decide +kernel
theorem dX4_keep_17 : decode cX4_keep 17 = .ok (.return_, 1) := by decide +kernel
theorem dX4_keep_18 : decode cX4_keep 18 = .ok (.aload_n 0, 1) := by decide +kernel
theorem dX4_keep_19 : decode cX4_keep 19 = .ok (.getfield 9, 3) := by decide +kernel
theorem dX4_keep_22 : decode cX4_keep 22 = .ok (.iload_n 1, 1) := by decide +kernel
theorem dX4_keep_23 : decode cX4_keep 23 = .ok (.aload_n 0, 1) := by decide +kernel
theorem dX4_keep_24 : decode cX4_keep 24 = .ok (.getfield 24, 3) := by decide +kernel
theorem dX4_keep_27 : decode cX4_keep 27 = .ok (.getfield 36, 3) := by decide +kernel
theorem dX4_keep_30 : decode cX4_keep 30 = .ok (.invokestatic 59, 3) := by decide +kernel
theorem dX4_keep_33 : decode cX4_keep 33 = .ok (.iconst 0, 1) := by decide +kernel
theorem dX4_keep_34 : decode cX4_keep 34 = .ok (.istore_n 2, 1) := by decide +kernel
theorem dX4_keep_35 : decode cX4_keep 35 = .ok (.iload_n 2, 1) := by decide +kernel
theorem dX4_keep_36 : decode cX4_keep 36 = .ok (.aload_n 0, 1) := by decide +kernel
theorem dX4_keep_37 : decode cX4_keep 37 = .ok (.getfield 24, 3) := by decide +kernel
theorem dX4_keep_40 : decode cX4_keep 40 = .ok (.getfield 36, 3) := by decide +kernel
theorem dX4_keep_43 : decode cX4_keep 43 = .ok (.if_icmp .ge 57, 3) := by decide +kernel
theorem dX4_keep_46 : decode cX4_keep 46 = .ok (.aload_n 0, 1) := by decide +kernel
theorem dX4_keep_47 : decode cX4_keep 47 = .ok (.getfield 15, 3) := by decide +kernel
theorem dX4_keep_50 : decode cX4_keep 50 = .ok (.iload_n 1, 1) := by decide +kernel
theorem dX4_keep_51 : decode cX4_keep 51 = .ok (.bipush 40, 2) := by decide +kernel
theorem dX4_keep_53 : decode cX4_keep 53 = .ok (.imul, 1) := by decide +kernel
theorem dX4_keep_54 : decode cX4_keep 54 = .ok (.iload_n 2, 1) := by decide +kernel
theorem dX4_keep_55 : decode cX4_keep 55 = .ok (.iadd, 1) := by decide +kernel
theorem dX4_keep_56 : decode cX4_keep 56 = .ok (.aload_n 0, 1) := by decide +kernel
theorem dX4_keep_57 : decode cX4_keep 57 = .ok (.getfield 24, 3) := by decide +kernel
theorem dX4_keep_60 : decode cX4_keep 60 = .ok (.getfield 63, 3) := by decide +kernel
theorem dX4_keep_63 : decode cX4_keep 63 = .ok (.iload_n 2, 1) := by decide +kernel
theorem dX4_keep_64 : decode cX4_keep 64 = .ok (.invokestatic 64, 3) := by decide +kernel
theorem dX4_keep_67 : decode cX4_keep 67 = .ok (.invokestatic 59, 3) := by decide +kernel
theorem dX4_keep_70 : decode cX4_keep 70 = .ok (.aload_n 0, 1) := by decide +kernel
theorem dX4_keep_71 : decode cX4_keep 71 = .ok (.getfield 18, 3) := by decide +kernel
theorem dX4_keep_74 : decode cX4_keep 74 = .ok (.iload_n 1, 1) := by decide +kernel
theorem dX4_keep_75 : decode cX4_keep 75 = .ok (.bipush 40, 2) := by decide +kernel
theorem dX4_keep_77 : decode cX4_keep 77 = .ok (.imul, 1) := by decide +kernel
theorem dX4_keep_78 : decode cX4_keep 78 = .ok (.iload_n 2, 1) := by decide +kernel
theorem dX4_keep_79 : decode cX4_keep 79 = .ok (.iadd, 1) := by decide +kernel
theorem dX4_keep_80 : decode cX4_keep 80 = .ok (.aload_n 0, 1) := by decide +kernel
theorem dX4_keep_81 : decode cX4_keep 81 = .ok (.getfield 24, 3) := by decide +kernel
theorem dX4_keep_84 : decode cX4_keep 84 = .ok (.getfield 68, 3) := by decide +kernel
theorem dX4_keep_87 : decode cX4_keep 87 = .ok (.iload_n 2, 1) := by decide +kernel
theorem dX4_keep_88 : decode cX4_keep 88 = .ok (.invokestatic 64, 3) := by decide +kernel
theorem dX4_keep_91 : decode cX4_keep 91 = .ok (.invokestatic 59, 3) := by decide +kernel
theorem dX4_keep_94 : decode cX4_keep 94 = .ok (.iinc 2 1, 3) := by decide +kernel
theorem dX4_keep_97 : decode cX4_keep 97 = .ok (.goto (-62), 3) := by decide +kernel
theorem dX4_keep_100 : decode cX4_keep 100 = .ok (.aload_n 0, 1) := by decide +kernel
theorem dX4_keep_101 : decode cX4_keep 101 = .ok (.iload_n 1, 1) := by decide +kernel
theorem dX4_keep_102 : decode cX4_keep 102 = .ok (.iconst 1, 1) := by decide +kernel
theorem dX4_keep_103 : decode cX4_keep 103 = .ok (.iadd, 1) := by decide +kernel
theorem dX4_keep_104 : decode cX4_keep 104 = .ok (.putfield 28, 3) := by decide +kernel
theorem dX4_keep_107 : decode cX4_keep 107 = .ok (.return_, 1) := by decide +kernel
theorem dX4_addOutputs_0 : decode cX4_addOutputs 0 = .ok (.iconst 0, 1) := by decide +kernel
theorem dX4_addOutputs_1 : decode cX4_addOutputs 1 = .ok (.istore_n 2, 1) := by decide +kernel
theorem dX4_addOutputs_2 : decode cX4_addOutputs 2 = .ok (.iload_n 2, 1) := by decide +kernel
theorem dX4_addOutputs_3 : decode cX4_addOutputs 3 = .ok (.aload_n 1, 1) := by decide +kernel
theorem dX4_addOutputs_4 : decode cX4_addOutputs 4 = .ok (.getfield 69, 3) := by decide +kernel
theorem dX4_addOutputs_7 : decode cX4_addOutputs 7 = .ok (.if_icmp .ge 27, 3) := by decide +kernel
theorem dX4_addOutputs_10 : decode cX4_addOutputs 10 = .ok (.aload_n 0, 1) := by decide +kernel
theorem dX4_addOutputs_11 : decode cX4_addOutputs 11 = .ok (.getfield 24, 3) := by decide +kernel
theorem dX4_addOutputs_14 : decode cX4_addOutputs 14 = .ok (.aload_n 1, 1) := by decide +kernel
theorem dX4_addOutputs_15 : decode cX4_addOutputs 15 = .ok (.iload_n 2, 1) := by decide +kernel
theorem dX4_addOutputs_16 : decode cX4_addOutputs 16 = .ok (.invokevirtual 72, 3) := by decide +kernel
theorem dX4_addOutputs_19 : decode cX4_addOutputs 19 = .ok (.invokestatic 76, 3) := by decide +kernel
theorem dX4_addOutputs_22 : decode cX4_addOutputs 22 = .ok (.iconst 1, 1) := by decide +kernel
theorem dX4_addOutputs_23 : decode cX4_addOutputs 23 = .ok (.iload_n 2, 1) := by decide +kernel
theorem dX4_addOutputs_24 : decode cX4_addOutputs 24 = .ok (.ishl, 1) := by decide +kernel
theorem dX4_addOutputs_25 : decode cX4_addOutputs 25 = .ok (.invokevirtual 79, 3) := by decide +kernel
theorem dX4_addOutputs_28 : decode cX4_addOutputs 28 = .ok (.iinc 2 1, 3) := by decide +kernel
theorem dX4_addOutputs_31 : decode cX4_addOutputs 31 = .ok (.goto (-29), 3) := by decide +kernel
theorem dX4_addOutputs_34 : decode cX4_addOutputs 34 = .ok (.return_, 1) := by decide +kernel
theorem dX4_takeTask_0 : decode cX4_takeTask 0 = .ok (.aload_n 1, 1) := by decide +kernel
theorem dX4_takeTask_1 : decode cX4_takeTask 1 = .ok (.getfield 83, 3) := by decide +kernel
theorem dX4_takeTask_4 : decode cX4_takeTask 4 = .ok (.istore_n 2, 1) := by decide +kernel
theorem dX4_takeTask_5 : decode cX4_takeTask 5 = .ok (.aload_n 1, 1) := by decide +kernel
theorem dX4_takeTask_6 : decode cX4_takeTask 6 = .ok (.getfield 86, 3) := by decide +kernel
theorem dX4_takeTask_9 : decode cX4_takeTask 9 = .ok (.iconst 1, 1) := by decide +kernel
theorem dX4_takeTask_10 : decode cX4_takeTask 10 = .ok (.if_icmp .ne 7, 3) := by decide +kernel
theorem dX4_takeTask_13 : decode cX4_takeTask 13 = .ok (.iload_n 2, 1) := by decide +kernel
theorem dX4_takeTask_14 : decode cX4_takeTask 14 = .ok (.goto 4, 3) := by decide +kernel
theorem dX4_takeTask_17 : decode cX4_takeTask 17 = .ok (.iconst 0, 1) := by decide +kernel
theorem dX4_takeTask_18 : decode cX4_takeTask 18 = .ok (.istore_n 3, 1) := by decide +kernel
theorem dX4_takeTask_19 : decode cX4_takeTask 19 = .ok (.aload_n 1, 1) := by decide +kernel
theorem dX4_takeTask_20 : decode cX4_takeTask 20 = .ok (.getfield 86, 3) := by decide +kernel
theorem dX4_takeTask_23 : decode cX4_takeTask 23 = .ok (.iconst 1, 1) := by decide +kernel
theorem dX4_takeTask_24 : decode cX4_takeTask 24 = .ok (.if_icmp .ne 10, 3) := by decide +kernel
theorem dX4_takeTask_27 : decode cX4_takeTask 27 = .ok (.aload_n 1, 1) := by decide +kernel
theorem dX4_takeTask_28 : decode cX4_takeTask 28 = .ok (.getfield 89, 3) := by decide +kernel
theorem dX4_takeTask_31 : decode cX4_takeTask 31 = .ok (.goto 16, 3) := by decide +kernel
theorem dX4_takeTask_34 : decode cX4_takeTask 34 = .ok (.aload_n 1, 1) := by decide +kernel
theorem dX4_takeTask_35 : decode cX4_takeTask 35 = .ok (.getfield 86, 3) := by decide +kernel
theorem dX4_takeTask_38 : decode cX4_takeTask 38 = .ok (.iconst 2, 1) := by decide +kernel
theorem dX4_takeTask_39 : decode cX4_takeTask 39 = .ok (.if_icmp .ne 7, 3) := by decide +kernel
theorem dX4_takeTask_42 : decode cX4_takeTask 42 = .ok (.iload_n 2, 1) := by decide +kernel
theorem dX4_takeTask_43 : decode cX4_takeTask 43 = .ok (.goto 4, 3) := by decide +kernel
theorem dX4_takeTask_46 : decode cX4_takeTask 46 = .ok (.iconst 0, 1) := by decide +kernel
theorem dX4_takeTask_47 : decode cX4_takeTask 47 = .ok (.istore 4, 2) := by decide +kernel
theorem dX4_takeTask_49 : decode cX4_takeTask 49 = .ok (.iconst 0, 1) := by decide +kernel
theorem dX4_takeTask_50 : decode cX4_takeTask 50 = .ok (.istore 5, 2) := by decide +kernel
theorem dX4_takeTask_52 : decode cX4_takeTask 52 = .ok (.iload 5, 2) := by decide +kernel
theorem dX4_takeTask_54 : decode cX4_takeTask 54 = .ok (.iload_n 2, 1) := by decide +kernel
theorem dX4_takeTask_55 : decode cX4_takeTask 55 = .ok (.if_icmp .ge 81, 3) := by decide +kernel
theorem dX4_takeTask_58 : decode cX4_takeTask 58 = .ok (.aload_n 0, 1) := by decide +kernel
theorem dX4_takeTask_59 : decode cX4_takeTask 59 = .ok (.getfield 24, 3) := by decide +kernel
theorem dX4_takeTask_62 : decode cX4_takeTask 62 = .ok (.iload 5, 2) := by decide +kernel
theorem dX4_takeTask_64 : decode cX4_takeTask 64 = .ok (.invokestatic 76, 3) := by decide +kernel
theorem dX4_takeTask_67 : decode cX4_takeTask 67 = .ok (.getstatic 92, 3) := by decide +kernel
theorem dX4_takeTask_70 : decode cX4_takeTask 70 = .ok (.aload_n 1, 1) := by decide +kernel
theorem dX4_takeTask_71 : decode cX4_takeTask 71 = .ok (.getfield 86, 3) := by decide +kernel
theorem dX4_takeTask_74 : decode cX4_takeTask 74 = .ok (.invokestatic 64, 3) := by decide +kernel
theorem dX4_takeTask_77 : decode cX4_takeTask 77 = .ok (.ineg, 1) := by decide +kernel
theorem dX4_takeTask_78 : decode cX4_takeTask 78 = .ok (.iconst 1, 1) := by decide +kernel
theorem dX4_takeTask_79 : decode cX4_takeTask 79 = .ok (.iload 5, 2) := by decide +kernel
theorem dX4_takeTask_81 : decode cX4_takeTask 81 = .ok (.ishl, 1) := by decide +kernel
theorem dX4_takeTask_82 : decode cX4_takeTask 82 = .ok (.imul, 1) := by decide +kernel
theorem dX4_takeTask_83 : decode cX4_takeTask 83 = .ok (.invokevirtual 79, 3) := by decide +kernel
theorem dX4_takeTask_86 : decode cX4_takeTask 86 = .ok (.iconst 0, 1) := by decide +kernel
theorem dX4_takeTask_87 : decode cX4_takeTask 87 = .ok (.istore 6, 2) := by decide +kernel
theorem dX4_takeTask_89 : decode cX4_takeTask 89 = .ok (.iload 6, 2) := by decide +kernel
theorem dX4_takeTask_91 : decode cX4_takeTask 91 = .ok (.iload 4, 2) := by decide +kernel
theorem dX4_takeTask_93 : decode cX4_takeTask 93 = .ok (.if_icmp .ge 37, 3) := by decide +kernel
theorem dX4_takeTask_96 : decode cX4_takeTask 96 = .ok (.aload_n 0, 1) := by decide +kernel
theorem dX4_takeTask_97 : decode cX4_takeTask 97 = .ok (.getfield 24, 3) := by decide +kernel
theorem dX4_takeTask_100 : decode cX4_takeTask 100 = .ok (.iload 5, 2) := by decide +kernel
theorem dX4_takeTask_102 : decode cX4_takeTask 102 = .ok (.invokestatic 76, 3) := by decide +kernel
theorem dX4_takeTask_105 : decode cX4_takeTask 105 = .ok (.iload_n 3, 1) := by decide +kernel
theorem dX4_takeTask_106 : decode cX4_takeTask 106 = .ok (.iload 6, 2) := by decide +kernel
theorem dX4_takeTask_108 : decode cX4_takeTask 108 = .ok (.iadd, 1) := by decide +kernel
theorem dX4_takeTask_109 : decode cX4_takeTask 109 = .ok (.invokestatic 76, 3) := by decide +kernel
theorem dX4_takeTask_112 : decode cX4_takeTask 112 = .ok (.ior, 1) := by decide +kernel
theorem dX4_takeTask_113 : decode cX4_takeTask 113 = .ok (.iconst 1, 1) := by decide +kernel
theorem dX4_takeTask_114 : decode cX4_takeTask 114 = .ok (.iload 5, 2) := by decide +kernel
theorem dX4_takeTask_116 : decode cX4_takeTask 116 = .ok (.iload 6, 2) := by decide +kernel
theorem dX4_takeTask_118 : decode cX4_takeTask 118 = .ok (.iadd, 1) := by decide +kernel
theorem dX4_takeTask_119 : decode cX4_takeTask 119 = .ok (.ishl, 1) := by decide +kernel
theorem dX4_takeTask_120 : decode cX4_takeTask 120 = .ok (.ineg, 1) := by decide +kernel
theorem dX4_takeTask_121 : decode cX4_takeTask 121 = .ok (.invokevirtual 79, 3) := by decide +kernel
theorem dX4_takeTask_124 : decode cX4_takeTask 124 = .ok (.iinc 6 1, 3) := by decide +kernel
theorem dX4_takeTask_127 : decode cX4_takeTask 127 = .ok (.goto (-38), 3) := by decide +kernel
theorem dX4_takeTask_130 : decode cX4_takeTask 130 = .ok (.iinc 5 1, 3) := by decide +kernel
theorem dX4_takeTask_133 : decode cX4_takeTask 133 = .ok (.goto (-81), 3) := by decide +kernel
theorem dX4_takeTask_136 : decode cX4_takeTask 136 = .ok (.iconst 0, 1) := by decide +kernel
theorem dX4_takeTask_137 : decode cX4_takeTask 137 = .ok (.istore 5, 2) := by decide +kernel
theorem dX4_takeTask_139 : decode cX4_takeTask 139 = .ok (.iload 5, 2) := by decide +kernel
theorem dX4_takeTask_141 : decode cX4_takeTask 141 = .ok (.aload_n 1, 1) := by decide +kernel
theorem dX4_takeTask_142 : decode cX4_takeTask 142 = .ok (.getfield 89, 3) := by decide +kernel
theorem dX4_takeTask_145 : decode cX4_takeTask 145 = .ok (.if_icmp .ge 39, 3) := by decide +kernel
theorem dX4_takeTask_148 : decode cX4_takeTask 148 = .ok (.aload_n 0, 1) := by decide +kernel
theorem dX4_takeTask_149 : decode cX4_takeTask 149 = .ok (.getfield 24, 3) := by decide +kernel
theorem dX4_takeTask_152 : decode cX4_takeTask 152 = .ok (.iload_n 2, 1) := by decide +kernel
theorem dX4_takeTask_153 : decode cX4_takeTask 153 = .ok (.iload 5, 2) := by decide +kernel
theorem dX4_takeTask_155 : decode cX4_takeTask 155 = .ok (.iadd, 1) := by decide +kernel
theorem dX4_takeTask_156 : decode cX4_takeTask 156 = .ok (.invokestatic 76, 3) := by decide +kernel
theorem dX4_takeTask_159 : decode cX4_takeTask 159 = .ok (.getstatic 95, 3) := by decide +kernel
theorem dX4_takeTask_162 : decode cX4_takeTask 162 = .ok (.aload_n 1, 1) := by decide +kernel
theorem dX4_takeTask_163 : decode cX4_takeTask 163 = .ok (.getfield 86, 3) := by decide +kernel
theorem dX4_takeTask_166 : decode cX4_takeTask 166 = .ok (.invokestatic 64, 3) := by decide +kernel
theorem dX4_takeTask_169 : decode cX4_takeTask 169 = .ok (.ineg, 1) := by decide +kernel
theorem dX4_takeTask_170 : decode cX4_takeTask 170 = .ok (.iconst 1, 1) := by decide +kernel
theorem dX4_takeTask_171 : decode cX4_takeTask 171 = .ok (.iload 5, 2) := by decide +kernel
theorem dX4_takeTask_173 : decode cX4_takeTask 173 = .ok (.ishl, 1) := by decide +kernel
theorem dX4_takeTask_174 : decode cX4_takeTask 174 = .ok (.imul, 1) := by decide +kernel
theorem dX4_takeTask_175 : decode cX4_takeTask 175 = .ok (.invokevirtual 79, 3) := by decide +kernel
theorem dX4_takeTask_178 : decode cX4_takeTask 178 = .ok (.iinc 5 1, 3) := by decide +kernel
theorem dX4_takeTask_181 : decode cX4_takeTask 181 = .ok (.goto (-42), 3) := by decide +kernel
theorem dX4_takeTask_184 : decode cX4_takeTask 184 = .ok (.return_, 1) := by decide +kernel
theorem dX4_replaceGate_0 : decode cX4_replaceGate 0 = .ok (.aload_n 1, 1) := by decide +kernel
theorem dX4_replaceGate_1 : decode cX4_replaceGate 1 = .ok (.getfield 98, 3) := by decide +kernel
theorem dX4_replaceGate_4 : decode cX4_replaceGate 4 = .ok (.iload_n 3, 1) := by decide +kernel
theorem dX4_replaceGate_5 : decode cX4_replaceGate 5 = .ok (.iadd, 1) := by decide +kernel
theorem dX4_replaceGate_6 : decode cX4_replaceGate 6 = .ok (.invokestatic 76, 3) := by decide +kernel
theorem dX4_replaceGate_9 : decode cX4_replaceGate 9 = .ok (.istore 4, 2) := by decide +kernel
theorem dX4_replaceGate_11 : decode cX4_replaceGate 11 = .ok (.aload_n 1, 1) := by decide +kernel
theorem dX4_replaceGate_12 : decode cX4_replaceGate 12 = .ok (.iload_n 3, 1) := by decide +kernel
theorem dX4_replaceGate_13 : decode cX4_replaceGate 13 = .ok (.invokevirtual 101, 3) := by decide +kernel
theorem dX4_replaceGate_16 : decode cX4_replaceGate 16 = .ok (.invokestatic 76, 3) := by decide +kernel
theorem dX4_replaceGate_19 : decode cX4_replaceGate 19 = .ok (.istore 5, 2) := by decide +kernel
theorem dX4_replaceGate_21 : decode cX4_replaceGate 21 = .ok (.aload_n 1, 1) := by decide +kernel
theorem dX4_replaceGate_22 : decode cX4_replaceGate 22 = .ok (.iload_n 3, 1) := by decide +kernel
theorem dX4_replaceGate_23 : decode cX4_replaceGate 23 = .ok (.invokevirtual 104, 3) := by decide +kernel
theorem dX4_replaceGate_26 : decode cX4_replaceGate 26 = .ok (.invokestatic 76, 3) := by decide +kernel
theorem dX4_replaceGate_29 : decode cX4_replaceGate 29 = .ok (.istore 6, 2) := by decide +kernel
theorem dX4_replaceGate_31 : decode cX4_replaceGate 31 = .ok (.aload_n 1, 1) := by decide +kernel
theorem dX4_replaceGate_32 : decode cX4_replaceGate 32 = .ok (.iload_n 3, 1) := by decide +kernel
theorem dX4_replaceGate_33 : decode cX4_replaceGate 33 = .ok (.invokevirtual 107, 3) := by decide +kernel
end
section
set_option maxRecDepth 20000 in
theorem tc_ggX4_replaceGate_X0_kindOf : GoodIn wsX4_replaceGate wsX0_kindOf := goodIn_r _ [26, 27, 16, 8, 17, 71, 72, 73, 74, 75, 76, 77, 78, 79, 80, 81] (by decide +kernel) rfl
set_option maxRecDepth 20000 in
theorem tc_ggX4_replaceGate_X4_sizeOf : GoodIn wsX4_replaceGate wsX4_sizeOf := goodIn_r _ [32, 33, 34, 16, 8, 17, 82, 83, 84, 85, 86, 87] (by decide +kernel) rfl
set_option maxRecDepth 20000 in
theorem tc_ggX4_replaceGate_X4_setAt : GoodIn wsX4_replaceGate wsX4_setAt := goodIn_r _ [38, 39, 16, 8, 17, 82, 83, 84, 85, 86, 87] (by decide +kernel) rfl
set_option maxRecDepth 20000 in
theorem tc_ggX4_replaceGate_X4_coefficientAt : GoodIn wsX4_replaceGate wsX4_coefficientAt := goodIn_r _ [43, 44, 16, 8, 17, 82, 83, 84, 85, 86, 87] (by decide +kernel) rfl
set_option maxRecDepth 20000 in
theorem tc_ggX4_replaceGate_X2_add : GoodIn wsX4_replaceGate wsX2_add := goodIn_r _ [49, 50, 51, 52, 53, 54, 55, 48, 56, 16, 8, 17, 57, 58, 59, 60, 61, 62, 63, 64, 65, 66, 67, 68, 69, 70, 88, 89, 90] (by decide +kernel) rfl
set_option maxRecDepth 20000 in
theorem tc_ggX4_replaceGate_X6_at : GoodIn wsX4_replaceGate wsX6_at := goodIn_r _ [17] (by decide +kernel) rfl
set_option maxRecDepth 20000 in
theorem tc_ggX4_sizeOf_X6_at : GoodIn wsX4_sizeOf wsX6_at := goodIn_r _ [5] (by decide +kernel) rfl
set_option maxRecDepth 20000 in
theorem tc_ggX4_setAt_X6_at : GoodIn wsX4_setAt wsX6_at := goodIn_r _ [4] (by decide +kernel) rfl
set_option maxRecDepth 20000 in
theorem tc_ggX4_coefficientAt_X6_at : GoodIn wsX4_coefficientAt wsX6_at := goodIn_r _ [4] (by decide +kernel) rfl
set_option maxRecDepth 20000 in
theorem tc_ggX4_greatestSize_X4_sizeOf : GoodIn wsX4_greatestSize wsX4_sizeOf := goodIn_r _ [10, 11, 1, 12, 13, 14, 15, 16, 17, 18, 19, 20] (by decide +kernel) rfl
set_option maxRecDepth 20000 in
theorem tc_ggX4_widestOf_X4_sizeOf : GoodIn wsX4_widestOf wsX4_sizeOf := goodIn_r _ [9, 10, 11, 12, 13, 14, 27, 28, 29, 30, 31, 32] (by decide +kernel) rfl
set_option maxRecDepth 20000 in
theorem tc_ggX4_widestOf_X4_setAt : GoodIn wsX4_widestOf wsX4_setAt := goodIn_r _ [18, 19, 12, 13, 14, 27, 28, 29, 30, 31, 32] (by decide +kernel) rfl
set_option maxRecDepth 20000 in
theorem tc_ggX4_widestOf_J6_bitCount_0f7a4 : GoodIn wsX4_widestOf wsJ6_bitCount_0f7a4 := goodIn_r _ [23, 24, 25, 26] (by decide +kernel) rfl
set_option maxRecDepth 20000 in
theorem tc_ggX4_narrowestOf_X4_sizeOf : GoodIn wsX4_narrowestOf wsX4_sizeOf := goodIn_r _ [5, 6, 7, 8, 9, 10, 23, 24, 25, 26, 27, 28] (by decide +kernel) rfl
set_option maxRecDepth 20000 in
theorem tc_ggX4_narrowestOf_X4_setAt : GoodIn wsX4_narrowestOf wsX4_setAt := goodIn_r _ [14, 15, 8, 9, 10, 23, 24, 25, 26, 27, 28] (by decide +kernel) rfl
set_option maxRecDepth 20000 in
theorem tc_ggX4_narrowestOf_J6_bitCount_0f7a4 : GoodIn wsX4_narrowestOf wsJ6_bitCount_0f7a4 := goodIn_r _ [19, 20, 21, 22] (by decide +kernel) rfl
set_option maxRecDepth 20000 in
theorem tc_ggX4_unionOf_X4_sizeOf : GoodIn wsX4_unionOf wsX4_sizeOf := goodIn_r _ [5, 6, 7, 8, 9, 10, 16, 17, 18, 19, 20, 21] (by decide +kernel) rfl
set_option maxRecDepth 20000 in
theorem tc_ggX4_unionOf_X4_setAt : GoodIn wsX4_unionOf wsX4_setAt := goodIn_r _ [14, 15, 8, 9, 10, 16, 17, 18, 19, 20, 21] (by decide +kernel) rfl
set_option maxRecDepth 20000 in
theorem tc_ggX4_sumWhere_X4_sizeOf : GoodIn wsX4_sumWhere wsX4_sizeOf := goodIn_r _ [5, 6, 7, 8, 9, 10, 21, 22, 23, 24, 25, 26] (by decide +kernel) rfl
set_option maxRecDepth 20000 in
theorem tc_ggX4_sumWhere_X4_setAt : GoodIn wsX4_sumWhere wsX4_setAt := goodIn_r _ [14, 15, 8, 9, 10, 21, 22, 23, 24, 25, 26] (by decide +kernel) rfl
end
section
-- an end that compiles
theorem zz_end : True := trivial
end
